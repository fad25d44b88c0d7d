section
-- ===== PART A: goes FIRST, ahead of the names: the tables' words, and 'selects' of the private methods out of them =====
/-- a private method of a class that the tables say can be made, by its rows of tables_1 -/
def lw_okq (q : MethodName × Nat) : Prop := (q.1.cls ≠ "java/lang/invoke/MethodHandle" ∧ q.1.cls ≠ "java/lang/invoke/VarHandle") ∧ Cond.instantiable q.1.cls q.2 ∈ tables_1 ∧ Cond.privateMethod q.1 ∈ tables_1 ∧ Cond.instanceMethod q.1 ∈ tables_1
theorem lw_p0 : lw_okq (⟨"DropCapitals$Reader", "advance", "()V"⟩, 11) := ⟨⟨by decide +kernel, by decide +kernel⟩, List.mem_of_getElem? (i := 115) (by decide +kernel), List.mem_of_getElem? (i := 361) (by decide +kernel), List.mem_of_getElem? (i := 362) (by decide +kernel)⟩
theorem lw_p1 : lw_okq (⟨"DropCapitals$Reader", "isLetter", "(I)Z"⟩, 11) := ⟨⟨by decide +kernel, by decide +kernel⟩, List.mem_of_getElem? (i := 115) (by decide +kernel), List.mem_of_getElem? (i := 365) (by decide +kernel), List.mem_of_getElem? (i := 366) (by decide +kernel)⟩
theorem lw_p2 : lw_okq (⟨"DropCapitals$Reader", "takeFigures", "()V"⟩, 11) := ⟨⟨by decide +kernel, by decide +kernel⟩, List.mem_of_getElem? (i := 115) (by decide +kernel), List.mem_of_getElem? (i := 369) (by decide +kernel), List.mem_of_getElem? (i := 370) (by decide +kernel)⟩
theorem lw_p3 : lw_okq (⟨"DropCapitals$Reader", "readLine", "()Z"⟩, 11) := ⟨⟨by decide +kernel, by decide +kernel⟩, List.mem_of_getElem? (i := 115) (by decide +kernel), List.mem_of_getElem? (i := 373) (by decide +kernel), List.mem_of_getElem? (i := 374) (by decide +kernel)⟩
theorem lw_p4 : lw_okq (⟨"DropCapitals$Reader", "refuse", "(I)Z"⟩, 11) := ⟨⟨by decide +kernel, by decide +kernel⟩, List.mem_of_getElem? (i := 115) (by decide +kernel), List.mem_of_getElem? (i := 377) (by decide +kernel), List.mem_of_getElem? (i := 378) (by decide +kernel)⟩
theorem lw_p5 : lw_okq (⟨"DropCapitals$Reader", "isNamed", "(Ljava/lang/String;)Z"⟩, 11) := ⟨⟨by decide +kernel, by decide +kernel⟩, List.mem_of_getElem? (i := 115) (by decide +kernel), List.mem_of_getElem? (i := 382) (by decide +kernel), List.mem_of_getElem? (i := 383) (by decide +kernel)⟩
theorem lw_p6 : lw_okq (⟨"DropCapitals$Reader", "readSetting", "()Z"⟩, 11) := ⟨⟨by decide +kernel, by decide +kernel⟩, List.mem_of_getElem? (i := 115) (by decide +kernel), List.mem_of_getElem? (i := 434) (by decide +kernel), List.mem_of_getElem? (i := 435) (by decide +kernel)⟩
theorem lw_p7 : lw_okq (⟨"DropCapitals$Reader", "settingNamed", "()I"⟩, 11) := ⟨⟨by decide +kernel, by decide +kernel⟩, List.mem_of_getElem? (i := 115) (by decide +kernel), List.mem_of_getElem? (i := 438) (by decide +kernel), List.mem_of_getElem? (i := 439) (by decide +kernel)⟩
theorem lw_p8 : lw_okq (⟨"DropCapitals$Reader", "readNumber", "(II)Z"⟩, 11) := ⟨⟨by decide +kernel, by decide +kernel⟩, List.mem_of_getElem? (i := 115) (by decide +kernel), List.mem_of_getElem? (i := 452) (by decide +kernel), List.mem_of_getElem? (i := 453) (by decide +kernel)⟩
theorem lw_p9 : lw_okq (⟨"DropCapitals$Reader", "readShape", "()Z"⟩, 11) := ⟨⟨by decide +kernel, by decide +kernel⟩, List.mem_of_getElem? (i := 115) (by decide +kernel), List.mem_of_getElem? (i := 457) (by decide +kernel), List.mem_of_getElem? (i := 458) (by decide +kernel)⟩
theorem lw_p10 : lw_okq (⟨"DropCapitals$Reader", "letterAt", "(I)I"⟩, 11) := ⟨⟨by decide +kernel, by decide +kernel⟩, List.mem_of_getElem? (i := 115) (by decide +kernel), List.mem_of_getElem? (i := 461) (by decide +kernel), List.mem_of_getElem? (i := 462) (by decide +kernel)⟩
theorem lw_p11 : lw_okq (⟨"DropCapitals$Reader", "readPar", "()Z"⟩, 11) := ⟨⟨by decide +kernel, by decide +kernel⟩, List.mem_of_getElem? (i := 115) (by decide +kernel), List.mem_of_getElem? (i := 478) (by decide +kernel), List.mem_of_getElem? (i := 479) (by decide +kernel)⟩
theorem lw_p12 : lw_okq (⟨"DropCapitals$Reader", "readWords", "()Z"⟩, 11) := ⟨⟨by decide +kernel, by decide +kernel⟩, List.mem_of_getElem? (i := 115) (by decide +kernel), List.mem_of_getElem? (i := 486) (by decide +kernel), List.mem_of_getElem? (i := 487) (by decide +kernel)⟩
theorem lw_p13 : lw_okq (⟨"DropCapitals$Reader", "wordAtHand", "()I"⟩, 11) := ⟨⟨by decide +kernel, by decide +kernel⟩, List.mem_of_getElem? (i := 115) (by decide +kernel), List.mem_of_getElem? (i := 490) (by decide +kernel), List.mem_of_getElem? (i := 491) (by decide +kernel)⟩
theorem lw_p14 : lw_okq (⟨"DropCapitals$Pages", "comesAhead", "(I)Z"⟩, 7) := ⟨⟨by decide +kernel, by decide +kernel⟩, List.mem_of_getElem? (i := 61) (by decide +kernel), List.mem_of_getElem? (i := 524) (by decide +kernel), List.mem_of_getElem? (i := 525) (by decide +kernel)⟩
theorem lw_p15 : lw_okq (⟨"DropCapitals", "laid", "()LDropCapitals$Layout;"⟩, 16) := ⟨⟨by decide +kernel, by decide +kernel⟩, List.mem_of_getElem? (i := 16) (by decide +kernel), List.mem_of_getElem? (i := 528) (by decide +kernel), List.mem_of_getElem? (i := 529) (by decide +kernel)⟩
def lw_privs_1 : List (MethodName × Nat) := [(⟨"DropCapitals$Reader", "advance", "()V"⟩, 11), (⟨"DropCapitals$Reader", "isLetter", "(I)Z"⟩, 11), (⟨"DropCapitals$Reader", "takeFigures", "()V"⟩, 11), (⟨"DropCapitals$Reader", "readLine", "()Z"⟩, 11), (⟨"DropCapitals$Reader", "refuse", "(I)Z"⟩, 11), (⟨"DropCapitals$Reader", "isNamed", "(Ljava/lang/String;)Z"⟩, 11), (⟨"DropCapitals$Reader", "readSetting", "()Z"⟩, 11), (⟨"DropCapitals$Reader", "settingNamed", "()I"⟩, 11), (⟨"DropCapitals$Reader", "readNumber", "(II)Z"⟩, 11), (⟨"DropCapitals$Reader", "readShape", "()Z"⟩, 11), (⟨"DropCapitals$Reader", "letterAt", "(I)I"⟩, 11), (⟨"DropCapitals$Reader", "readPar", "()Z"⟩, 11), (⟨"DropCapitals$Reader", "readWords", "()Z"⟩, 11), (⟨"DropCapitals$Reader", "wordAtHand", "()I"⟩, 11), (⟨"DropCapitals$Pages", "comesAhead", "(I)Z"⟩, 7), (⟨"DropCapitals", "laid", "()LDropCapitals$Layout;"⟩, 16)]
theorem lw_r1 : ∀ q ∈ lw_privs_1, lw_okq q := List.forall_mem_cons.mpr ⟨lw_p0, List.forall_mem_cons.mpr ⟨lw_p1, List.forall_mem_cons.mpr ⟨lw_p2, List.forall_mem_cons.mpr ⟨lw_p3, List.forall_mem_cons.mpr ⟨lw_p4, List.forall_mem_cons.mpr ⟨lw_p5, List.forall_mem_cons.mpr ⟨lw_p6, List.forall_mem_cons.mpr ⟨lw_p7, List.forall_mem_cons.mpr ⟨lw_p8, List.forall_mem_cons.mpr ⟨lw_p9, List.forall_mem_cons.mpr ⟨lw_p10, List.forall_mem_cons.mpr ⟨lw_p11, List.forall_mem_cons.mpr ⟨lw_p12, List.forall_mem_cons.mpr ⟨lw_p13, List.forall_mem_cons.mpr ⟨lw_p14, List.forall_mem_cons.mpr ⟨lw_p15, fun _ h => absurd h List.not_mem_nil⟩⟩⟩⟩⟩⟩⟩⟩⟩⟩⟩⟩⟩⟩⟩⟩
theorem lw_p16 : lw_okq (⟨"DropCapitals$Layout", "leaveEmpty", "(I)V"⟩, 14) := ⟨⟨by decide +kernel, by decide +kernel⟩, List.mem_of_getElem? (i := 222) (by decide +kernel), List.mem_of_getElem? (i := 549) (by decide +kernel), List.mem_of_getElem? (i := 550) (by decide +kernel)⟩
theorem lw_p17 : lw_okq (⟨"DropCapitals$Layout", "lastReachedAhead", "(I)I"⟩, 14) := ⟨⟨by decide +kernel, by decide +kernel⟩, List.mem_of_getElem? (i := 222) (by decide +kernel), List.mem_of_getElem? (i := 557) (by decide +kernel), List.mem_of_getElem? (i := 558) (by decide +kernel)⟩
theorem lw_p18 : lw_okq (⟨"DropCapitals$Layout", "drawReaches", "(I)V"⟩, 14) := ⟨⟨by decide +kernel, by decide +kernel⟩, List.mem_of_getElem? (i := 222) (by decide +kernel), List.mem_of_getElem? (i := 565) (by decide +kernel), List.mem_of_getElem? (i := 566) (by decide +kernel)⟩
theorem lw_p19 : lw_okq (⟨"DropCapitals$Layout", "layPar", "(I)V"⟩, 14) := ⟨⟨by decide +kernel, by decide +kernel⟩, List.mem_of_getElem? (i := 222) (by decide +kernel), List.mem_of_getElem? (i := 577) (by decide +kernel), List.mem_of_getElem? (i := 578) (by decide +kernel)⟩
theorem lw_p20 : lw_okq (⟨"DropCapitals$Layout", "indentAt", "(II)I"⟩, 14) := ⟨⟨by decide +kernel, by decide +kernel⟩, List.mem_of_getElem? (i := 222) (by decide +kernel), List.mem_of_getElem? (i := 585) (by decide +kernel), List.mem_of_getElem? (i := 586) (by decide +kernel)⟩
theorem lw_p21 : lw_okq (⟨"DropCapitals$Layout", "reachAhead", "(II)I"⟩, 14) := ⟨⟨by decide +kernel, by decide +kernel⟩, List.mem_of_getElem? (i := 222) (by decide +kernel), List.mem_of_getElem? (i := 589) (by decide +kernel), List.mem_of_getElem? (i := 590) (by decide +kernel)⟩
theorem lw_p22 : lw_okq (⟨"DropCapitals$Breaker", "weigh", "(III)V"⟩, 8) := ⟨⟨by decide +kernel, by decide +kernel⟩, List.mem_of_getElem? (i := 188) (by decide +kernel), List.mem_of_getElem? (i := 601) (by decide +kernel), List.mem_of_getElem? (i := 602) (by decide +kernel)⟩
theorem lw_p23 : lw_okq (⟨"DropCapitals$Layout", "addLine", "(IIII)V"⟩, 14) := ⟨⟨by decide +kernel, by decide +kernel⟩, List.mem_of_getElem? (i := 222) (by decide +kernel), List.mem_of_getElem? (i := 607) (by decide +kernel), List.mem_of_getElem? (i := 608) (by decide +kernel)⟩
theorem lw_p24 : lw_okq (⟨"DropCapitals", "isShape", "(I)Z"⟩, 16) := ⟨⟨by decide +kernel, by decide +kernel⟩, List.mem_of_getElem? (i := 16) (by decide +kernel), List.mem_of_getElem? (i := 631) (by decide +kernel), List.mem_of_getElem? (i := 632) (by decide +kernel)⟩
theorem lw_p25 : lw_okq (⟨"DropCapitals", "isPar", "(I)Z"⟩, 16) := ⟨⟨by decide +kernel, by decide +kernel⟩, List.mem_of_getElem? (i := 16) (by decide +kernel), List.mem_of_getElem? (i := 657) (by decide +kernel), List.mem_of_getElem? (i := 658) (by decide +kernel)⟩
theorem lw_p26 : lw_okq (⟨"DropCapitals", "drawnHeight", "(I)I"⟩, 16) := ⟨⟨by decide +kernel, by decide +kernel⟩, List.mem_of_getElem? (i := 16) (by decide +kernel), List.mem_of_getElem? (i := 661) (by decide +kernel), List.mem_of_getElem? (i := 662) (by decide +kernel)⟩
theorem lw_p27 : lw_okq (⟨"DropCapitals", "parLies", "(II)I"⟩, 16) := ⟨⟨by decide +kernel, by decide +kernel⟩, List.mem_of_getElem? (i := 16) (by decide +kernel), List.mem_of_getElem? (i := 666) (by decide +kernel), List.mem_of_getElem? (i := 667) (by decide +kernel)⟩
theorem lw_p28 : lw_okq (⟨"DropCapitals", "bestDrop", "(I)I"⟩, 16) := ⟨⟨by decide +kernel, by decide +kernel⟩, List.mem_of_getElem? (i := 16) (by decide +kernel), List.mem_of_getElem? (i := 733) (by decide +kernel), List.mem_of_getElem? (i := 734) (by decide +kernel)⟩
theorem lw_p29 : lw_okq (⟨"DropCapitals", "layTrial", "(II)V"⟩, 16) := ⟨⟨by decide +kernel, by decide +kernel⟩, List.mem_of_getElem? (i := 16) (by decide +kernel), List.mem_of_getElem? (i := 737) (by decide +kernel), List.mem_of_getElem? (i := 738) (by decide +kernel)⟩
theorem lw_p30 : lw_okq (⟨"DropCapitals$Pages", "takePar", "(II)V"⟩, 7) := ⟨⟨by decide +kernel, by decide +kernel⟩, List.mem_of_getElem? (i := 61) (by decide +kernel), List.mem_of_getElem? (i := 771) (by decide +kernel), List.mem_of_getElem? (i := 772) (by decide +kernel)⟩
theorem lw_p31 : lw_okq (⟨"DropCapitals", "isKept", "(I)Z"⟩, 16) := ⟨⟨by decide +kernel, by decide +kernel⟩, List.mem_of_getElem? (i := 16) (by decide +kernel), List.mem_of_getElem? (i := 795) (by decide +kernel), List.mem_of_getElem? (i := 796) (by decide +kernel)⟩
def lw_privs_2 : List (MethodName × Nat) := [(⟨"DropCapitals$Layout", "leaveEmpty", "(I)V"⟩, 14), (⟨"DropCapitals$Layout", "lastReachedAhead", "(I)I"⟩, 14), (⟨"DropCapitals$Layout", "drawReaches", "(I)V"⟩, 14), (⟨"DropCapitals$Layout", "layPar", "(I)V"⟩, 14), (⟨"DropCapitals$Layout", "indentAt", "(II)I"⟩, 14), (⟨"DropCapitals$Layout", "reachAhead", "(II)I"⟩, 14), (⟨"DropCapitals$Breaker", "weigh", "(III)V"⟩, 8), (⟨"DropCapitals$Layout", "addLine", "(IIII)V"⟩, 14), (⟨"DropCapitals", "isShape", "(I)Z"⟩, 16), (⟨"DropCapitals", "isPar", "(I)Z"⟩, 16), (⟨"DropCapitals", "drawnHeight", "(I)I"⟩, 16), (⟨"DropCapitals", "parLies", "(II)I"⟩, 16), (⟨"DropCapitals", "bestDrop", "(I)I"⟩, 16), (⟨"DropCapitals", "layTrial", "(II)V"⟩, 16), (⟨"DropCapitals$Pages", "takePar", "(II)V"⟩, 7), (⟨"DropCapitals", "isKept", "(I)Z"⟩, 16)]
theorem lw_r2 : ∀ q ∈ lw_privs_2, lw_okq q := List.forall_mem_cons.mpr ⟨lw_p16, List.forall_mem_cons.mpr ⟨lw_p17, List.forall_mem_cons.mpr ⟨lw_p18, List.forall_mem_cons.mpr ⟨lw_p19, List.forall_mem_cons.mpr ⟨lw_p20, List.forall_mem_cons.mpr ⟨lw_p21, List.forall_mem_cons.mpr ⟨lw_p22, List.forall_mem_cons.mpr ⟨lw_p23, List.forall_mem_cons.mpr ⟨lw_p24, List.forall_mem_cons.mpr ⟨lw_p25, List.forall_mem_cons.mpr ⟨lw_p26, List.forall_mem_cons.mpr ⟨lw_p27, List.forall_mem_cons.mpr ⟨lw_p28, List.forall_mem_cons.mpr ⟨lw_p29, List.forall_mem_cons.mpr ⟨lw_p30, List.forall_mem_cons.mpr ⟨lw_p31, fun _ h => absurd h List.not_mem_nil⟩⟩⟩⟩⟩⟩⟩⟩⟩⟩⟩⟩⟩⟩⟩⟩
theorem lw_p32 : lw_okq (⟨"DropCapitals", "imageOf", "(I)LDropCapitals$Pages;"⟩, 16) := ⟨⟨by decide +kernel, by decide +kernel⟩, List.mem_of_getElem? (i := 16) (by decide +kernel), List.mem_of_getElem? (i := 799) (by decide +kernel), List.mem_of_getElem? (i := 800) (by decide +kernel)⟩
theorem lw_p33 : lw_okq (⟨"DropCapitalsModel", "reads", "()V"⟩, 30) := ⟨⟨by decide +kernel, by decide +kernel⟩, List.mem_of_getElem? (i := 807) (by decide +kernel), List.mem_of_getElem? (i := 920) (by decide +kernel), List.mem_of_getElem? (i := 921) (by decide +kernel)⟩
theorem lw_p34 : lw_okq (⟨"DropCapitalsModel", "byteAt", "(I)I"⟩, 30) := ⟨⟨by decide +kernel, by decide +kernel⟩, List.mem_of_getElem? (i := 807) (by decide +kernel), List.mem_of_getElem? (i := 924) (by decide +kernel), List.mem_of_getElem? (i := 925) (by decide +kernel)⟩
theorem lw_p35 : lw_okq (⟨"DropCapitalsModel", "must", "(ZI)V"⟩, 30) := ⟨⟨by decide +kernel, by decide +kernel⟩, List.mem_of_getElem? (i := 807) (by decide +kernel), List.mem_of_getElem? (i := 932) (by decide +kernel), List.mem_of_getElem? (i := 933) (by decide +kernel)⟩
theorem lw_p36 : lw_okq (⟨"DropCapitalsModel", "readsLine", "()V"⟩, 30) := ⟨⟨by decide +kernel, by decide +kernel⟩, List.mem_of_getElem? (i := 807) (by decide +kernel), List.mem_of_getElem? (i := 936) (by decide +kernel), List.mem_of_getElem? (i := 937) (by decide +kernel)⟩
theorem lw_p37 : lw_okq (⟨"DropCapitalsModel", "nameNow", "(II)I"⟩, 30) := ⟨⟨by decide +kernel, by decide +kernel⟩, List.mem_of_getElem? (i := 807) (by decide +kernel), List.mem_of_getElem? (i := 940) (by decide +kernel), List.mem_of_getElem? (i := 941) (by decide +kernel)⟩
theorem lw_p38 : lw_okq (⟨"DropCapitalsModel", "readsSetting", "()V"⟩, 30) := ⟨⟨by decide +kernel, by decide +kernel⟩, List.mem_of_getElem? (i := 807) (by decide +kernel), List.mem_of_getElem? (i := 944) (by decide +kernel), List.mem_of_getElem? (i := 945) (by decide +kernel)⟩
theorem lw_p39 : lw_okq (⟨"DropCapitalsModel", "number", "(II)I"⟩, 30) := ⟨⟨by decide +kernel, by decide +kernel⟩, List.mem_of_getElem? (i := 807) (by decide +kernel), List.mem_of_getElem? (i := 954) (by decide +kernel), List.mem_of_getElem? (i := 955) (by decide +kernel)⟩
theorem lw_p40 : lw_okq (⟨"DropCapitalsModel", "readsShape", "()V"⟩, 30) := ⟨⟨by decide +kernel, by decide +kernel⟩, List.mem_of_getElem? (i := 807) (by decide +kernel), List.mem_of_getElem? (i := 958) (by decide +kernel), List.mem_of_getElem? (i := 959) (by decide +kernel)⟩
theorem lw_p41 : lw_okq (⟨"DropCapitalsModel", "isLetterNow", "()Z"⟩, 30) := ⟨⟨by decide +kernel, by decide +kernel⟩, List.mem_of_getElem? (i := 807) (by decide +kernel), List.mem_of_getElem? (i := 962) (by decide +kernel), List.mem_of_getElem? (i := 963) (by decide +kernel)⟩
theorem lw_p42 : lw_okq (⟨"DropCapitalsModel", "shapeOf", "(I)I"⟩, 30) := ⟨⟨by decide +kernel, by decide +kernel⟩, List.mem_of_getElem? (i := 807) (by decide +kernel), List.mem_of_getElem? (i := 966) (by decide +kernel), List.mem_of_getElem? (i := 967) (by decide +kernel)⟩
theorem lw_p43 : lw_okq (⟨"DropCapitalsModel", "readsStep", "(I)V"⟩, 30) := ⟨⟨by decide +kernel, by decide +kernel⟩, List.mem_of_getElem? (i := 807) (by decide +kernel), List.mem_of_getElem? (i := 970) (by decide +kernel), List.mem_of_getElem? (i := 971) (by decide +kernel)⟩
theorem lw_p44 : lw_okq (⟨"DropCapitalsModel", "readsPar", "()V"⟩, 30) := ⟨⟨by decide +kernel, by decide +kernel⟩, List.mem_of_getElem? (i := 807) (by decide +kernel), List.mem_of_getElem? (i := 974) (by decide +kernel), List.mem_of_getElem? (i := 975) (by decide +kernel)⟩
theorem lw_p45 : lw_okq (⟨"DropCapitalsModel", "isSign", "(I)Z"⟩, 30) := ⟨⟨by decide +kernel, by decide +kernel⟩, List.mem_of_getElem? (i := 807) (by decide +kernel), List.mem_of_getElem? (i := 978) (by decide +kernel), List.mem_of_getElem? (i := 979) (by decide +kernel)⟩
theorem lw_p46 : lw_okq (⟨"DropCapitalsModel", "readsWord", "(I)V"⟩, 30) := ⟨⟨by decide +kernel, by decide +kernel⟩, List.mem_of_getElem? (i := 807) (by decide +kernel), List.mem_of_getElem? (i := 982) (by decide +kernel), List.mem_of_getElem? (i := 983) (by decide +kernel)⟩
theorem lw_p47 : lw_okq (⟨"DropCapitalsModel", "wordsOfDraft", "()I"⟩, 30) := ⟨⟨by decide +kernel, by decide +kernel⟩, List.mem_of_getElem? (i := 807) (by decide +kernel), List.mem_of_getElem? (i := 986) (by decide +kernel), List.mem_of_getElem? (i := 987) (by decide +kernel)⟩
def lw_privs_3 : List (MethodName × Nat) := [(⟨"DropCapitals", "imageOf", "(I)LDropCapitals$Pages;"⟩, 16), (⟨"DropCapitalsModel", "reads", "()V"⟩, 30), (⟨"DropCapitalsModel", "byteAt", "(I)I"⟩, 30), (⟨"DropCapitalsModel", "must", "(ZI)V"⟩, 30), (⟨"DropCapitalsModel", "readsLine", "()V"⟩, 30), (⟨"DropCapitalsModel", "nameNow", "(II)I"⟩, 30), (⟨"DropCapitalsModel", "readsSetting", "()V"⟩, 30), (⟨"DropCapitalsModel", "number", "(II)I"⟩, 30), (⟨"DropCapitalsModel", "readsShape", "()V"⟩, 30), (⟨"DropCapitalsModel", "isLetterNow", "()Z"⟩, 30), (⟨"DropCapitalsModel", "shapeOf", "(I)I"⟩, 30), (⟨"DropCapitalsModel", "readsStep", "(I)V"⟩, 30), (⟨"DropCapitalsModel", "readsPar", "()V"⟩, 30), (⟨"DropCapitalsModel", "isSign", "(I)Z"⟩, 30), (⟨"DropCapitalsModel", "readsWord", "(I)V"⟩, 30), (⟨"DropCapitalsModel", "wordsOfDraft", "()I"⟩, 30)]
theorem lw_r3 : ∀ q ∈ lw_privs_3, lw_okq q := List.forall_mem_cons.mpr ⟨lw_p32, List.forall_mem_cons.mpr ⟨lw_p33, List.forall_mem_cons.mpr ⟨lw_p34, List.forall_mem_cons.mpr ⟨lw_p35, List.forall_mem_cons.mpr ⟨lw_p36, List.forall_mem_cons.mpr ⟨lw_p37, List.forall_mem_cons.mpr ⟨lw_p38, List.forall_mem_cons.mpr ⟨lw_p39, List.forall_mem_cons.mpr ⟨lw_p40, List.forall_mem_cons.mpr ⟨lw_p41, List.forall_mem_cons.mpr ⟨lw_p42, List.forall_mem_cons.mpr ⟨lw_p43, List.forall_mem_cons.mpr ⟨lw_p44, List.forall_mem_cons.mpr ⟨lw_p45, List.forall_mem_cons.mpr ⟨lw_p46, List.forall_mem_cons.mpr ⟨lw_p47, fun _ h => absurd h List.not_mem_nil⟩⟩⟩⟩⟩⟩⟩⟩⟩⟩⟩⟩⟩⟩⟩⟩
theorem lw_p48 : lw_okq (⟨"DropCapitalsModel", "allWords", "()I"⟩, 30) := ⟨⟨by decide +kernel, by decide +kernel⟩, List.mem_of_getElem? (i := 807) (by decide +kernel), List.mem_of_getElem? (i := 1001) (by decide +kernel), List.mem_of_getElem? (i := 1002) (by decide +kernel)⟩
theorem lw_p49 : lw_okq (⟨"DropCapitalsModel", "firstWord", "(I)I"⟩, 30) := ⟨⟨by decide +kernel, by decide +kernel⟩, List.mem_of_getElem? (i := 807) (by decide +kernel), List.mem_of_getElem? (i := 1005) (by decide +kernel), List.mem_of_getElem? (i := 1006) (by decide +kernel)⟩
theorem lw_p50 : lw_okq (⟨"DropCapitalsModel", "parWords", "(I)I"⟩, 30) := ⟨⟨by decide +kernel, by decide +kernel⟩, List.mem_of_getElem? (i := 807) (by decide +kernel), List.mem_of_getElem? (i := 1009) (by decide +kernel), List.mem_of_getElem? (i := 1010) (by decide +kernel)⟩
theorem lw_p51 : lw_okq (⟨"DropCapitalsModel", "unlike", "()I"⟩, 30) := ⟨⟨by decide +kernel, by decide +kernel⟩, List.mem_of_getElem? (i := 807) (by decide +kernel), List.mem_of_getElem? (i := 1013) (by decide +kernel), List.mem_of_getElem? (i := 1014) (by decide +kernel)⟩
theorem lw_p52 : lw_okq (⟨"DropCapitalsModel", "likes", "(II)I"⟩, 30) := ⟨⟨by decide +kernel, by decide +kernel⟩, List.mem_of_getElem? (i := 807) (by decide +kernel), List.mem_of_getElem? (i := 1017) (by decide +kernel), List.mem_of_getElem? (i := 1018) (by decide +kernel)⟩
theorem lw_p53 : lw_okq (⟨"DropCapitalsModel", "isLikeWord", "(II)Z"⟩, 30) := ⟨⟨by decide +kernel, by decide +kernel⟩, List.mem_of_getElem? (i := 807) (by decide +kernel), List.mem_of_getElem? (i := 1021) (by decide +kernel), List.mem_of_getElem? (i := 1022) (by decide +kernel)⟩
theorem lw_p54 : lw_okq (⟨"DropCapitalsModel", "lays", "()V"⟩, 30) := ⟨⟨by decide +kernel, by decide +kernel⟩, List.mem_of_getElem? (i := 807) (by decide +kernel), List.mem_of_getElem? (i := 1025) (by decide +kernel), List.mem_of_getElem? (i := 1026) (by decide +kernel)⟩
theorem lw_p55 : lw_okq (⟨"DropCapitalsModel", "parShape", "(I)I"⟩, 30) := ⟨⟨by decide +kernel, by decide +kernel⟩, List.mem_of_getElem? (i := 807) (by decide +kernel), List.mem_of_getElem? (i := 1029) (by decide +kernel), List.mem_of_getElem? (i := 1030) (by decide +kernel)⟩
theorem lw_p56 : lw_okq (⟨"DropCapitalsModel", "reachedBy", "(I)I"⟩, 30) := ⟨⟨by decide +kernel, by decide +kernel⟩, List.mem_of_getElem? (i := 807) (by decide +kernel), List.mem_of_getElem? (i := 1033) (by decide +kernel), List.mem_of_getElem? (i := 1034) (by decide +kernel)⟩
theorem lw_p57 : lw_okq (⟨"DropCapitalsModel", "heightOf", "(I)I"⟩, 30) := ⟨⟨by decide +kernel, by decide +kernel⟩, List.mem_of_getElem? (i := 807) (by decide +kernel), List.mem_of_getElem? (i := 1037) (by decide +kernel), List.mem_of_getElem? (i := 1038) (by decide +kernel)⟩
theorem lw_p58 : lw_okq (⟨"DropCapitalsModel", "parDrop", "(I)I"⟩, 30) := ⟨⟨by decide +kernel, by decide +kernel⟩, List.mem_of_getElem? (i := 807) (by decide +kernel), List.mem_of_getElem? (i := 1041) (by decide +kernel), List.mem_of_getElem? (i := 1042) (by decide +kernel)⟩
theorem lw_p59 : lw_okq (⟨"DropCapitalsModel", "reachOf", "(II)I"⟩, 30) := ⟨⟨by decide +kernel, by decide +kernel⟩, List.mem_of_getElem? (i := 807) (by decide +kernel), List.mem_of_getElem? (i := 1045) (by decide +kernel), List.mem_of_getElem? (i := 1046) (by decide +kernel)⟩
theorem lw_p60 : lw_okq (⟨"DropCapitalsModel", "ofShape", "(II)I"⟩, 30) := ⟨⟨by decide +kernel, by decide +kernel⟩, List.mem_of_getElem? (i := 807) (by decide +kernel), List.mem_of_getElem? (i := 1049) (by decide +kernel), List.mem_of_getElem? (i := 1050) (by decide +kernel)⟩
theorem lw_p61 : lw_okq (⟨"DropCapitalsModel", "drawnBegin", "(II)I"⟩, 30) := ⟨⟨by decide +kernel, by decide +kernel⟩, List.mem_of_getElem? (i := 807) (by decide +kernel), List.mem_of_getElem? (i := 1053) (by decide +kernel), List.mem_of_getElem? (i := 1054) (by decide +kernel)⟩
theorem lw_p62 : lw_okq (⟨"DropCapitalsModel", "drawnExtent", "(II)I"⟩, 30) := ⟨⟨by decide +kernel, by decide +kernel⟩, List.mem_of_getElem? (i := 807) (by decide +kernel), List.mem_of_getElem? (i := 1057) (by decide +kernel), List.mem_of_getElem? (i := 1058) (by decide +kernel)⟩
theorem lw_p63 : lw_okq (⟨"DropCapitalsModel", "laysFirst", "(I)I"⟩, 30) := ⟨⟨by decide +kernel, by decide +kernel⟩, List.mem_of_getElem? (i := 807) (by decide +kernel), List.mem_of_getElem? (i := 1061) (by decide +kernel), List.mem_of_getElem? (i := 1062) (by decide +kernel)⟩
def lw_privs_4 : List (MethodName × Nat) := [(⟨"DropCapitalsModel", "allWords", "()I"⟩, 30), (⟨"DropCapitalsModel", "firstWord", "(I)I"⟩, 30), (⟨"DropCapitalsModel", "parWords", "(I)I"⟩, 30), (⟨"DropCapitalsModel", "unlike", "()I"⟩, 30), (⟨"DropCapitalsModel", "likes", "(II)I"⟩, 30), (⟨"DropCapitalsModel", "isLikeWord", "(II)Z"⟩, 30), (⟨"DropCapitalsModel", "lays", "()V"⟩, 30), (⟨"DropCapitalsModel", "parShape", "(I)I"⟩, 30), (⟨"DropCapitalsModel", "reachedBy", "(I)I"⟩, 30), (⟨"DropCapitalsModel", "heightOf", "(I)I"⟩, 30), (⟨"DropCapitalsModel", "parDrop", "(I)I"⟩, 30), (⟨"DropCapitalsModel", "reachOf", "(II)I"⟩, 30), (⟨"DropCapitalsModel", "ofShape", "(II)I"⟩, 30), (⟨"DropCapitalsModel", "drawnBegin", "(II)I"⟩, 30), (⟨"DropCapitalsModel", "drawnExtent", "(II)I"⟩, 30), (⟨"DropCapitalsModel", "laysFirst", "(I)I"⟩, 30)]
theorem lw_r4 : ∀ q ∈ lw_privs_4, lw_okq q := List.forall_mem_cons.mpr ⟨lw_p48, List.forall_mem_cons.mpr ⟨lw_p49, List.forall_mem_cons.mpr ⟨lw_p50, List.forall_mem_cons.mpr ⟨lw_p51, List.forall_mem_cons.mpr ⟨lw_p52, List.forall_mem_cons.mpr ⟨lw_p53, List.forall_mem_cons.mpr ⟨lw_p54, List.forall_mem_cons.mpr ⟨lw_p55, List.forall_mem_cons.mpr ⟨lw_p56, List.forall_mem_cons.mpr ⟨lw_p57, List.forall_mem_cons.mpr ⟨lw_p58, List.forall_mem_cons.mpr ⟨lw_p59, List.forall_mem_cons.mpr ⟨lw_p60, List.forall_mem_cons.mpr ⟨lw_p61, List.forall_mem_cons.mpr ⟨lw_p62, List.forall_mem_cons.mpr ⟨lw_p63, fun _ h => absurd h List.not_mem_nil⟩⟩⟩⟩⟩⟩⟩⟩⟩⟩⟩⟩⟩⟩⟩⟩
theorem lw_p64 : lw_okq (⟨"DropCapitalsModel", "roomAt", "(II)I"⟩, 30) := ⟨⟨by decide +kernel, by decide +kernel⟩, List.mem_of_getElem? (i := 807) (by decide +kernel), List.mem_of_getElem? (i := 1065) (by decide +kernel), List.mem_of_getElem? (i := 1066) (by decide +kernel)⟩
theorem lw_p65 : lw_okq (⟨"DropCapitalsModel", "indentAt", "(II)I"⟩, 30) := ⟨⟨by decide +kernel, by decide +kernel⟩, List.mem_of_getElem? (i := 807) (by decide +kernel), List.mem_of_getElem? (i := 1069) (by decide +kernel), List.mem_of_getElem? (i := 1070) (by decide +kernel)⟩
theorem lw_p66 : lw_okq (⟨"DropCapitalsModel", "usedBy", "(II)I"⟩, 30) := ⟨⟨by decide +kernel, by decide +kernel⟩, List.mem_of_getElem? (i := 807) (by decide +kernel), List.mem_of_getElem? (i := 1073) (by decide +kernel), List.mem_of_getElem? (i := 1074) (by decide +kernel)⟩
theorem lw_p67 : lw_okq (⟨"DropCapitalsModel", "widthOf", "(I)I"⟩, 30) := ⟨⟨by decide +kernel, by decide +kernel⟩, List.mem_of_getElem? (i := 807) (by decide +kernel), List.mem_of_getElem? (i := 1077) (by decide +kernel), List.mem_of_getElem? (i := 1078) (by decide +kernel)⟩
theorem lw_p68 : lw_okq (⟨"DropCapitalsModel", "laysEven", "(II)V"⟩, 30) := ⟨⟨by decide +kernel, by decide +kernel⟩, List.mem_of_getElem? (i := 807) (by decide +kernel), List.mem_of_getElem? (i := 1081) (by decide +kernel), List.mem_of_getElem? (i := 1082) (by decide +kernel)⟩
theorem lw_p69 : lw_okq (⟨"DropCapitalsModel", "choosesAt", "(IIIZI)V"⟩, 30) := ⟨⟨by decide +kernel, by decide +kernel⟩, List.mem_of_getElem? (i := 807) (by decide +kernel), List.mem_of_getElem? (i := 1085) (by decide +kernel), List.mem_of_getElem? (i := 1086) (by decide +kernel)⟩
theorem lw_p70 : lw_okq (⟨"DropCapitalsModel", "counted", "(I)I"⟩, 30) := ⟨⟨by decide +kernel, by decide +kernel⟩, List.mem_of_getElem? (i := 807) (by decide +kernel), List.mem_of_getElem? (i := 1089) (by decide +kernel), List.mem_of_getElem? (i := 1090) (by decide +kernel)⟩
theorem lw_p71 : lw_okq (⟨"DropCapitalsModel", "isClash", "(I)Z"⟩, 30) := ⟨⟨by decide +kernel, by decide +kernel⟩, List.mem_of_getElem? (i := 807) (by decide +kernel), List.mem_of_getElem? (i := 1093) (by decide +kernel), List.mem_of_getElem? (i := 1094) (by decide +kernel)⟩
theorem lw_p72 : lw_okq (⟨"DropCapitalsModel", "isOver", "(I)Z"⟩, 30) := ⟨⟨by decide +kernel, by decide +kernel⟩, List.mem_of_getElem? (i := 807) (by decide +kernel), List.mem_of_getElem? (i := 1097) (by decide +kernel), List.mem_of_getElem? (i := 1098) (by decide +kernel)⟩
theorem lw_p73 : lw_okq (⟨"DropCapitalsModel", "isShape", "(I)Z"⟩, 30) := ⟨⟨by decide +kernel, by decide +kernel⟩, List.mem_of_getElem? (i := 807) (by decide +kernel), List.mem_of_getElem? (i := 1105) (by decide +kernel), List.mem_of_getElem? (i := 1106) (by decide +kernel)⟩
theorem lw_p74 : lw_okq (⟨"DropCapitalsModel", "isPar", "(I)Z"⟩, 30) := ⟨⟨by decide +kernel, by decide +kernel⟩, List.mem_of_getElem? (i := 807) (by decide +kernel), List.mem_of_getElem? (i := 1118) (by decide +kernel), List.mem_of_getElem? (i := 1119) (by decide +kernel)⟩
theorem lw_p75 : lw_okq (⟨"DropCapitalsModel", "slacksOf", "(I)I"⟩, 30) := ⟨⟨by decide +kernel, by decide +kernel⟩, List.mem_of_getElem? (i := 807) (by decide +kernel), List.mem_of_getElem? (i := 1123) (by decide +kernel), List.mem_of_getElem? (i := 1124) (by decide +kernel)⟩
theorem lw_p76 : lw_okq (⟨"DropCapitalsModel", "ofLines", "(II)I"⟩, 30) := ⟨⟨by decide +kernel, by decide +kernel⟩, List.mem_of_getElem? (i := 807) (by decide +kernel), List.mem_of_getElem? (i := 1127) (by decide +kernel), List.mem_of_getElem? (i := 1128) (by decide +kernel)⟩
theorem lw_p77 : lw_okq (⟨"DropCapitalsModel", "lineOfWord", "(I)I"⟩, 30) := ⟨⟨by decide +kernel, by decide +kernel⟩, List.mem_of_getElem? (i := 807) (by decide +kernel), List.mem_of_getElem? (i := 1136) (by decide +kernel), List.mem_of_getElem? (i := 1137) (by decide +kernel)⟩
theorem lw_p78 : lw_okq (⟨"DropCapitalsModel", "beginOf", "(I)I"⟩, 30) := ⟨⟨by decide +kernel, by decide +kernel⟩, List.mem_of_getElem? (i := 807) (by decide +kernel), List.mem_of_getElem? (i := 1140) (by decide +kernel), List.mem_of_getElem? (i := 1141) (by decide +kernel)⟩
theorem lw_p79 : lw_okq (⟨"DropCapitalsModel", "bestOf", "(I)I"⟩, 30) := ⟨⟨by decide +kernel, by decide +kernel⟩, List.mem_of_getElem? (i := 807) (by decide +kernel), List.mem_of_getElem? (i := 1170) (by decide +kernel), List.mem_of_getElem? (i := 1171) (by decide +kernel)⟩
def lw_privs_5 : List (MethodName × Nat) := [(⟨"DropCapitalsModel", "roomAt", "(II)I"⟩, 30), (⟨"DropCapitalsModel", "indentAt", "(II)I"⟩, 30), (⟨"DropCapitalsModel", "usedBy", "(II)I"⟩, 30), (⟨"DropCapitalsModel", "widthOf", "(I)I"⟩, 30), (⟨"DropCapitalsModel", "laysEven", "(II)V"⟩, 30), (⟨"DropCapitalsModel", "choosesAt", "(IIIZI)V"⟩, 30), (⟨"DropCapitalsModel", "counted", "(I)I"⟩, 30), (⟨"DropCapitalsModel", "isClash", "(I)Z"⟩, 30), (⟨"DropCapitalsModel", "isOver", "(I)Z"⟩, 30), (⟨"DropCapitalsModel", "isShape", "(I)Z"⟩, 30), (⟨"DropCapitalsModel", "isPar", "(I)Z"⟩, 30), (⟨"DropCapitalsModel", "slacksOf", "(I)I"⟩, 30), (⟨"DropCapitalsModel", "ofLines", "(II)I"⟩, 30), (⟨"DropCapitalsModel", "lineOfWord", "(I)I"⟩, 30), (⟨"DropCapitalsModel", "beginOf", "(I)I"⟩, 30), (⟨"DropCapitalsModel", "bestOf", "(I)I"⟩, 30)]
theorem lw_r5 : ∀ q ∈ lw_privs_5, lw_okq q := List.forall_mem_cons.mpr ⟨lw_p64, List.forall_mem_cons.mpr ⟨lw_p65, List.forall_mem_cons.mpr ⟨lw_p66, List.forall_mem_cons.mpr ⟨lw_p67, List.forall_mem_cons.mpr ⟨lw_p68, List.forall_mem_cons.mpr ⟨lw_p69, List.forall_mem_cons.mpr ⟨lw_p70, List.forall_mem_cons.mpr ⟨lw_p71, List.forall_mem_cons.mpr ⟨lw_p72, List.forall_mem_cons.mpr ⟨lw_p73, List.forall_mem_cons.mpr ⟨lw_p74, List.forall_mem_cons.mpr ⟨lw_p75, List.forall_mem_cons.mpr ⟨lw_p76, List.forall_mem_cons.mpr ⟨lw_p77, List.forall_mem_cons.mpr ⟨lw_p78, List.forall_mem_cons.mpr ⟨lw_p79, fun _ h => absurd h List.not_mem_nil⟩⟩⟩⟩⟩⟩⟩⟩⟩⟩⟩⟩⟩⟩⟩⟩
theorem lw_p80 : lw_okq (⟨"DropCapitalsModel", "triedAt", "(III)I"⟩, 30) := ⟨⟨by decide +kernel, by decide +kernel⟩, List.mem_of_getElem? (i := 807) (by decide +kernel), List.mem_of_getElem? (i := 1174) (by decide +kernel), List.mem_of_getElem? (i := 1175) (by decide +kernel)⟩
theorem lw_p81 : lw_okq (⟨"DropCapitalsModel", "moves", "(II)V"⟩, 30) := ⟨⟨by decide +kernel, by decide +kernel⟩, List.mem_of_getElem? (i := 807) (by decide +kernel), List.mem_of_getElem? (i := 1207) (by decide +kernel), List.mem_of_getElem? (i := 1208) (by decide +kernel)⟩
def lw_privs_6 : List (MethodName × Nat) := [(⟨"DropCapitalsModel", "triedAt", "(III)I"⟩, 30), (⟨"DropCapitalsModel", "moves", "(II)V"⟩, 30)]
theorem lw_r6 : ∀ q ∈ lw_privs_6, lw_okq q := List.forall_mem_cons.mpr ⟨lw_p80, List.forall_mem_cons.mpr ⟨lw_p81, fun _ h => absurd h List.not_mem_nil⟩⟩
def lw_privs : List (MethodName × Nat) := lw_privs_1 ++ (lw_privs_2 ++ (lw_privs_3 ++ (lw_privs_4 ++ (lw_privs_5 ++ (lw_privs_6)))))
def lw_tbl : List Cond := k2_sels lw_privs ++ tables_1
theorem lw_privs_ok : ∀ q ∈ lw_privs, lw_okq q := by
  show ∀ q ∈ lw_privs_1 ++ (lw_privs_2 ++ (lw_privs_3 ++ (lw_privs_4 ++ (lw_privs_5 ++ (lw_privs_6))))), lw_okq q
  exact List.forall_mem_append.mpr ⟨lw_r1, List.forall_mem_append.mpr ⟨lw_r2, List.forall_mem_append.mpr ⟨lw_r3, List.forall_mem_append.mpr ⟨lw_r4, List.forall_mem_append.mpr ⟨lw_r5, lw_r6⟩⟩⟩⟩⟩
end
section
def RX0 : String := "DropCapitals$Breaker"
def TX0 : u_T := fun k => match k with
  | 0 => ("DropCapitals$Breaker", "widths", "[I", true)
  | 1 => ("DropCapitals$Breaker", "rooms", "[I", true)
  | 2 => ("DropCapitals$Breaker", "counts", "[I", true)
  | 3 => ("DropCapitals$Breaker", "costs", "[I", true)
  | 4 => ("DropCapitals$Breaker", "takes", "[I", true)
  | 5 => ("DropCapitals$Breaker", "first", "I", false)
  | 6 => ("DropCapitals$Breaker", "words", "I", false)
  | _ => ("DropCapitals$Breaker", "made", "I", false)
def tyX0 : Nat → FieldType := fun k => match k with
  | 0 => .array .int
  | 1 => .array .int
  | 2 => .array .int
  | 3 => .array .int
  | 4 => .array .int
  | 5 => .int
  | 6 => .int
  | _ => .int
abbrev wsX00 : List Cond := u_ws RX0 TX0 8
theorem nmX0 : ∀ a, a < 8 → ∀ b, b < 8 → a ≠ b → (TX0 a).2.1 ≠ (TX0 b).2.1 := by decide +kernel
theorem tyX0_ok : ∀ k, k < 8 → parseFieldDescriptor (TX0 k).2.2.1 = some (tyX0 k) := by decide +kernel
abbrev cX0_init : ByteArray := prog_2_method_1_code
def yX0_init : MethodName := ⟨RX0, "<init>", "()V"⟩
abbrev cX0_measureWords : ByteArray := prog_2_method_2_code
def yX0_measureWords : MethodName := ⟨RX0, "measureWords", "(LDropCapitals$Pages;)V"⟩
abbrev cX0_breakFirst : ByteArray := prog_2_method_3_code
def yX0_breakFirst : MethodName := ⟨RX0, "breakFirst", "(II)I"⟩
abbrev cX0_breakEvenly : ByteArray := prog_2_method_4_code
def yX0_breakEvenly : MethodName := ⟨RX0, "breakEvenly", "()V"⟩
abbrev cX0_weigh : ByteArray := prog_2_method_5_code
def yX0_weigh : MethodName := ⟨RX0, "weigh", "(III)V"⟩
def RX1 : String := "DropCapitals$Drawing"
def TX1 : u_T := fun k => match k with
  | 0 => ("DropCapitals$Drawing", "shapes", "LDropCapitals$Shapes;", true)
  | 1 => ("DropCapitals$Drawing", "pages", "LDropCapitals$Pages;", true)
  | 2 => ("DropCapitals$Drawing", "height", "I", false)
  | 3 => ("DropCapitals$Drawing", "steps", "I", false)
  | 4 => ("DropCapitals$Drawing", "begins", "[I", true)
  | 5 => ("DropCapitals$Drawing", "stops", "[I", true)
  | _ => ("DropCapitals$Drawing", "extents", "[I", true)
def tyX1 : Nat → FieldType := fun k => match k with
  | 0 => .object "DropCapitals$Shapes"
  | 1 => .object "DropCapitals$Pages"
  | 2 => .int
  | 3 => .int
  | 4 => .array .int
  | 5 => .array .int
  | _ => .array .int
abbrev wsX10 : List Cond := u_ws RX1 TX1 7
theorem nmX1 : ∀ a, a < 7 → ∀ b, b < 7 → a ≠ b → (TX1 a).2.1 ≠ (TX1 b).2.1 := by decide +kernel
theorem tyX1_ok : ∀ k, k < 7 → parseFieldDescriptor (TX1 k).2.2.1 = some (tyX1 k) := by decide +kernel
abbrev cX1_init : ByteArray := prog_3_method_1_code
def yX1_init : MethodName := ⟨RX1, "<init>", "(LDropCapitals$Shapes;LDropCapitals$Pages;)V"⟩
abbrev cX1_draw : ByteArray := prog_3_method_2_code
def yX1_draw : MethodName := ⟨RX1, "draw", "(I)V"⟩
abbrev cX1_reachAt : ByteArray := prog_3_method_3_code
def yX1_reachAt : MethodName := ⟨RX1, "reachAt", "(I)I"⟩
def RX2 : String := "DropCapitals$Layout"
def TX2 : u_T := fun k => match k with
  | 0 => ("DropCapitals$Layout", "pages", "LDropCapitals$Pages;", true)
  | 1 => ("DropCapitals$Layout", "drawing", "LDropCapitals$Drawing;", true)
  | 2 => ("DropCapitals$Layout", "breaker", "LDropCapitals$Breaker;", true)
  | 3 => ("DropCapitals$Layout", "lines", "I", false)
  | 4 => ("DropCapitals$Layout", "begins", "[I", true)
  | 5 => ("DropCapitals$Layout", "ends", "[I", true)
  | 6 => ("DropCapitals$Layout", "reaches", "[I", true)
  | 7 => ("DropCapitals$Layout", "owners", "[I", true)
  | 8 => ("DropCapitals$Layout", "firstWords", "[I", true)
  | 9 => ("DropCapitals$Layout", "wordCounts", "[I", true)
  | 10 => ("DropCapitals$Layout", "indents", "[I", true)
  | 11 => ("DropCapitals$Layout", "rooms", "[I", true)
  | 12 => ("DropCapitals$Layout", "useds", "[I", true)
  | _ => ("DropCapitals$Layout", "clashes", "[Z", true)
def tyX2 : Nat → FieldType := fun k => match k with
  | 0 => .object "DropCapitals$Pages"
  | 1 => .object "DropCapitals$Drawing"
  | 2 => .object "DropCapitals$Breaker"
  | 3 => .int
  | 4 => .array .int
  | 5 => .array .int
  | 6 => .array .int
  | 7 => .array .int
  | 8 => .array .int
  | 9 => .array .int
  | 10 => .array .int
  | 11 => .array .int
  | 12 => .array .int
  | _ => .array .boolean
abbrev wsX20 : List Cond := u_ws RX2 TX2 14
theorem nmX2 : ∀ a, a < 14 → ∀ b, b < 14 → a ≠ b → (TX2 a).2.1 ≠ (TX2 b).2.1 := by decide +kernel
theorem tyX2_ok : ∀ k, k < 14 → parseFieldDescriptor (TX2 k).2.2.1 = some (tyX2 k) := by decide +kernel
abbrev cX2_init : ByteArray := prog_4_method_1_code
def yX2_init : MethodName := ⟨RX2, "<init>", "(LDropCapitals$Pages;LDropCapitals$Drawing;LDropCapitals$Breaker;)V"⟩
abbrev cX2_layAll : ByteArray := prog_4_method_2_code
def yX2_layAll : MethodName := ⟨RX2, "layAll", "()V"⟩
abbrev cX2_leaveEmpty : ByteArray := prog_4_method_3_code
def yX2_leaveEmpty : MethodName := ⟨RX2, "leaveEmpty", "(I)V"⟩
abbrev cX2_lastReachedAhead : ByteArray := prog_4_method_4_code
def yX2_lastReachedAhead : MethodName := ⟨RX2, "lastReachedAhead", "(I)I"⟩
abbrev cX2_drawReaches : ByteArray := prog_4_method_5_code
def yX2_drawReaches : MethodName := ⟨RX2, "drawReaches", "(I)V"⟩
abbrev cX2_layPar : ByteArray := prog_4_method_6_code
def yX2_layPar : MethodName := ⟨RX2, "layPar", "(I)V"⟩
abbrev cX2_addLine : ByteArray := prog_4_method_7_code
def yX2_addLine : MethodName := ⟨RX2, "addLine", "(IIII)V"⟩
abbrev cX2_indentAt : ByteArray := prog_4_method_8_code
def yX2_indentAt : MethodName := ⟨RX2, "indentAt", "(II)I"⟩
abbrev cX2_reachAhead : ByteArray := prog_4_method_9_code
def yX2_reachAhead : MethodName := ⟨RX2, "reachAhead", "(II)I"⟩
abbrev cX2_isOver : ByteArray := prog_4_method_10_code
def yX2_isOver : MethodName := ⟨RX2, "isOver", "(I)Z"⟩
abbrev cX2_emptyLines : ByteArray := prog_4_method_11_code
def yX2_emptyLines : MethodName := ⟨RX2, "emptyLines", "()I"⟩
abbrev cX2_oversWithin : ByteArray := prog_4_method_12_code
def yX2_oversWithin : MethodName := ⟨RX2, "oversWithin", "(II)I"⟩
abbrev cX2_clashesWithin : ByteArray := prog_4_method_13_code
def yX2_clashesWithin : MethodName := ⟨RX2, "clashesWithin", "(II)I"⟩
abbrev cX2_firstClashWithin : ByteArray := prog_4_method_14_code
def yX2_firstClashWithin : MethodName := ⟨RX2, "firstClashWithin", "(II)I"⟩
abbrev cX2_slacksSquared : ByteArray := prog_4_method_15_code
def yX2_slacksSquared : MethodName := ⟨RX2, "slacksSquared", "(II)I"⟩
abbrev cX2_lineWith : ByteArray := prog_4_method_16_code
def yX2_lineWith : MethodName := ⟨RX2, "lineWith", "(II)I"⟩
abbrev cX2_placeOf : ByteArray := prog_4_method_17_code
def yX2_placeOf : MethodName := ⟨RX2, "placeOf", "(II)I"⟩
def RX3 : String := "DropCapitals$Pages"
def TX3 : u_T := fun k => match k with
  | 0 => ("DropCapitals$Pages", "count", "I", false)
  | 1 => ("DropCapitals$Pages", "total", "I", false)
  | 2 => ("DropCapitals$Pages", "words", "[I", true)
  | 3 => ("DropCapitals$Pages", "sizes", "[I", true)
  | 4 => ("DropCapitals$Pages", "shapeOf", "[I", true)
  | 5 => ("DropCapitals$Pages", "drops", "[I", true)
  | _ => ("DropCapitals$Pages", "settings", "[I", true)
def tyX3 : Nat → FieldType := fun k => match k with
  | 0 => .int
  | 1 => .int
  | 2 => .array .int
  | 3 => .array .int
  | 4 => .array .int
  | 5 => .array .int
  | _ => .array .int
abbrev wsX30 : List Cond := u_ws RX3 TX3 7
theorem nmX3 : ∀ a, a < 7 → ∀ b, b < 7 → a ≠ b → (TX3 a).2.1 ≠ (TX3 b).2.1 := by decide +kernel
theorem tyX3_ok : ∀ k, k < 7 → parseFieldDescriptor (TX3 k).2.2.1 = some (tyX3 k) := by decide +kernel
abbrev cX3_init : ByteArray := prog_5_method_1_code
def yX3_init : MethodName := ⟨RX3, "<init>", "()V"⟩
abbrev cX3_copyFrom : ByteArray := prog_5_method_2_code
def yX3_copyFrom : MethodName := ⟨RX3, "copyFrom", "(LDropCapitals$Pages;)V"⟩
abbrev cX3_takeSettings : ByteArray := prog_5_method_3_code
def yX3_takeSettings : MethodName := ⟨RX3, "takeSettings", "(LDropCapitals$Pages;)V"⟩
abbrev cX3_empty : ByteArray := prog_5_method_4_code
def yX3_empty : MethodName := ⟨RX3, "empty", "()V"⟩
abbrev cX3_addPar : ByteArray := prog_5_method_5_code
def yX3_addPar : MethodName := ⟨RX3, "addPar", "(II)V"⟩
abbrev cX3_addWord : ByteArray := prog_5_method_6_code
def yX3_addWord : MethodName := ⟨RX3, "addWord", "(I)V"⟩
abbrev cX3_hasShape : ByteArray := prog_5_method_7_code
def yX3_hasShape : MethodName := ⟨RX3, "hasShape", "(I)Z"⟩
abbrev cX3_firstOf : ByteArray := prog_5_method_8_code
def yX3_firstOf : MethodName := ⟨RX3, "firstOf", "(I)I"⟩
abbrev cX3_wordOf : ByteArray := prog_5_method_9_code
def yX3_wordOf : MethodName := ⟨RX3, "wordOf", "(II)I"⟩
abbrev cX3_likeWords : ByteArray := prog_5_method_10_code
def yX3_likeWords : MethodName := ⟨RX3, "likeWords", "(I)I"⟩
abbrev cX3_unlikeWords : ByteArray := prog_5_method_11_code
def yX3_unlikeWords : MethodName := ⟨RX3, "unlikeWords", "()I"⟩
abbrev cX3_comesAhead : ByteArray := prog_5_method_12_code
def yX3_comesAhead : MethodName := ⟨RX3, "comesAhead", "(I)Z"⟩
abbrev cX3_split : ByteArray := prog_5_method_13_code
def yX3_split : MethodName := ⟨RX3, "split", "(II)V"⟩
abbrev cX3_unite : ByteArray := prog_5_method_14_code
def yX3_unite : MethodName := ⟨RX3, "unite", "(I)V"⟩
abbrev cX3_takePar : ByteArray := prog_5_method_15_code
def yX3_takePar : MethodName := ⟨RX3, "takePar", "(II)V"⟩
abbrev cX3_carry : ByteArray := prog_5_method_16_code
def yX3_carry : MethodName := ⟨RX3, "carry", "(IIII)V"⟩
def RX4 : String := "DropCapitals$Reader"
def TX4 : u_T := fun k => match k with
  | 0 => ("DropCapitals$Reader", "bytes", "[B", true)
  | 1 => ("DropCapitals$Reader", "shapes", "LDropCapitals$Shapes;", true)
  | 2 => ("DropCapitals$Reader", "pages", "LDropCapitals$Pages;", true)
  | 3 => ("DropCapitals$Reader", "length", "I", false)
  | 4 => ("DropCapitals$Reader", "place", "I", false)
  | 5 => ("DropCapitals$Reader", "kind", "I", false)
  | 6 => ("DropCapitals$Reader", "start", "I", false)
  | 7 => ("DropCapitals$Reader", "size", "I", false)
  | 8 => ("DropCapitals$Reader", "number", "I", false)
  | 9 => ("DropCapitals$Reader", "toldSettings", "I", false)
  | _ => ("DropCapitals$Reader", "faulty", "I", false)
def tyX4 : Nat → FieldType := fun k => match k with
  | 0 => .array .byte
  | 1 => .object "DropCapitals$Shapes"
  | 2 => .object "DropCapitals$Pages"
  | 3 => .int
  | 4 => .int
  | 5 => .int
  | 6 => .int
  | 7 => .int
  | 8 => .int
  | 9 => .int
  | _ => .int
abbrev wsX40 : List Cond := u_ws RX4 TX4 11
theorem nmX4 : ∀ a, a < 11 → ∀ b, b < 11 → a ≠ b → (TX4 a).2.1 ≠ (TX4 b).2.1 := by decide +kernel
theorem tyX4_ok : ∀ k, k < 11 → parseFieldDescriptor (TX4 k).2.2.1 = some (tyX4 k) := by decide +kernel
abbrev cX4_init : ByteArray := prog_6_method_1_code
def yX4_init : MethodName := ⟨RX4, "<init>", "([BLDropCapitals$Shapes;LDropCapitals$Pages;)V"⟩
abbrev cX4_faultKind : ByteArray := prog_6_method_2_code
def yX4_faultKind : MethodName := ⟨RX4, "faultKind", "()I"⟩
abbrev cX4_readAll : ByteArray := prog_6_method_3_code
def yX4_readAll : MethodName := ⟨RX4, "readAll", "(I)I"⟩
abbrev cX4_readLine : ByteArray := prog_6_method_4_code
def yX4_readLine : MethodName := ⟨RX4, "readLine", "()Z"⟩
abbrev cX4_readSetting : ByteArray := prog_6_method_5_code
def yX4_readSetting : MethodName := ⟨RX4, "readSetting", "()Z"⟩
abbrev cX4_readShape : ByteArray := prog_6_method_6_code
def yX4_readShape : MethodName := ⟨RX4, "readShape", "()Z"⟩
abbrev cX4_readPar : ByteArray := prog_6_method_7_code
def yX4_readPar : MethodName := ⟨RX4, "readPar", "()Z"⟩
abbrev cX4_readWords : ByteArray := prog_6_method_8_code
def yX4_readWords : MethodName := ⟨RX4, "readWords", "()Z"⟩
abbrev cX4_readNumber : ByteArray := prog_6_method_9_code
def yX4_readNumber : MethodName := ⟨RX4, "readNumber", "(II)Z"⟩
abbrev cX4_refuse : ByteArray := prog_6_method_10_code
def yX4_refuse : MethodName := ⟨RX4, "refuse", "(I)Z"⟩
abbrev cX4_advance : ByteArray := prog_6_method_11_code
def yX4_advance : MethodName := ⟨RX4, "advance", "()V"⟩
abbrev cX4_takeFigures : ByteArray := prog_6_method_12_code
def yX4_takeFigures : MethodName := ⟨RX4, "takeFigures", "()V"⟩
abbrev cX4_isLetter : ByteArray := prog_6_method_13_code
def yX4_isLetter : MethodName := ⟨RX4, "isLetter", "(I)Z"⟩
abbrev cX4_letterAt : ByteArray := prog_6_method_14_code
def yX4_letterAt : MethodName := ⟨RX4, "letterAt", "(I)I"⟩
abbrev cX4_wordAtHand : ByteArray := prog_6_method_15_code
def yX4_wordAtHand : MethodName := ⟨RX4, "wordAtHand", "()I"⟩
abbrev cX4_isNamed : ByteArray := prog_6_method_16_code
def yX4_isNamed : MethodName := ⟨RX4, "isNamed", "(Ljava/lang/String;)Z"⟩
abbrev cX4_settingNamed : ByteArray := prog_6_method_17_code
def yX4_settingNamed : MethodName := ⟨RX4, "settingNamed", "()I"⟩
def RX5 : String := "DropCapitals$Shapes"
def TX5 : u_T := fun k => match k with
  | 0 => ("DropCapitals$Shapes", "count", "I", false)
  | 1 => ("DropCapitals$Shapes", "signs", "[I", true)
  | 2 => ("DropCapitals$Shapes", "heights", "[I", true)
  | 3 => ("DropCapitals$Shapes", "steps", "[I", true)
  | 4 => ("DropCapitals$Shapes", "depths", "[I", true)
  | _ => ("DropCapitals$Shapes", "extents", "[I", true)
def tyX5 : Nat → FieldType := fun k => match k with
  | 0 => .int
  | 1 => .array .int
  | 2 => .array .int
  | 3 => .array .int
  | 4 => .array .int
  | _ => .array .int
abbrev wsX50 : List Cond := u_ws RX5 TX5 6
theorem nmX5 : ∀ a, a < 6 → ∀ b, b < 6 → a ≠ b → (TX5 a).2.1 ≠ (TX5 b).2.1 := by decide +kernel
theorem tyX5_ok : ∀ k, k < 6 → parseFieldDescriptor (TX5 k).2.2.1 = some (tyX5 k) := by decide +kernel
abbrev cX5_init : ByteArray := prog_7_method_1_code
def yX5_init : MethodName := ⟨RX5, "<init>", "()V"⟩
abbrev cX5_copyFrom : ByteArray := prog_7_method_2_code
def yX5_copyFrom : MethodName := ⟨RX5, "copyFrom", "(LDropCapitals$Shapes;)V"⟩
abbrev cX5_withSign : ByteArray := prog_7_method_3_code
def yX5_withSign : MethodName := ⟨RX5, "withSign", "(I)I"⟩
abbrev cX5_addShape : ByteArray := prog_7_method_4_code
def yX5_addShape : MethodName := ⟨RX5, "addShape", "(II)V"⟩
abbrev cX5_addStep : ByteArray := prog_7_method_5_code
def yX5_addStep : MethodName := ⟨RX5, "addStep", "(II)V"⟩
abbrev cX5_depthOf : ByteArray := prog_7_method_6_code
def yX5_depthOf : MethodName := ⟨RX5, "depthOf", "(II)I"⟩
abbrev cX5_extentOf : ByteArray := prog_7_method_7_code
def yX5_extentOf : MethodName := ⟨RX5, "extentOf", "(II)I"⟩
abbrev cX5_greatestExtent : ByteArray := prog_7_method_8_code
def yX5_greatestExtent : MethodName := ⟨RX5, "greatestExtent", "(I)I"⟩
def RX6 : String := "DropCapitals"
def TX6 : u_T := fun k => match k with
  | 0 => ("DropCapitals", "tape", "[B", true)
  | 1 => ("DropCapitals", "tapeLength", "I", false)
  | 2 => ("DropCapitals", "shapes", "LDropCapitals$Shapes;", true)
  | 3 => ("DropCapitals", "pages", "LDropCapitals$Pages;", true)
  | 4 => ("DropCapitals", "newShapes", "LDropCapitals$Shapes;", true)
  | 5 => ("DropCapitals", "newPages", "LDropCapitals$Pages;", true)
  | 6 => ("DropCapitals", "reader", "LDropCapitals$Reader;", true)
  | 7 => ("DropCapitals", "drawing", "LDropCapitals$Drawing;", true)
  | 8 => ("DropCapitals", "breaker", "LDropCapitals$Breaker;", true)
  | 9 => ("DropCapitals", "layout", "LDropCapitals$Layout;", true)
  | 10 => ("DropCapitals", "trial", "LDropCapitals$Layout;", true)
  | 11 => ("DropCapitals", "stale", "Z", false)
  | 12 => ("DropCapitals", "image0", "LDropCapitals$Pages;", true)
  | 13 => ("DropCapitals", "image1", "LDropCapitals$Pages;", true)
  | 14 => ("DropCapitals", "kept0", "Z", false)
  | _ => ("DropCapitals", "kept1", "Z", false)
def tyX6 : Nat → FieldType := fun k => match k with
  | 0 => .array .byte
  | 1 => .int
  | 2 => .object "DropCapitals$Shapes"
  | 3 => .object "DropCapitals$Pages"
  | 4 => .object "DropCapitals$Shapes"
  | 5 => .object "DropCapitals$Pages"
  | 6 => .object "DropCapitals$Reader"
  | 7 => .object "DropCapitals$Drawing"
  | 8 => .object "DropCapitals$Breaker"
  | 9 => .object "DropCapitals$Layout"
  | 10 => .object "DropCapitals$Layout"
  | 11 => .boolean
  | 12 => .object "DropCapitals$Pages"
  | 13 => .object "DropCapitals$Pages"
  | 14 => .boolean
  | _ => .boolean
abbrev wsX60 : List Cond := u_ws RX6 TX6 16
theorem nmX6 : ∀ a, a < 16 → ∀ b, b < 16 → a ≠ b → (TX6 a).2.1 ≠ (TX6 b).2.1 := by decide +kernel
theorem tyX6_ok : ∀ k, k < 16 → parseFieldDescriptor (TX6 k).2.2.1 = some (tyX6 k) := by decide +kernel
abbrev cX6_init : ByteArray := prog_1_method_1_code
def yX6_init : MethodName := ⟨RX6, "<init>", "()V"⟩
abbrev cX6_feed : ByteArray := prog_1_method_2_code
def yX6_feed : MethodName := ⟨RX6, "feed", "(I)I"⟩
abbrev cX6_end : ByteArray := prog_1_method_3_code
def yX6_end : MethodName := ⟨RX6, "end", "(I)I"⟩
abbrev cX6_text : ByteArray := prog_1_method_4_code
def yX6_text : MethodName := ⟨RX6, "text", "()I"⟩
abbrev cX6_fault : ByteArray := prog_1_method_5_code
def yX6_fault : MethodName := ⟨RX6, "fault", "()I"⟩
abbrev cX6_rule : ByteArray := prog_1_method_6_code
def yX6_rule : MethodName := ⟨RX6, "rule", "(I)I"⟩
abbrev cX6_shape : ByteArray := prog_1_method_7_code
def yX6_shape : MethodName := ⟨RX6, "shape", "(II)I"⟩
abbrev cX6_step : ByteArray := prog_1_method_8_code
def yX6_step : MethodName := ⟨RX6, "step", "(III)I"⟩
abbrev cX6_par : ByteArray := prog_1_method_9_code
def yX6_par : MethodName := ⟨RX6, "par", "(II)I"⟩
abbrev cX6_word : ByteArray := prog_1_method_10_code
def yX6_word : MethodName := ⟨RX6, "word", "(III)I"⟩
abbrev cX6_letter : ByteArray := prog_1_method_11_code
def yX6_letter : MethodName := ⟨RX6, "letter", "(III)I"⟩
abbrev cX6_drawn : ByteArray := prog_1_method_12_code
def yX6_drawn : MethodName := ⟨RX6, "drawn", "(III)I"⟩
abbrev cX6_reach : ByteArray := prog_1_method_13_code
def yX6_reach : MethodName := ⟨RX6, "reach", "(II)I"⟩
abbrev cX6_line : ByteArray := prog_1_method_14_code
def yX6_line : MethodName := ⟨RX6, "line", "(II)I"⟩
abbrev cX6_sign : ByteArray := prog_1_method_15_code
def yX6_sign : MethodName := ⟨RX6, "sign", "(II)I"⟩
abbrev cX6_best : ByteArray := prog_1_method_16_code
def yX6_best : MethodName := ⟨RX6, "best", "(I)I"⟩
abbrev cX6_tried : ByteArray := prog_1_method_17_code
def yX6_tried : MethodName := ⟨RX6, "tried", "(II)I"⟩
abbrev cX6_set : ByteArray := prog_1_method_18_code
def yX6_set : MethodName := ⟨RX6, "set", "(II)I"⟩
abbrev cX6_drop : ByteArray := prog_1_method_19_code
def yX6_drop : MethodName := ⟨RX6, "drop", "(III)I"⟩
abbrev cX6_fit : ByteArray := prog_1_method_20_code
def yX6_fit : MethodName := ⟨RX6, "fit", "()I"⟩
abbrev cX6_cut : ByteArray := prog_1_method_21_code
def yX6_cut : MethodName := ⟨RX6, "cut", "(II)I"⟩
abbrev cX6_join : ByteArray := prog_1_method_22_code
def yX6_join : MethodName := ⟨RX6, "join", "(I)I"⟩
abbrev cX6_move : ByteArray := prog_1_method_23_code
def yX6_move : MethodName := ⟨RX6, "move", "(IIII)I"⟩
abbrev cX6_keep : ByteArray := prog_1_method_24_code
def yX6_keep : MethodName := ⟨RX6, "keep", "(I)I"⟩
abbrev cX6_back : ByteArray := prog_1_method_25_code
def yX6_back : MethodName := ⟨RX6, "back", "(I)I"⟩
abbrev cX6_isKept : ByteArray := prog_1_method_26_code
def yX6_isKept : MethodName := ⟨RX6, "isKept", "(I)Z"⟩
abbrev cX6_imageOf : ByteArray := prog_1_method_27_code
def yX6_imageOf : MethodName := ⟨RX6, "imageOf", "(I)LDropCapitals$Pages;"⟩
abbrev cX6_isShape : ByteArray := prog_1_method_28_code
def yX6_isShape : MethodName := ⟨RX6, "isShape", "(I)Z"⟩
abbrev cX6_isPar : ByteArray := prog_1_method_29_code
def yX6_isPar : MethodName := ⟨RX6, "isPar", "(I)Z"⟩
abbrev cX6_isDrop : ByteArray := prog_1_method_30_code
def yX6_isDrop : MethodName := ⟨RX6, "isDrop", "(I)Z"⟩
abbrev cX6_laid : ByteArray := prog_1_method_31_code
def yX6_laid : MethodName := ⟨RX6, "laid", "()LDropCapitals$Layout;"⟩
abbrev cX6_drawnHeight : ByteArray := prog_1_method_32_code
def yX6_drawnHeight : MethodName := ⟨RX6, "drawnHeight", "(I)I"⟩
abbrev cX6_parLies : ByteArray := prog_1_method_33_code
def yX6_parLies : MethodName := ⟨RX6, "parLies", "(II)I"⟩
abbrev cX6_layTrial : ByteArray := prog_1_method_34_code
def yX6_layTrial : MethodName := ⟨RX6, "layTrial", "(II)V"⟩
abbrev cX6_bestDrop : ByteArray := prog_1_method_35_code
def yX6_bestDrop : MethodName := ⟨RX6, "bestDrop", "(I)I"⟩
abbrev cX6_letterOf : ByteArray := prog_1_method_36_code
def yX6_letterOf : MethodName := ⟨RX6, "letterOf", "(II)I"⟩
abbrev cX6_lettersIn : ByteArray := prog_1_method_37_code
def yX6_lettersIn : MethodName := ⟨RX6, "lettersIn", "(I)I"⟩
abbrev cX6_widthOf : ByteArray := prog_1_method_38_code
def yX6_widthOf : MethodName := ⟨RX6, "widthOf", "(I)I"⟩
abbrev cX6_letterWidth : ByteArray := prog_1_method_39_code
def yX6_letterWidth : MethodName := ⟨RX6, "letterWidth", "(I)I"⟩
def RX7 : String := "DropCapitalsModel"
def TX7 : u_T := fun k => match k with
  | 0 => ("DropCapitalsModel", "page", "[I", true)
  | 1 => ("DropCapitalsModel", "draft", "[I", true)
  | 2 => ("DropCapitalsModel", "shapes", "[I", true)
  | 3 => ("DropCapitalsModel", "shapeMany", "I", false)
  | 4 => ("DropCapitalsModel", "draftShapes", "[I", true)
  | 5 => ("DropCapitalsModel", "draftShapeMany", "I", false)
  | 6 => ("DropCapitalsModel", "kept", "[I", true)
  | 7 => ("DropCapitalsModel", "isKept", "[Z", true)
  | 8 => ("DropCapitalsModel", "tape", "[I", true)
  | 9 => ("DropCapitalsModel", "taped", "I", false)
  | 10 => ("DropCapitalsModel", "fault", "I", false)
  | 11 => ("DropCapitalsModel", "brokenAt", "I", false)
  | 12 => ("DropCapitalsModel", "spot", "I", false)
  | 13 => ("DropCapitalsModel", "here", "I", false)
  | 14 => ("DropCapitalsModel", "token", "I", false)
  | 15 => ("DropCapitalsModel", "value", "I", false)
  | 16 => ("DropCapitalsModel", "ends", "[I", true)
  | 17 => ("DropCapitalsModel", "names", "[I", true)
  | 18 => ("DropCapitalsModel", "isTold", "[Z", true)
  | 19 => ("DropCapitalsModel", "firstLine", "[I", true)
  | 20 => ("DropCapitalsModel", "lineMany", "[I", true)
  | 21 => ("DropCapitalsModel", "linePar", "[I", true)
  | 22 => ("DropCapitalsModel", "lineWord", "[I", true)
  | 23 => ("DropCapitalsModel", "lineWords", "[I", true)
  | 24 => ("DropCapitalsModel", "lineIndent", "[I", true)
  | 25 => ("DropCapitalsModel", "lines", "I", false)
  | 26 => ("DropCapitalsModel", "overs", "[I", true)
  | 27 => ("DropCapitalsModel", "slacks", "[I", true)
  | 28 => ("DropCapitalsModel", "choices", "[I", true)
  | _ => ("DropCapitalsModel", "one", "[I", true)
def tyX7 : Nat → FieldType := fun k => match k with
  | 0 => .array .int
  | 1 => .array .int
  | 2 => .array .int
  | 3 => .int
  | 4 => .array .int
  | 5 => .int
  | 6 => .array .int
  | 7 => .array .boolean
  | 8 => .array .int
  | 9 => .int
  | 10 => .int
  | 11 => .int
  | 12 => .int
  | 13 => .int
  | 14 => .int
  | 15 => .int
  | 16 => .array .int
  | 17 => .array .int
  | 18 => .array .boolean
  | 19 => .array .int
  | 20 => .array .int
  | 21 => .array .int
  | 22 => .array .int
  | 23 => .array .int
  | 24 => .array .int
  | 25 => .int
  | 26 => .array .int
  | 27 => .array .int
  | 28 => .array .int
  | _ => .array .int
abbrev wsX70 : List Cond := u_ws RX7 TX7 30
theorem nmX7 : ∀ a, a < 30 → ∀ b, b < 30 → a ≠ b → (TX7 a).2.1 ≠ (TX7 b).2.1 := by decide +kernel
theorem tyX7_ok : ∀ k, k < 30 → parseFieldDescriptor (TX7 k).2.2.1 = some (tyX7 k) := by decide +kernel
abbrev cX7_init : ByteArray := prog_9_method_1_code
def yX7_init : MethodName := ⟨RX7, "<init>", "()V"⟩
abbrev cX7_in : ByteArray := prog_9_method_3_code
def yX7_in : MethodName := ⟨RX7, "in", "(JJJ)Z"⟩
abbrev cX7_leastOf : ByteArray := prog_9_method_4_code
def yX7_leastOf : MethodName := ⟨RX7, "leastOf", "(I)I"⟩
abbrev cX7_mostOf : ByteArray := prog_9_method_5_code
def yX7_mostOf : MethodName := ⟨RX7, "mostOf", "(I)I"⟩
abbrev cX7_feed : ByteArray := prog_9_method_6_code
def yX7_feed : MethodName := ⟨RX7, "feed", "(I)I"⟩
abbrev cX7_end : ByteArray := prog_9_method_7_code
def yX7_end : MethodName := ⟨RX7, "end", "(I)I"⟩
abbrev cX7_byteAt : ByteArray := prog_9_method_8_code
def yX7_byteAt : MethodName := ⟨RX7, "byteAt", "(I)I"⟩
abbrev cX7_must : ByteArray := prog_9_method_9_code
def yX7_must : MethodName := ⟨RX7, "must", "(ZI)V"⟩
abbrev cX7_reads : ByteArray := prog_9_method_10_code
def yX7_reads : MethodName := ⟨RX7, "reads", "()V"⟩
abbrev cX7_isSign : ByteArray := prog_9_method_11_code
def yX7_isSign : MethodName := ⟨RX7, "isSign", "(I)Z"⟩
abbrev cX7_nameNow : ByteArray := prog_9_method_12_code
def yX7_nameNow : MethodName := ⟨RX7, "nameNow", "(II)I"⟩
abbrev cX7_number : ByteArray := prog_9_method_13_code
def yX7_number : MethodName := ⟨RX7, "number", "(II)I"⟩
abbrev cX7_readsSetting : ByteArray := prog_9_method_14_code
def yX7_readsSetting : MethodName := ⟨RX7, "readsSetting", "()V"⟩
abbrev cX7_shapeOf : ByteArray := prog_9_method_15_code
def yX7_shapeOf : MethodName := ⟨RX7, "shapeOf", "(I)I"⟩
abbrev cX7_isLetterNow : ByteArray := prog_9_method_16_code
def yX7_isLetterNow : MethodName := ⟨RX7, "isLetterNow", "()Z"⟩
abbrev cX7_readsStep : ByteArray := prog_9_method_17_code
def yX7_readsStep : MethodName := ⟨RX7, "readsStep", "(I)V"⟩
abbrev cX7_readsShape : ByteArray := prog_9_method_18_code
def yX7_readsShape : MethodName := ⟨RX7, "readsShape", "()V"⟩
abbrev cX7_wordsOfDraft : ByteArray := prog_9_method_19_code
def yX7_wordsOfDraft : MethodName := ⟨RX7, "wordsOfDraft", "()I"⟩
abbrev cX7_readsWord : ByteArray := prog_9_method_20_code
def yX7_readsWord : MethodName := ⟨RX7, "readsWord", "(I)V"⟩
abbrev cX7_readsPar : ByteArray := prog_9_method_21_code
def yX7_readsPar : MethodName := ⟨RX7, "readsPar", "()V"⟩
abbrev cX7_readsLine : ByteArray := prog_9_method_22_code
def yX7_readsLine : MethodName := ⟨RX7, "readsLine", "()V"⟩
abbrev cX7_text : ByteArray := prog_9_method_23_code
def yX7_text : MethodName := ⟨RX7, "text", "()I"⟩
abbrev cX7_fault : ByteArray := prog_9_method_24_code
def yX7_fault : MethodName := ⟨RX7, "fault", "()I"⟩
abbrev cX7_parShape : ByteArray := prog_9_method_25_code
def yX7_parShape : MethodName := ⟨RX7, "parShape", "(I)I"⟩
abbrev cX7_parDrop : ByteArray := prog_9_method_26_code
def yX7_parDrop : MethodName := ⟨RX7, "parDrop", "(I)I"⟩
abbrev cX7_parWords : ByteArray := prog_9_method_27_code
def yX7_parWords : MethodName := ⟨RX7, "parWords", "(I)I"⟩
abbrev cX7_firstWord : ByteArray := prog_9_method_28_code
def yX7_firstWord : MethodName := ⟨RX7, "firstWord", "(I)I"⟩
abbrev cX7_heightOf : ByteArray := prog_9_method_29_code
def yX7_heightOf : MethodName := ⟨RX7, "heightOf", "(I)I"⟩
abbrev cX7_ofShape : ByteArray := prog_9_method_30_code
def yX7_ofShape : MethodName := ⟨RX7, "ofShape", "(II)I"⟩
abbrev cX7_drawnBegin : ByteArray := prog_9_method_31_code
def yX7_drawnBegin : MethodName := ⟨RX7, "drawnBegin", "(II)I"⟩
abbrev cX7_drawnExtent : ByteArray := prog_9_method_32_code
def yX7_drawnExtent : MethodName := ⟨RX7, "drawnExtent", "(II)I"⟩
abbrev cX7_reachOf : ByteArray := prog_9_method_33_code
def yX7_reachOf : MethodName := ⟨RX7, "reachOf", "(II)I"⟩
abbrev cX7_reachedBy : ByteArray := prog_9_method_34_code
def yX7_reachedBy : MethodName := ⟨RX7, "reachedBy", "(I)I"⟩
abbrev cX7_widthOf : ByteArray := prog_9_method_35_code
def yX7_widthOf : MethodName := ⟨RX7, "widthOf", "(I)I"⟩
abbrev cX7_usedBy : ByteArray := prog_9_method_36_code
def yX7_usedBy : MethodName := ⟨RX7, "usedBy", "(II)I"⟩
abbrev cX7_indentAt : ByteArray := prog_9_method_37_code
def yX7_indentAt : MethodName := ⟨RX7, "indentAt", "(II)I"⟩
abbrev cX7_roomAt : ByteArray := prog_9_method_38_code
def yX7_roomAt : MethodName := ⟨RX7, "roomAt", "(II)I"⟩
abbrev cX7_laysFirst : ByteArray := prog_9_method_39_code
def yX7_laysFirst : MethodName := ⟨RX7, "laysFirst", "(I)I"⟩
abbrev cX7_laysEven : ByteArray := prog_9_method_40_code
def yX7_laysEven : MethodName := ⟨RX7, "laysEven", "(II)V"⟩
abbrev cX7_choosesAt : ByteArray := prog_9_method_41_code
def yX7_choosesAt : MethodName := ⟨RX7, "choosesAt", "(IIIZI)V"⟩
abbrev cX7_lays : ByteArray := prog_9_method_42_code
def yX7_lays : MethodName := ⟨RX7, "lays", "()V"⟩
abbrev cX7_isOver : ByteArray := prog_9_method_43_code
def yX7_isOver : MethodName := ⟨RX7, "isOver", "(I)Z"⟩
abbrev cX7_isClash : ByteArray := prog_9_method_44_code
def yX7_isClash : MethodName := ⟨RX7, "isClash", "(I)Z"⟩
abbrev cX7_counted : ByteArray := prog_9_method_45_code
def yX7_counted : MethodName := ⟨RX7, "counted", "(I)I"⟩
abbrev cX7_allWords : ByteArray := prog_9_method_46_code
def yX7_allWords : MethodName := ⟨RX7, "allWords", "()I"⟩
abbrev cX7_isLikeWord : ByteArray := prog_9_method_47_code
def yX7_isLikeWord : MethodName := ⟨RX7, "isLikeWord", "(II)Z"⟩
abbrev cX7_likes : ByteArray := prog_9_method_48_code
def yX7_likes : MethodName := ⟨RX7, "likes", "(II)I"⟩
abbrev cX7_unlike : ByteArray := prog_9_method_49_code
def yX7_unlike : MethodName := ⟨RX7, "unlike", "()I"⟩
abbrev cX7_rule : ByteArray := prog_9_method_50_code
def yX7_rule : MethodName := ⟨RX7, "rule", "(I)I"⟩
abbrev cX7_isShape : ByteArray := prog_9_method_51_code
def yX7_isShape : MethodName := ⟨RX7, "isShape", "(I)Z"⟩
abbrev cX7_shape : ByteArray := prog_9_method_52_code
def yX7_shape : MethodName := ⟨RX7, "shape", "(II)I"⟩
abbrev cX7_step : ByteArray := prog_9_method_53_code
def yX7_step : MethodName := ⟨RX7, "step", "(III)I"⟩
abbrev cX7_isPar : ByteArray := prog_9_method_54_code
def yX7_isPar : MethodName := ⟨RX7, "isPar", "(I)Z"⟩
abbrev cX7_slacksOf : ByteArray := prog_9_method_55_code
def yX7_slacksOf : MethodName := ⟨RX7, "slacksOf", "(I)I"⟩
abbrev cX7_ofLines : ByteArray := prog_9_method_56_code
def yX7_ofLines : MethodName := ⟨RX7, "ofLines", "(II)I"⟩
abbrev cX7_par : ByteArray := prog_9_method_57_code
def yX7_par : MethodName := ⟨RX7, "par", "(II)I"⟩
abbrev cX7_lineOfWord : ByteArray := prog_9_method_58_code
def yX7_lineOfWord : MethodName := ⟨RX7, "lineOfWord", "(I)I"⟩
abbrev cX7_beginOf : ByteArray := prog_9_method_59_code
def yX7_beginOf : MethodName := ⟨RX7, "beginOf", "(I)I"⟩
abbrev cX7_word : ByteArray := prog_9_method_60_code
def yX7_word : MethodName := ⟨RX7, "word", "(III)I"⟩
abbrev cX7_letter : ByteArray := prog_9_method_61_code
def yX7_letter : MethodName := ⟨RX7, "letter", "(III)I"⟩
abbrev cX7_drawn : ByteArray := prog_9_method_62_code
def yX7_drawn : MethodName := ⟨RX7, "drawn", "(III)I"⟩
abbrev cX7_reach : ByteArray := prog_9_method_63_code
def yX7_reach : MethodName := ⟨RX7, "reach", "(II)I"⟩
abbrev cX7_line : ByteArray := prog_9_method_64_code
def yX7_line : MethodName := ⟨RX7, "line", "(II)I"⟩
abbrev cX7_sign : ByteArray := prog_9_method_65_code
def yX7_sign : MethodName := ⟨RX7, "sign", "(II)I"⟩
abbrev cX7_triedAt : ByteArray := prog_9_method_66_code
def yX7_triedAt : MethodName := ⟨RX7, "triedAt", "(III)I"⟩
abbrev cX7_bestOf : ByteArray := prog_9_method_67_code
def yX7_bestOf : MethodName := ⟨RX7, "bestOf", "(I)I"⟩
abbrev cX7_best : ByteArray := prog_9_method_68_code
def yX7_best : MethodName := ⟨RX7, "best", "(I)I"⟩
abbrev cX7_tried : ByteArray := prog_9_method_69_code
def yX7_tried : MethodName := ⟨RX7, "tried", "(II)I"⟩
abbrev cX7_set : ByteArray := prog_9_method_70_code
def yX7_set : MethodName := ⟨RX7, "set", "(II)I"⟩
abbrev cX7_drop : ByteArray := prog_9_method_71_code
def yX7_drop : MethodName := ⟨RX7, "drop", "(III)I"⟩
abbrev cX7_fit : ByteArray := prog_9_method_72_code
def yX7_fit : MethodName := ⟨RX7, "fit", "()I"⟩
abbrev cX7_cut : ByteArray := prog_9_method_73_code
def yX7_cut : MethodName := ⟨RX7, "cut", "(II)I"⟩
abbrev cX7_join : ByteArray := prog_9_method_74_code
def yX7_join : MethodName := ⟨RX7, "join", "(I)I"⟩
abbrev cX7_moves : ByteArray := prog_9_method_75_code
def yX7_moves : MethodName := ⟨RX7, "moves", "(II)V"⟩
abbrev cX7_move : ByteArray := prog_9_method_76_code
def yX7_move : MethodName := ⟨RX7, "move", "(IIII)I"⟩
abbrev cX7_keep : ByteArray := prog_9_method_77_code
def yX7_keep : MethodName := ⟨RX7, "keep", "(I)I"⟩
abbrev cX7_back : ByteArray := prog_9_method_78_code
def yX7_back : MethodName := ⟨RX7, "back", "(I)I"⟩
def RJx8e188 : String := "java/lang/Cloneable"
def TJx8e188 : u_T := fun k => match k with
  | _ => ("", "", "", false)
def tyJx8e188 : Nat → FieldType := fun k => match k with
  | _ => .int
abbrev wsJx8e1880 : List Cond := u_ws RJx8e188 TJx8e188 0
theorem nmJx8e188 : ∀ a, a < 0 → ∀ b, b < 0 → a ≠ b → (TJx8e188 a).2.1 ≠ (TJx8e188 b).2.1 := by decide +kernel
theorem tyJx8e188_ok : ∀ k, k < 0 → parseFieldDescriptor (TJx8e188 k).2.2.1 = some (tyJx8e188 k) := by decide +kernel
def RJ9 : String := "java/lang/Math"
def TJ9 : u_T := fun k => match k with
  | _ => ("", "", "", false)
def tyJ9 : Nat → FieldType := fun k => match k with
  | _ => .int
abbrev wsJ90 : List Cond := u_ws RJ9 TJ9 0
theorem nmJ9 : ∀ a, a < 0 → ∀ b, b < 0 → a ≠ b → (TJ9 a).2.1 ≠ (TJ9 b).2.1 := by decide +kernel
theorem tyJ9_ok : ∀ k, k < 0 → parseFieldDescriptor (TJ9 k).2.2.1 = some (tyJ9 k) := by decide +kernel
abbrev cJ9_max_7cf53 : ByteArray := prog_11_method_65_code
def yJ9_max_7cf53 : MethodName := ⟨RJ9, "max", "(II)I"⟩
abbrev cJ9_min_7cf53 : ByteArray := prog_11_method_69_code
def yJ9_min_7cf53 : MethodName := ⟨RJ9, "min", "(II)I"⟩
def RJ0 : String := "java/lang/String"
def TJ0 : u_T := fun k => match k with
  | _ => ("", "", "", false)
def tyJ0 : Nat → FieldType := fun k => match k with
  | _ => .int
abbrev wsJ00 : List Cond := u_ws RJ0 TJ0 0
theorem nmJ0 : ∀ a, a < 0 → ∀ b, b < 0 → a ≠ b → (TJ0 a).2.1 ≠ (TJ0 b).2.1 := by decide +kernel
theorem tyJ0_ok : ∀ k, k < 0 → parseFieldDescriptor (TJ0 k).2.2.1 = some (tyJ0 k) := by decide +kernel
abbrev cJ0_length_8abf5 : ByteArray := prog_12_method_54_code
def yJ0_length_8abf5 : MethodName := ⟨RJ0, "length", "()I"⟩
abbrev cJ0_charAt_5068e : ByteArray := prog_12_method_56_code
def yJ0_charAt_5068e : MethodName := ⟨RJ0, "charAt", "(I)C"⟩
abbrev cJ0_coder_7d493 : ByteArray := prog_12_method_152_code
def yJ0_coder_7d493 : MethodName := ⟨RJ0, "coder", "()B"⟩
abbrev cJ0_isLatin1_aae02 : ByteArray := prog_12_method_154_code
def yJ0_isLatin1_aae02 : MethodName := ⟨RJ0, "isLatin1", "()Z"⟩
abbrev cJ0_checkIndex_df160 : ByteArray := prog_12_method_155_code
def yJ0_checkIndex_df160 : MethodName := ⟨RJ0, "checkIndex", "(II)V"⟩
def RJ1 : String := "java/lang/StringLatin1"
def TJ1 : u_T := fun k => match k with
  | _ => ("", "", "", false)
def tyJ1 : Nat → FieldType := fun k => match k with
  | _ => .int
abbrev wsJ10 : List Cond := u_ws RJ1 TJ1 0
theorem nmJ1 : ∀ a, a < 0 → ∀ b, b < 0 → a ≠ b → (TJ1 a).2.1 ≠ (TJ1 b).2.1 := by decide +kernel
theorem tyJ1_ok : ∀ k, k < 0 → parseFieldDescriptor (TJ1 k).2.2.1 = some (tyJ1 k) := by decide +kernel
abbrev cJ1_charAt_3b067 : ByteArray := prog_13_method_2_code
def yJ1_charAt_3b067 : MethodName := ⟨RJ1, "charAt", "([BI)C"⟩
def RJ2 : String := "java/lang/StringUTF16"
def TJ2 : u_T := fun k => match k with
  | _ => ("", "", "", false)
def tyJ2 : Nat → FieldType := fun k => match k with
  | _ => .int
abbrev wsJ20 : List Cond := u_ws RJ2 TJ2 0
theorem nmJ2 : ∀ a, a < 0 → ∀ b, b < 0 → a ≠ b → (TJ2 a).2.1 ≠ (TJ2 b).2.1 := by decide +kernel
theorem tyJ2_ok : ∀ k, k < 0 → parseFieldDescriptor (TJ2 k).2.2.1 = some (tyJ2 k) := by decide +kernel
abbrev cJ2_getChar_3b067 : ByteArray := prog_14_method_5_code
def yJ2_getChar_3b067 : MethodName := ⟨RJ2, "getChar", "([BI)C"⟩
abbrev cJ2_length_9d52b : ByteArray := prog_14_method_6_code
def yJ2_length_9d52b : MethodName := ⟨RJ2, "length", "([B)I"⟩
abbrev cJ2_charAt_3b067 : ByteArray := prog_14_method_83_code
def yJ2_charAt_3b067 : MethodName := ⟨RJ2, "charAt", "([BI)C"⟩
abbrev cJ2_checkIndex_2214a : ByteArray := prog_14_method_91_code
def yJ2_checkIndex_2214a : MethodName := ⟨RJ2, "checkIndex", "(I[B)V"⟩
def RJ10 : String := "java/lang/System"
def TJ10 : u_T := fun k => match k with
  | _ => ("", "", "", false)
def tyJ10 : Nat → FieldType := fun k => match k with
  | _ => .int
abbrev wsJ100 : List Cond := u_ws RJ10 TJ10 0
theorem nmJ10 : ∀ a, a < 0 → ∀ b, b < 0 → a ≠ b → (TJ10 a).2.1 ≠ (TJ10 b).2.1 := by decide +kernel
theorem tyJ10_ok : ∀ k, k < 0 → parseFieldDescriptor (TJ10 k).2.2.1 = some (tyJ10 k) := by decide +kernel
def RJ3 : String := "jdk/internal/util/Preconditions"
def TJ3 : u_T := fun k => match k with
  | _ => ("", "", "", false)
def tyJ3 : Nat → FieldType := fun k => match k with
  | _ => .int
abbrev wsJ30 : List Cond := u_ws RJ3 TJ3 0
theorem nmJ3 : ∀ a, a < 0 → ∀ b, b < 0 → a ≠ b → (TJ3 a).2.1 ≠ (TJ3 b).2.1 := by decide +kernel
theorem tyJ3_ok : ∀ k, k < 0 → parseFieldDescriptor (TJ3 k).2.2.1 = some (tyJ3 k) := by decide +kernel
abbrev cJ3_checkIndex_8e157 : ByteArray := prog_16_method_11_code
def yJ3_checkIndex_8e157 : MethodName := ⟨RJ3, "checkIndex", "(IILjava/util/function/BiFunction;)I"⟩
def RL : String := "DropCapitalsLaw"
abbrev cL_law : ByteArray := code
def yL_law : MethodName := ⟨RL, "law", "([I)Z"⟩
abbrev vwCl : List vw_C := [(RX0, TX0, 8), (RX1, TX1, 7), (RX2, TX2, 14), (RX3, TX3, 7), (RX4, TX4, 11), (RX5, TX5, 6), (RX6, TX6, 16), (RX7, TX7, 30)]
end
section
theorem dX0_init_0 : decode cX0_init 0 = .ok (.aload_n 0, 1) := by decide +kernel
theorem dX0_init_1 : decode cX0_init 1 = .ok (.invokespecial 3, 3) := by decide +kernel
theorem dX0_init_4 : decode cX0_init 4 = .ok (.aload_n 0, 1) := by decide +kernel
theorem dX0_init_5 : decode cX0_init 5 = .ok (.bipush 80, 2) := by decide +kernel
theorem dX0_init_7 : decode cX0_init 7 = .ok (.newarray .int, 2) := by decide +kernel
theorem dX0_init_9 : decode cX0_init 9 = .ok (.putfield 9, 3) := by decide +kernel
theorem dX0_init_12 : decode cX0_init 12 = .ok (.aload_n 0, 1) := by decide +kernel
theorem dX0_init_13 : decode cX0_init 13 = .ok (.bipush 80, 2) := by decide +kernel
theorem dX0_init_15 : decode cX0_init 15 = .ok (.newarray .int, 2) := by decide +kernel
theorem dX0_init_17 : decode cX0_init 17 = .ok (.putfield 15, 3) := by decide +kernel
theorem dX0_init_20 : decode cX0_init 20 = .ok (.aload_n 0, 1) := by decide +kernel
theorem dX0_init_21 : decode cX0_init 21 = .ok (.bipush 80, 2) := by decide +kernel
theorem dX0_init_23 : decode cX0_init 23 = .ok (.newarray .int, 2) := by decide +kernel
theorem dX0_init_25 : decode cX0_init 25 = .ok (.putfield 18, 3) := by decide +kernel
theorem dX0_init_28 : decode cX0_init 28 = .ok (.aload_n 0, 1) := by decide +kernel
theorem dX0_init_29 : decode cX0_init 29 = .ok (.sipush 1640, 3) := by decide +kernel
theorem dX0_init_32 : decode cX0_init 32 = .ok (.newarray .int, 2) := by decide +kernel
theorem dX0_init_34 : decode cX0_init 34 = .ok (.putfield 21, 3) := by decide +kernel
theorem dX0_init_37 : decode cX0_init 37 = .ok (.aload_n 0, 1) := by decide +kernel
theorem dX0_init_38 : decode cX0_init 38 = .ok (.sipush 1640, 3) := by decide +kernel
theorem dX0_init_41 : decode cX0_init 41 = .ok (.newarray .int, 2) := by decide +kernel
theorem dX0_init_43 : decode cX0_init 43 = .ok (.putfield 24, 3) := by decide +kernel
theorem dX0_init_46 : decode cX0_init 46 = .ok (.return_, 1) := by decide +kernel
theorem dX0_measureWords_0 : decode cX0_measureWords 0 = .ok (.iconst 0, 1) := by decide +kernel
theorem dX0_measureWords_1 : decode cX0_measureWords 1 = .ok (.istore_n 2, 1) := by decide +kernel
theorem dX0_measureWords_2 : decode cX0_measureWords 2 = .ok (.iload_n 2, 1) := by decide +kernel
theorem dX0_measureWords_3 : decode cX0_measureWords 3 = .ok (.aload_n 1, 1) := by decide +kernel
theorem dX0_measureWords_4 : decode cX0_measureWords 4 = .ok (.getfield 27, 3) := by decide +kernel
theorem dX0_measureWords_7 : decode cX0_measureWords 7 = .ok (.if_icmp .ge 24, 3) := by decide +kernel
theorem dX0_measureWords_10 : decode cX0_measureWords 10 = .ok (.aload_n 0, 1) := by decide +kernel
theorem dX0_measureWords_11 : decode cX0_measureWords 11 = .ok (.getfield 9, 3) := by decide +kernel
theorem dX0_measureWords_14 : decode cX0_measureWords 14 = .ok (.iload_n 2, 1) := by decide +kernel
theorem dX0_measureWords_15 : decode cX0_measureWords 15 = .ok (.aload_n 1, 1) := by decide +kernel
theorem dX0_measureWords_16 : decode cX0_measureWords 16 = .ok (.getfield 33, 3) := by decide +kernel
theorem dX0_measureWords_19 : decode cX0_measureWords 19 = .ok (.iload_n 2, 1) := by decide +kernel
theorem dX0_measureWords_20 : decode cX0_measureWords 20 = .ok (.iaload, 1) := by decide +kernel
theorem dX0_measureWords_21 : decode cX0_measureWords 21 = .ok (.invokestatic 36, 3) := by decide +kernel
theorem dX0_measureWords_24 : decode cX0_measureWords 24 = .ok (.iastore, 1) := by decide +kernel
theorem dX0_measureWords_25 : decode cX0_measureWords 25 = .ok (.iinc 2 1, 3) := by decide +kernel
theorem dX0_measureWords_28 : decode cX0_measureWords 28 = .ok (.goto (-26), 3) := by decide +kernel
theorem dX0_measureWords_31 : decode cX0_measureWords 31 = .ok (.return_, 1) := by decide +kernel
theorem dX0_breakFirst_0 : decode cX0_breakFirst 0 = .ok (.aload_n 0, 1) := by decide +kernel
theorem dX0_breakFirst_1 : decode cX0_breakFirst 1 = .ok (.iload_n 1, 1) := by decide +kernel
theorem dX0_breakFirst_2 : decode cX0_breakFirst 2 = .ok (.putfield 40, 3) := by decide +kernel
theorem dX0_breakFirst_5 : decode cX0_breakFirst 5 = .ok (.aload_n 0, 1) := by decide +kernel
theorem dX0_breakFirst_6 : decode cX0_breakFirst 6 = .ok (.iload_n 2, 1) := by decide +kernel
theorem dX0_breakFirst_7 : decode cX0_breakFirst 7 = .ok (.putfield 43, 3) := by decide +kernel
theorem dX0_breakFirst_10 : decode cX0_breakFirst 10 = .ok (.aload_n 0, 1) := by decide +kernel
theorem dX0_breakFirst_11 : decode cX0_breakFirst 11 = .ok (.iconst 0, 1) := by decide +kernel
theorem dX0_breakFirst_12 : decode cX0_breakFirst 12 = .ok (.putfield 45, 3) := by decide +kernel
theorem dX0_breakFirst_15 : decode cX0_breakFirst 15 = .ok (.iconst 0, 1) := by decide +kernel
theorem dX0_breakFirst_16 : decode cX0_breakFirst 16 = .ok (.istore_n 3, 1) := by decide +kernel
theorem dX0_breakFirst_17 : decode cX0_breakFirst 17 = .ok (.iconst 0, 1) := by decide +kernel
theorem dX0_breakFirst_18 : decode cX0_breakFirst 18 = .ok (.istore 4, 2) := by decide +kernel
theorem dX0_breakFirst_20 : decode cX0_breakFirst 20 = .ok (.iload 4, 2) := by decide +kernel
theorem dX0_breakFirst_22 : decode cX0_breakFirst 22 = .ok (.iload_n 2, 1) := by decide +kernel
theorem dX0_breakFirst_23 : decode cX0_breakFirst 23 = .ok (.if_icmp .ge 98, 3) := by decide +kernel
theorem dX0_breakFirst_26 : decode cX0_breakFirst 26 = .ok (.aload_n 0, 1) := by decide +kernel
theorem dX0_breakFirst_27 : decode cX0_breakFirst 27 = .ok (.getfield 9, 3) := by decide +kernel
theorem dX0_breakFirst_30 : decode cX0_breakFirst 30 = .ok (.aload_n 0, 1) := by decide +kernel
theorem dX0_breakFirst_31 : decode cX0_breakFirst 31 = .ok (.getfield 40, 3) := by decide +kernel
theorem dX0_breakFirst_34 : decode cX0_breakFirst 34 = .ok (.iload 4, 2) := by decide +kernel
theorem dX0_breakFirst_36 : decode cX0_breakFirst 36 = .ok (.iadd, 1) := by decide +kernel
theorem dX0_breakFirst_37 : decode cX0_breakFirst 37 = .ok (.iaload, 1) := by decide +kernel
theorem dX0_breakFirst_38 : decode cX0_breakFirst 38 = .ok (.istore 5, 2) := by decide +kernel
theorem dX0_breakFirst_40 : decode cX0_breakFirst 40 = .ok (.aload_n 0, 1) := by decide +kernel
theorem dX0_breakFirst_41 : decode cX0_breakFirst 41 = .ok (.getfield 45, 3) := by decide +kernel
theorem dX0_breakFirst_44 : decode cX0_breakFirst 44 = .ok (.ifCond .le 48, 3) := by decide +kernel
theorem dX0_breakFirst_47 : decode cX0_breakFirst 47 = .ok (.iload_n 3, 1) := by decide +kernel
theorem dX0_breakFirst_48 : decode cX0_breakFirst 48 = .ok (.iconst 1, 1) := by decide +kernel
theorem dX0_breakFirst_49 : decode cX0_breakFirst 49 = .ok (.iadd, 1) := by decide +kernel
theorem dX0_breakFirst_50 : decode cX0_breakFirst 50 = .ok (.iload 5, 2) := by decide +kernel
theorem dX0_breakFirst_52 : decode cX0_breakFirst 52 = .ok (.iadd, 1) := by decide +kernel
theorem dX0_breakFirst_53 : decode cX0_breakFirst 53 = .ok (.aload_n 0, 1) := by decide +kernel
theorem dX0_breakFirst_54 : decode cX0_breakFirst 54 = .ok (.getfield 15, 3) := by decide +kernel
theorem dX0_breakFirst_57 : decode cX0_breakFirst 57 = .ok (.aload_n 0, 1) := by decide +kernel
theorem dX0_breakFirst_58 : decode cX0_breakFirst 58 = .ok (.getfield 45, 3) := by decide +kernel
theorem dX0_breakFirst_61 : decode cX0_breakFirst 61 = .ok (.iconst 1, 1) := by decide +kernel
theorem dX0_breakFirst_62 : decode cX0_breakFirst 62 = .ok (.isub, 1) := by decide +kernel
theorem dX0_breakFirst_63 : decode cX0_breakFirst 63 = .ok (.iaload, 1) := by decide +kernel
theorem dX0_breakFirst_64 : decode cX0_breakFirst 64 = .ok (.if_icmp .gt 28, 3) := by decide +kernel
theorem dX0_breakFirst_67 : decode cX0_breakFirst 67 = .ok (.iload_n 3, 1) := by decide +kernel
theorem dX0_breakFirst_68 : decode cX0_breakFirst 68 = .ok (.iconst 1, 1) := by decide +kernel
theorem dX0_breakFirst_69 : decode cX0_breakFirst 69 = .ok (.iload 5, 2) := by decide +kernel
theorem dX0_breakFirst_71 : decode cX0_breakFirst 71 = .ok (.iadd, 1) := by decide +kernel
theorem dX0_breakFirst_72 : decode cX0_breakFirst 72 = .ok (.iadd, 1) := by decide +kernel
theorem dX0_breakFirst_73 : decode cX0_breakFirst 73 = .ok (.istore_n 3, 1) := by decide +kernel
theorem dX0_breakFirst_74 : decode cX0_breakFirst 74 = .ok (.aload_n 0, 1) := by decide +kernel
theorem dX0_breakFirst_75 : decode cX0_breakFirst 75 = .ok (.getfield 18, 3) := by decide +kernel
theorem dX0_breakFirst_78 : decode cX0_breakFirst 78 = .ok (.aload_n 0, 1) := by decide +kernel
theorem dX0_breakFirst_79 : decode cX0_breakFirst 79 = .ok (.getfield 45, 3) := by decide +kernel
theorem dX0_breakFirst_82 : decode cX0_breakFirst 82 = .ok (.iconst 1, 1) := by decide +kernel
theorem dX0_breakFirst_83 : decode cX0_breakFirst 83 = .ok (.isub, 1) := by decide +kernel
theorem dX0_breakFirst_84 : decode cX0_breakFirst 84 = .ok (.dup2, 1) := by decide +kernel
theorem dX0_breakFirst_85 : decode cX0_breakFirst 85 = .ok (.iaload, 1) := by decide +kernel
theorem dX0_breakFirst_86 : decode cX0_breakFirst 86 = .ok (.iconst 1, 1) := by decide +kernel
theorem dX0_breakFirst_87 : decode cX0_breakFirst 87 = .ok (.iadd, 1) := by decide +kernel
theorem dX0_breakFirst_88 : decode cX0_breakFirst 88 = .ok (.iastore, 1) := by decide +kernel
theorem dX0_breakFirst_89 : decode cX0_breakFirst 89 = .ok (.goto 26, 3) := by decide +kernel
theorem dX0_breakFirst_92 : decode cX0_breakFirst 92 = .ok (.aload_n 0, 1) := by decide +kernel
theorem dX0_breakFirst_93 : decode cX0_breakFirst 93 = .ok (.getfield 18, 3) := by decide +kernel
theorem dX0_breakFirst_96 : decode cX0_breakFirst 96 = .ok (.aload_n 0, 1) := by decide +kernel
theorem dX0_breakFirst_97 : decode cX0_breakFirst 97 = .ok (.getfield 45, 3) := by decide +kernel
theorem dX0_breakFirst_100 : decode cX0_breakFirst 100 = .ok (.iconst 1, 1) := by decide +kernel
theorem dX0_breakFirst_101 : decode cX0_breakFirst 101 = .ok (.iastore, 1) := by decide +kernel
theorem dX0_breakFirst_102 : decode cX0_breakFirst 102 = .ok (.aload_n 0, 1) := by decide +kernel
theorem dX0_breakFirst_103 : decode cX0_breakFirst 103 = .ok (.dup, 1) := by decide +kernel
theorem dX0_breakFirst_104 : decode cX0_breakFirst 104 = .ok (.getfield 45, 3) := by decide +kernel
theorem dX0_breakFirst_107 : decode cX0_breakFirst 107 = .ok (.iconst 1, 1) := by decide +kernel
theorem dX0_breakFirst_108 : decode cX0_breakFirst 108 = .ok (.iadd, 1) := by decide +kernel
theorem dX0_breakFirst_109 : decode cX0_breakFirst 109 = .ok (.putfield 45, 3) := by decide +kernel
theorem dX0_breakFirst_112 : decode cX0_breakFirst 112 = .ok (.iload 5, 2) := by decide +kernel
theorem dX0_breakFirst_114 : decode cX0_breakFirst 114 = .ok (.istore_n 3, 1) := by decide +kernel
theorem dX0_breakFirst_115 : decode cX0_breakFirst 115 = .ok (.iinc 4 1, 3) := by decide +kernel
theorem dX0_breakFirst_118 : decode cX0_breakFirst 118 = .ok (.goto (-98), 3) := by decide +kernel
theorem dX0_breakFirst_121 : decode cX0_breakFirst 121 = .ok (.aload_n 0, 1) := by decide +kernel
theorem dX0_breakFirst_122 : decode cX0_breakFirst 122 = .ok (.getfield 45, 3) := by decide +kernel
theorem dX0_breakFirst_125 : decode cX0_breakFirst 125 = .ok (.ireturn, 1) := by decide +kernel
theorem dX0_breakEvenly_0 : decode cX0_breakEvenly 0 = .ok (.aload_n 0, 1) := by decide +kernel
theorem dX0_breakEvenly_1 : decode cX0_breakEvenly 1 = .ok (.getfield 43, 3) := by decide +kernel
theorem dX0_breakEvenly_4 : decode cX0_breakEvenly 4 = .ok (.aload_n 0, 1) := by decide +kernel
theorem dX0_breakEvenly_5 : decode cX0_breakEvenly 5 = .ok (.getfield 45, 3) := by decide +kernel
theorem dX0_breakEvenly_8 : decode cX0_breakEvenly 8 = .ok (.isub, 1) := by decide +kernel
theorem dX0_breakEvenly_9 : decode cX0_breakEvenly 9 = .ok (.iconst 1, 1) := by decide +kernel
theorem dX0_breakEvenly_10 : decode cX0_breakEvenly 10 = .ok (.iadd, 1) := by decide +kernel
theorem dX0_breakEvenly_11 : decode cX0_breakEvenly 11 = .ok (.istore_n 1, 1) := by decide +kernel
theorem dX0_breakEvenly_12 : decode cX0_breakEvenly 12 = .ok (.iload_n 1, 1) := by decide +kernel
theorem dX0_breakEvenly_13 : decode cX0_breakEvenly 13 = .ok (.iconst 1, 1) := by decide +kernel
theorem dX0_breakEvenly_14 : decode cX0_breakEvenly 14 = .ok (.if_icmp .lt 15, 3) := by decide +kernel
theorem dX0_breakEvenly_17 : decode cX0_breakEvenly 17 = .ok (.aload_n 0, 1) := by decide +kernel
theorem dX0_breakEvenly_18 : decode cX0_breakEvenly 18 = .ok (.getfield 45, 3) := by decide +kernel
theorem dX0_breakEvenly_21 : decode cX0_breakEvenly 21 = .ok (.iload_n 1, 1) := by decide +kernel
theorem dX0_breakEvenly_22 : decode cX0_breakEvenly 22 = .ok (.imul, 1) := by decide +kernel
theorem dX0_breakEvenly_23 : decode cX0_breakEvenly 23 = .ok (.sipush 1640, 3) := by decide +kernel
theorem dX0_breakEvenly_26 : decode cX0_breakEvenly 26 = .ok (.if_icmp .le 4, 3) := by decide +kernel
theorem dX0_breakEvenly_29 : decode cX0_breakEvenly 29 = .ok (.return_, 1) := by decide +kernel
theorem dX0_breakEvenly_30 : decode cX0_breakEvenly 30 = .ok (.iload_n 1, 1) := by decide +kernel
theorem dX0_breakEvenly_31 : decode cX0_breakEvenly 31 = .ok (.iconst 1, 1) := by decide +kernel
theorem dX0_breakEvenly_32 : decode cX0_breakEvenly 32 = .ok (.isub, 1) := by decide +kernel
theorem dX0_breakEvenly_33 : decode cX0_breakEvenly 33 = .ok (.istore_n 2, 1) := by decide +kernel
theorem dX0_breakEvenly_34 : decode cX0_breakEvenly 34 = .ok (.aload_n 0, 1) := by decide +kernel
theorem dX0_breakEvenly_35 : decode cX0_breakEvenly 35 = .ok (.getfield 45, 3) := by decide +kernel
theorem dX0_breakEvenly_38 : decode cX0_breakEvenly 38 = .ok (.iconst 1, 1) := by decide +kernel
theorem dX0_breakEvenly_39 : decode cX0_breakEvenly 39 = .ok (.isub, 1) := by decide +kernel
theorem dX0_breakEvenly_40 : decode cX0_breakEvenly 40 = .ok (.istore_n 3, 1) := by decide +kernel
theorem dX0_breakEvenly_41 : decode cX0_breakEvenly 41 = .ok (.iload_n 3, 1) := by decide +kernel
theorem dX0_breakEvenly_42 : decode cX0_breakEvenly 42 = .ok (.ifCond .lt 43, 3) := by decide +kernel
theorem dX0_breakEvenly_45 : decode cX0_breakEvenly 45 = .ok (.iload_n 2, 1) := by decide +kernel
theorem dX0_breakEvenly_46 : decode cX0_breakEvenly 46 = .ok (.aload_n 0, 1) := by decide +kernel
theorem dX0_breakEvenly_47 : decode cX0_breakEvenly 47 = .ok (.getfield 18, 3) := by decide +kernel
theorem dX0_breakEvenly_50 : decode cX0_breakEvenly 50 = .ok (.iload_n 3, 1) := by decide +kernel
theorem dX0_breakEvenly_51 : decode cX0_breakEvenly 51 = .ok (.iaload, 1) := by decide +kernel
theorem dX0_breakEvenly_52 : decode cX0_breakEvenly 52 = .ok (.iconst 1, 1) := by decide +kernel
theorem dX0_breakEvenly_53 : decode cX0_breakEvenly 53 = .ok (.isub, 1) := by decide +kernel
theorem dX0_breakEvenly_54 : decode cX0_breakEvenly 54 = .ok (.isub, 1) := by decide +kernel
theorem dX0_breakEvenly_55 : decode cX0_breakEvenly 55 = .ok (.istore_n 2, 1) := by decide +kernel
theorem dX0_breakEvenly_56 : decode cX0_breakEvenly 56 = .ok (.iconst 0, 1) := by decide +kernel
theorem dX0_breakEvenly_57 : decode cX0_breakEvenly 57 = .ok (.istore 4, 2) := by decide +kernel
theorem dX0_breakEvenly_59 : decode cX0_breakEvenly 59 = .ok (.iload 4, 2) := by decide +kernel
theorem dX0_breakEvenly_61 : decode cX0_breakEvenly 61 = .ok (.iload_n 2, 1) := by decide +kernel
theorem dX0_breakEvenly_62 : decode cX0_breakEvenly 62 = .ok (.if_icmp .gt 17, 3) := by decide +kernel
theorem dX0_breakEvenly_65 : decode cX0_breakEvenly 65 = .ok (.aload_n 0, 1) := by decide +kernel
theorem dX0_breakEvenly_66 : decode cX0_breakEvenly 66 = .ok (.iload_n 3, 1) := by decide +kernel
theorem dX0_breakEvenly_67 : decode cX0_breakEvenly 67 = .ok (.iload 4, 2) := by decide +kernel
theorem dX0_breakEvenly_69 : decode cX0_breakEvenly 69 = .ok (.iload_n 1, 1) := by decide +kernel
theorem dX0_breakEvenly_70 : decode cX0_breakEvenly 70 = .ok (.invokevirtual 48, 3) := by decide +kernel
theorem dX0_breakEvenly_73 : decode cX0_breakEvenly 73 = .ok (.iinc 4 1, 3) := by decide +kernel
theorem dX0_breakEvenly_76 : decode cX0_breakEvenly 76 = .ok (.goto (-17), 3) := by decide +kernel
theorem dX0_breakEvenly_79 : decode cX0_breakEvenly 79 = .ok (.iinc 3 (-1), 3) := by decide +kernel
theorem dX0_breakEvenly_82 : decode cX0_breakEvenly 82 = .ok (.goto (-41), 3) := by decide +kernel
theorem dX0_breakEvenly_85 : decode cX0_breakEvenly 85 = .ok (.iconst 0, 1) := by decide +kernel
theorem dX0_breakEvenly_86 : decode cX0_breakEvenly 86 = .ok (.istore_n 3, 1) := by decide +kernel
theorem dX0_breakEvenly_87 : decode cX0_breakEvenly 87 = .ok (.iconst 0, 1) := by decide +kernel
theorem dX0_breakEvenly_88 : decode cX0_breakEvenly 88 = .ok (.istore 4, 2) := by decide +kernel
theorem dX0_breakEvenly_90 : decode cX0_breakEvenly 90 = .ok (.iload 4, 2) := by decide +kernel
theorem dX0_breakEvenly_92 : decode cX0_breakEvenly 92 = .ok (.aload_n 0, 1) := by decide +kernel
theorem dX0_breakEvenly_93 : decode cX0_breakEvenly 93 = .ok (.getfield 45, 3) := by decide +kernel
theorem dX0_breakEvenly_96 : decode cX0_breakEvenly 96 = .ok (.if_icmp .ge 44, 3) := by decide +kernel
theorem dX0_breakEvenly_99 : decode cX0_breakEvenly 99 = .ok (.iload_n 3, 1) := by decide +kernel
theorem dX0_breakEvenly_100 : decode cX0_breakEvenly 100 = .ok (.iload_n 1, 1) := by decide +kernel
theorem dX0_breakEvenly_101 : decode cX0_breakEvenly 101 = .ok (.if_icmp .ge 39, 3) := by decide +kernel
theorem dX0_breakEvenly_104 : decode cX0_breakEvenly 104 = .ok (.aload_n 0, 1) := by decide +kernel
theorem dX0_breakEvenly_105 : decode cX0_breakEvenly 105 = .ok (.getfield 18, 3) := by decide +kernel
theorem dX0_breakEvenly_108 : decode cX0_breakEvenly 108 = .ok (.iload 4, 2) := by decide +kernel
theorem dX0_breakEvenly_110 : decode cX0_breakEvenly 110 = .ok (.aload_n 0, 1) := by decide +kernel
theorem dX0_breakEvenly_111 : decode cX0_breakEvenly 111 = .ok (.getfield 24, 3) := by decide +kernel
theorem dX0_breakEvenly_114 : decode cX0_breakEvenly 114 = .ok (.iload 4, 2) := by decide +kernel
theorem dX0_breakEvenly_116 : decode cX0_breakEvenly 116 = .ok (.iload_n 1, 1) := by decide +kernel
theorem dX0_breakEvenly_117 : decode cX0_breakEvenly 117 = .ok (.imul, 1) := by decide +kernel
theorem dX0_breakEvenly_118 : decode cX0_breakEvenly 118 = .ok (.iload_n 3, 1) := by decide +kernel
theorem dX0_breakEvenly_119 : decode cX0_breakEvenly 119 = .ok (.iadd, 1) := by decide +kernel
theorem dX0_breakEvenly_120 : decode cX0_breakEvenly 120 = .ok (.iaload, 1) := by decide +kernel
theorem dX0_breakEvenly_121 : decode cX0_breakEvenly 121 = .ok (.iastore, 1) := by decide +kernel
theorem dX0_breakEvenly_122 : decode cX0_breakEvenly 122 = .ok (.iload_n 3, 1) := by decide +kernel
theorem dX0_breakEvenly_123 : decode cX0_breakEvenly 123 = .ok (.aload_n 0, 1) := by decide +kernel
theorem dX0_breakEvenly_124 : decode cX0_breakEvenly 124 = .ok (.getfield 18, 3) := by decide +kernel
theorem dX0_breakEvenly_127 : decode cX0_breakEvenly 127 = .ok (.iload 4, 2) := by decide +kernel
theorem dX0_breakEvenly_129 : decode cX0_breakEvenly 129 = .ok (.iaload, 1) := by decide +kernel
theorem dX0_breakEvenly_130 : decode cX0_breakEvenly 130 = .ok (.iconst 1, 1) := by decide +kernel
theorem dX0_breakEvenly_131 : decode cX0_breakEvenly 131 = .ok (.isub, 1) := by decide +kernel
theorem dX0_breakEvenly_132 : decode cX0_breakEvenly 132 = .ok (.iadd, 1) := by decide +kernel
theorem dX0_breakEvenly_133 : decode cX0_breakEvenly 133 = .ok (.istore_n 3, 1) := by decide +kernel
theorem dX0_breakEvenly_134 : decode cX0_breakEvenly 134 = .ok (.iinc 4 1, 3) := by decide +kernel
theorem dX0_breakEvenly_137 : decode cX0_breakEvenly 137 = .ok (.goto (-47), 3) := by decide +kernel
theorem dX0_breakEvenly_140 : decode cX0_breakEvenly 140 = .ok (.return_, 1) := by decide +kernel
theorem dX0_weigh_0 : decode cX0_weigh 0 = .ok (.iload_n 1, 1) := by decide +kernel
theorem dX0_weigh_1 : decode cX0_weigh 1 = .ok (.iload_n 3, 1) := by decide +kernel
theorem dX0_weigh_2 : decode cX0_weigh 2 = .ok (.imul, 1) := by decide +kernel
theorem dX0_weigh_3 : decode cX0_weigh 3 = .ok (.iload_n 2, 1) := by decide +kernel
theorem dX0_weigh_4 : decode cX0_weigh 4 = .ok (.iadd, 1) := by decide +kernel
theorem dX0_weigh_5 : decode cX0_weigh 5 = .ok (.istore 4, 2) := by decide +kernel
theorem dX0_weigh_7 : decode cX0_weigh 7 = .ok (.iload_n 1, 1) := by decide +kernel
theorem dX0_weigh_8 : decode cX0_weigh 8 = .ok (.aload_n 0, 1) := by decide +kernel
theorem dX0_weigh_9 : decode cX0_weigh 9 = .ok (.getfield 45, 3) := by decide +kernel
theorem dX0_weigh_12 : decode cX0_weigh 12 = .ok (.iconst 1, 1) := by decide +kernel
theorem dX0_weigh_13 : decode cX0_weigh 13 = .ok (.isub, 1) := by decide +kernel
theorem dX0_weigh_14 : decode cX0_weigh 14 = .ok (.if_icmp .ne 7, 3) := by decide +kernel
theorem dX0_weigh_17 : decode cX0_weigh 17 = .ok (.iconst 1, 1) := by decide +kernel
theorem dX0_weigh_18 : decode cX0_weigh 18 = .ok (.goto 4, 3) := by decide +kernel
theorem dX0_weigh_21 : decode cX0_weigh 21 = .ok (.iconst 0, 1) := by decide +kernel
theorem dX0_weigh_22 : decode cX0_weigh 22 = .ok (.istore 5, 2) := by decide +kernel
theorem dX0_weigh_24 : decode cX0_weigh 24 = .ok (.iconst (-1), 1) := by decide +kernel
theorem dX0_weigh_25 : decode cX0_weigh 25 = .ok (.istore 6, 2) := by decide +kernel
theorem dX0_weigh_27 : decode cX0_weigh 27 = .ok (.aload_n 0, 1) := by decide +kernel
theorem dX0_weigh_28 : decode cX0_weigh 28 = .ok (.getfield 21, 3) := by decide +kernel
theorem dX0_weigh_31 : decode cX0_weigh 31 = .ok (.iload 4, 2) := by decide +kernel
theorem dX0_weigh_33 : decode cX0_weigh 33 = .ok (.ldc 52, 2) := by decide +kernel
theorem dX0_weigh_35 : decode cX0_weigh 35 = .ok (.iastore, 1) := by decide +kernel
theorem dX0_weigh_36 : decode cX0_weigh 36 = .ok (.aload_n 0, 1) := by decide +kernel
theorem dX0_weigh_37 : decode cX0_weigh 37 = .ok (.getfield 24, 3) := by decide +kernel
theorem dX0_weigh_40 : decode cX0_weigh 40 = .ok (.iload 4, 2) := by decide +kernel
theorem dX0_weigh_42 : decode cX0_weigh 42 = .ok (.iconst 1, 1) := by decide +kernel
theorem dX0_weigh_43 : decode cX0_weigh 43 = .ok (.iastore, 1) := by decide +kernel
theorem dX0_weigh_44 : decode cX0_weigh 44 = .ok (.iconst 1, 1) := by decide +kernel
theorem dX0_weigh_45 : decode cX0_weigh 45 = .ok (.istore 7, 2) := by decide +kernel
theorem dX0_weigh_47 : decode cX0_weigh 47 = .ok (.iload_n 2, 1) := by decide +kernel
theorem dX0_weigh_48 : decode cX0_weigh 48 = .ok (.iload 7, 2) := by decide +kernel
theorem dX0_weigh_50 : decode cX0_weigh 50 = .ok (.iadd, 1) := by decide +kernel
theorem dX0_weigh_51 : decode cX0_weigh 51 = .ok (.iload_n 3, 1) := by decide +kernel
theorem dX0_weigh_52 : decode cX0_weigh 52 = .ok (.if_icmp .gt 166, 3) := by decide +kernel
theorem dX0_weigh_55 : decode cX0_weigh 55 = .ok (.iload 6, 2) := by decide +kernel
theorem dX0_weigh_57 : decode cX0_weigh 57 = .ok (.iconst 1, 1) := by decide +kernel
theorem dX0_weigh_58 : decode cX0_weigh 58 = .ok (.aload_n 0, 1) := by decide +kernel
theorem dX0_weigh_59 : decode cX0_weigh 59 = .ok (.getfield 9, 3) := by decide +kernel
theorem dX0_weigh_62 : decode cX0_weigh 62 = .ok (.aload_n 0, 1) := by decide +kernel
theorem dX0_weigh_63 : decode cX0_weigh 63 = .ok (.getfield 40, 3) := by decide +kernel
theorem dX0_weigh_66 : decode cX0_weigh 66 = .ok (.iload_n 1, 1) := by decide +kernel
theorem dX0_weigh_67 : decode cX0_weigh 67 = .ok (.iadd, 1) := by decide +kernel
theorem dX0_weigh_68 : decode cX0_weigh 68 = .ok (.iload_n 2, 1) := by decide +kernel
theorem dX0_weigh_69 : decode cX0_weigh 69 = .ok (.iadd, 1) := by decide +kernel
theorem dX0_weigh_70 : decode cX0_weigh 70 = .ok (.iload 7, 2) := by decide +kernel
theorem dX0_weigh_72 : decode cX0_weigh 72 = .ok (.iadd, 1) := by decide +kernel
theorem dX0_weigh_73 : decode cX0_weigh 73 = .ok (.iconst 1, 1) := by decide +kernel
theorem dX0_weigh_74 : decode cX0_weigh 74 = .ok (.isub, 1) := by decide +kernel
theorem dX0_weigh_75 : decode cX0_weigh 75 = .ok (.iaload, 1) := by decide +kernel
theorem dX0_weigh_76 : decode cX0_weigh 76 = .ok (.iadd, 1) := by decide +kernel
theorem dX0_weigh_77 : decode cX0_weigh 77 = .ok (.iadd, 1) := by decide +kernel
theorem dX0_weigh_78 : decode cX0_weigh 78 = .ok (.istore 6, 2) := by decide +kernel
theorem dX0_weigh_80 : decode cX0_weigh 80 = .ok (.aload_n 0, 1) := by decide +kernel
theorem dX0_weigh_81 : decode cX0_weigh 81 = .ok (.getfield 15, 3) := by decide +kernel
theorem dX0_weigh_84 : decode cX0_weigh 84 = .ok (.iload_n 1, 1) := by decide +kernel
theorem dX0_weigh_85 : decode cX0_weigh 85 = .ok (.iaload, 1) := by decide +kernel
theorem dX0_weigh_86 : decode cX0_weigh 86 = .ok (.iload 6, 2) := by decide +kernel
theorem dX0_weigh_88 : decode cX0_weigh 88 = .ok (.isub, 1) := by decide +kernel
theorem dX0_weigh_89 : decode cX0_weigh 89 = .ok (.istore 8, 2) := by decide +kernel
theorem dX0_weigh_91 : decode cX0_weigh 91 = .ok (.iload 8, 2) := by decide +kernel
theorem dX0_weigh_93 : decode cX0_weigh 93 = .ok (.ifCond .ge 12, 3) := by decide +kernel
theorem dX0_weigh_96 : decode cX0_weigh 96 = .ok (.iload 7, 2) := by decide +kernel
theorem dX0_weigh_98 : decode cX0_weigh 98 = .ok (.iconst 1, 1) := by decide +kernel
theorem dX0_weigh_99 : decode cX0_weigh 99 = .ok (.if_icmp .le 6, 3) := by decide +kernel
theorem dX0_weigh_102 : decode cX0_weigh 102 = .ok (.goto 116, 3) := by decide +kernel
theorem dX0_weigh_105 : decode cX0_weigh 105 = .ok (.iload 8, 2) := by decide +kernel
theorem dX0_weigh_107 : decode cX0_weigh 107 = .ok (.ifCond .ge 8, 3) := by decide +kernel
theorem dX0_weigh_110 : decode cX0_weigh 110 = .ok (.ldc 53, 2) := by decide +kernel
theorem dX0_weigh_112 : decode cX0_weigh 112 = .ok (.goto 17, 3) := by decide +kernel
theorem dX0_weigh_115 : decode cX0_weigh 115 = .ok (.iload 5, 2) := by decide +kernel
theorem dX0_weigh_117 : decode cX0_weigh 117 = .ok (.ifCond .eq 7, 3) := by decide +kernel
theorem dX0_weigh_120 : decode cX0_weigh 120 = .ok (.iconst 0, 1) := by decide +kernel
theorem dX0_weigh_121 : decode cX0_weigh 121 = .ok (.goto 8, 3) := by decide +kernel
theorem dX0_weigh_124 : decode cX0_weigh 124 = .ok (.iload 8, 2) := by decide +kernel
theorem dX0_weigh_126 : decode cX0_weigh 126 = .ok (.iload 8, 2) := by decide +kernel
theorem dX0_weigh_128 : decode cX0_weigh 128 = .ok (.imul, 1) := by decide +kernel
theorem dX0_weigh_129 : decode cX0_weigh 129 = .ok (.istore 9, 2) := by decide +kernel
theorem dX0_weigh_131 : decode cX0_weigh 131 = .ok (.iload 5, 2) := by decide +kernel
theorem dX0_weigh_133 : decode cX0_weigh 133 = .ok (.ifCond .eq 20, 3) := by decide +kernel
theorem dX0_weigh_136 : decode cX0_weigh 136 = .ok (.iload_n 2, 1) := by decide +kernel
theorem dX0_weigh_137 : decode cX0_weigh 137 = .ok (.iload 7, 2) := by decide +kernel
theorem dX0_weigh_139 : decode cX0_weigh 139 = .ok (.iadd, 1) := by decide +kernel
theorem dX0_weigh_140 : decode cX0_weigh 140 = .ok (.iload_n 3, 1) := by decide +kernel
theorem dX0_weigh_141 : decode cX0_weigh 141 = .ok (.if_icmp .ne 7, 3) := by decide +kernel
theorem dX0_weigh_144 : decode cX0_weigh 144 = .ok (.iconst 0, 1) := by decide +kernel
theorem dX0_weigh_145 : decode cX0_weigh 145 = .ok (.goto 22, 3) := by decide +kernel
theorem dX0_weigh_148 : decode cX0_weigh 148 = .ok (.ldc 52, 2) := by decide +kernel
theorem dX0_weigh_150 : decode cX0_weigh 150 = .ok (.goto 17, 3) := by decide +kernel
theorem dX0_weigh_153 : decode cX0_weigh 153 = .ok (.aload_n 0, 1) := by decide +kernel
theorem dX0_weigh_154 : decode cX0_weigh 154 = .ok (.getfield 21, 3) := by decide +kernel
theorem dX0_weigh_157 : decode cX0_weigh 157 = .ok (.iload 4, 2) := by decide +kernel
theorem dX0_weigh_159 : decode cX0_weigh 159 = .ok (.iload_n 3, 1) := by decide +kernel
theorem dX0_weigh_160 : decode cX0_weigh 160 = .ok (.iadd, 1) := by decide +kernel
theorem dX0_weigh_161 : decode cX0_weigh 161 = .ok (.iload 7, 2) := by decide +kernel
theorem dX0_weigh_163 : decode cX0_weigh 163 = .ok (.iadd, 1) := by decide +kernel
theorem dX0_weigh_164 : decode cX0_weigh 164 = .ok (.iconst 1, 1) := by decide +kernel
theorem dX0_weigh_165 : decode cX0_weigh 165 = .ok (.isub, 1) := by decide +kernel
theorem dX0_weigh_166 : decode cX0_weigh 166 = .ok (.iaload, 1) := by decide +kernel
theorem dX0_weigh_167 : decode cX0_weigh 167 = .ok (.istore 10, 2) := by decide +kernel
theorem dX0_weigh_169 : decode cX0_weigh 169 = .ok (.iload 10, 2) := by decide +kernel
theorem dX0_weigh_171 : decode cX0_weigh 171 = .ok (.ldc 52, 2) := by decide +kernel
theorem dX0_weigh_173 : decode cX0_weigh 173 = .ok (.if_icmp .ge 39, 3) := by decide +kernel
theorem dX0_weigh_176 : decode cX0_weigh 176 = .ok (.iload 9, 2) := by decide +kernel
theorem dX0_weigh_178 : decode cX0_weigh 178 = .ok (.iload 10, 2) := by decide +kernel
theorem dX0_weigh_180 : decode cX0_weigh 180 = .ok (.iadd, 1) := by decide +kernel
theorem dX0_weigh_181 : decode cX0_weigh 181 = .ok (.aload_n 0, 1) := by decide +kernel
theorem dX0_weigh_182 : decode cX0_weigh 182 = .ok (.getfield 21, 3) := by decide +kernel
theorem dX0_weigh_185 : decode cX0_weigh 185 = .ok (.iload 4, 2) := by decide +kernel
theorem dX0_weigh_187 : decode cX0_weigh 187 = .ok (.iaload, 1) := by decide +kernel
theorem dX0_weigh_188 : decode cX0_weigh 188 = .ok (.if_icmp .gt 24, 3) := by decide +kernel
theorem dX0_weigh_191 : decode cX0_weigh 191 = .ok (.aload_n 0, 1) := by decide +kernel
theorem dX0_weigh_192 : decode cX0_weigh 192 = .ok (.getfield 21, 3) := by decide +kernel
theorem dX0_weigh_195 : decode cX0_weigh 195 = .ok (.iload 4, 2) := by decide +kernel
theorem dX0_weigh_197 : decode cX0_weigh 197 = .ok (.iload 9, 2) := by decide +kernel
theorem dX0_weigh_199 : decode cX0_weigh 199 = .ok (.iload 10, 2) := by decide +kernel
theorem dX0_weigh_201 : decode cX0_weigh 201 = .ok (.iadd, 1) := by decide +kernel
theorem dX0_weigh_202 : decode cX0_weigh 202 = .ok (.iastore, 1) := by decide +kernel
theorem dX0_weigh_203 : decode cX0_weigh 203 = .ok (.aload_n 0, 1) := by decide +kernel
theorem dX0_weigh_204 : decode cX0_weigh 204 = .ok (.getfield 24, 3) := by decide +kernel
theorem dX0_weigh_207 : decode cX0_weigh 207 = .ok (.iload 4, 2) := by decide +kernel
theorem dX0_weigh_209 : decode cX0_weigh 209 = .ok (.iload 7, 2) := by decide +kernel
theorem dX0_weigh_211 : decode cX0_weigh 211 = .ok (.iastore, 1) := by decide +kernel
theorem dX0_weigh_212 : decode cX0_weigh 212 = .ok (.iinc 7 1, 3) := by decide +kernel
theorem dX0_weigh_215 : decode cX0_weigh 215 = .ok (.goto (-168), 3) := by decide +kernel
theorem dX0_weigh_218 : decode cX0_weigh 218 = .ok (.return_, 1) := by decide +kernel
theorem dX1_init_0 : decode cX1_init 0 = .ok (.aload_n 0, 1) := by decide +kernel
theorem dX1_init_1 : decode cX1_init 1 = .ok (.invokespecial 3, 3) := by decide +kernel
theorem dX1_init_4 : decode cX1_init 4 = .ok (.aload_n 0, 1) := by decide +kernel
theorem dX1_init_5 : decode cX1_init 5 = .ok (.bipush 8, 2) := by decide +kernel
theorem dX1_init_7 : decode cX1_init 7 = .ok (.newarray .int, 2) := by decide +kernel
theorem dX1_init_9 : decode cX1_init 9 = .ok (.putfield 9, 3) := by decide +kernel
theorem dX1_init_12 : decode cX1_init 12 = .ok (.aload_n 0, 1) := by decide +kernel
theorem dX1_init_13 : decode cX1_init 13 = .ok (.bipush 8, 2) := by decide +kernel
theorem dX1_init_15 : decode cX1_init 15 = .ok (.newarray .int, 2) := by decide +kernel
theorem dX1_init_17 : decode cX1_init 17 = .ok (.putfield 15, 3) := by decide +kernel
theorem dX1_init_20 : decode cX1_init 20 = .ok (.aload_n 0, 1) := by decide +kernel
theorem dX1_init_21 : decode cX1_init 21 = .ok (.bipush 8, 2) := by decide +kernel
theorem dX1_init_23 : decode cX1_init 23 = .ok (.newarray .int, 2) := by decide +kernel
theorem dX1_init_25 : decode cX1_init 25 = .ok (.putfield 18, 3) := by decide +kernel
theorem dX1_init_28 : decode cX1_init 28 = .ok (.aload_n 0, 1) := by decide +kernel
theorem dX1_init_29 : decode cX1_init 29 = .ok (.aload_n 1, 1) := by decide +kernel
theorem dX1_init_30 : decode cX1_init 30 = .ok (.putfield 21, 3) := by decide +kernel
theorem dX1_init_33 : decode cX1_init 33 = .ok (.aload_n 0, 1) := by decide +kernel
theorem dX1_init_34 : decode cX1_init 34 = .ok (.aload_n 2, 1) := by decide +kernel
theorem dX1_init_35 : decode cX1_init 35 = .ok (.putfield 25, 3) := by decide +kernel
theorem dX1_init_38 : decode cX1_init 38 = .ok (.return_, 1) := by decide +kernel
theorem dX1_draw_0 : decode cX1_draw 0 = .ok (.aload_n 0, 1) := by decide +kernel
theorem dX1_draw_1 : decode cX1_draw 1 = .ok (.getfield 25, 3) := by decide +kernel
theorem dX1_draw_4 : decode cX1_draw 4 = .ok (.getfield 29, 3) := by decide +kernel
theorem dX1_draw_7 : decode cX1_draw 7 = .ok (.iload_n 1, 1) := by decide +kernel
theorem dX1_draw_8 : decode cX1_draw 8 = .ok (.iaload, 1) := by decide +kernel
theorem dX1_draw_9 : decode cX1_draw 9 = .ok (.istore_n 2, 1) := by decide +kernel
theorem dX1_draw_10 : decode cX1_draw 10 = .ok (.aload_n 0, 1) := by decide +kernel
theorem dX1_draw_11 : decode cX1_draw 11 = .ok (.iconst 0, 1) := by decide +kernel
theorem dX1_draw_12 : decode cX1_draw 12 = .ok (.putfield 34, 3) := by decide +kernel
theorem dX1_draw_15 : decode cX1_draw 15 = .ok (.aload_n 0, 1) := by decide +kernel
theorem dX1_draw_16 : decode cX1_draw 16 = .ok (.iconst 0, 1) := by decide +kernel
theorem dX1_draw_17 : decode cX1_draw 17 = .ok (.putfield 38, 3) := by decide +kernel
theorem dX1_draw_20 : decode cX1_draw 20 = .ok (.iload_n 2, 1) := by decide +kernel
theorem dX1_draw_21 : decode cX1_draw 21 = .ok (.ifCond .lt 27, 3) := by decide +kernel
theorem dX1_draw_24 : decode cX1_draw 24 = .ok (.iload_n 2, 1) := by decide +kernel
theorem dX1_draw_25 : decode cX1_draw 25 = .ok (.aload_n 0, 1) := by decide +kernel
theorem dX1_draw_26 : decode cX1_draw 26 = .ok (.getfield 21, 3) := by decide +kernel
theorem dX1_draw_29 : decode cX1_draw 29 = .ok (.getfield 41, 3) := by decide +kernel
theorem dX1_draw_32 : decode cX1_draw 32 = .ok (.if_icmp .ge 16, 3) := by decide +kernel
theorem dX1_draw_35 : decode cX1_draw 35 = .ok (.aload_n 0, 1) := by decide +kernel
theorem dX1_draw_36 : decode cX1_draw 36 = .ok (.getfield 21, 3) := by decide +kernel
theorem dX1_draw_39 : decode cX1_draw 39 = .ok (.getfield 46, 3) := by decide +kernel
theorem dX1_draw_42 : decode cX1_draw 42 = .ok (.iload_n 2, 1) := by decide +kernel
theorem dX1_draw_43 : decode cX1_draw 43 = .ok (.iaload, 1) := by decide +kernel
theorem dX1_draw_44 : decode cX1_draw 44 = .ok (.iconst 1, 1) := by decide +kernel
theorem dX1_draw_45 : decode cX1_draw 45 = .ok (.if_icmp .ge 4, 3) := by decide +kernel
theorem dX1_draw_48 : decode cX1_draw 48 = .ok (.return_, 1) := by decide +kernel
theorem dX1_draw_49 : decode cX1_draw 49 = .ok (.aload_n 0, 1) := by decide +kernel
theorem dX1_draw_50 : decode cX1_draw 50 = .ok (.getfield 21, 3) := by decide +kernel
theorem dX1_draw_53 : decode cX1_draw 53 = .ok (.getfield 46, 3) := by decide +kernel
theorem dX1_draw_56 : decode cX1_draw 56 = .ok (.iload_n 2, 1) := by decide +kernel
theorem dX1_draw_57 : decode cX1_draw 57 = .ok (.iaload, 1) := by decide +kernel
theorem dX1_draw_58 : decode cX1_draw 58 = .ok (.istore_n 3, 1) := by decide +kernel
theorem dX1_draw_59 : decode cX1_draw 59 = .ok (.aload_n 0, 1) := by decide +kernel
theorem dX1_draw_60 : decode cX1_draw 60 = .ok (.aload_n 0, 1) := by decide +kernel
theorem dX1_draw_61 : decode cX1_draw 61 = .ok (.getfield 25, 3) := by decide +kernel
theorem dX1_draw_64 : decode cX1_draw 64 = .ok (.getfield 49, 3) := by decide +kernel
theorem dX1_draw_67 : decode cX1_draw 67 = .ok (.iload_n 1, 1) := by decide +kernel
theorem dX1_draw_68 : decode cX1_draw 68 = .ok (.iaload, 1) := by decide +kernel
theorem dX1_draw_69 : decode cX1_draw 69 = .ok (.iconst 1, 1) := by decide +kernel
theorem dX1_draw_70 : decode cX1_draw 70 = .ok (.isub, 1) := by decide +kernel
theorem dX1_draw_71 : decode cX1_draw 71 = .ok (.aload_n 0, 1) := by decide +kernel
theorem dX1_draw_72 : decode cX1_draw 72 = .ok (.getfield 25, 3) := by decide +kernel
theorem dX1_draw_75 : decode cX1_draw 75 = .ok (.getfield 52, 3) := by decide +kernel
theorem dX1_draw_78 : decode cX1_draw 78 = .ok (.iconst 1, 1) := by decide +kernel
theorem dX1_draw_79 : decode cX1_draw 79 = .ok (.iaload, 1) := by decide +kernel
theorem dX1_draw_80 : decode cX1_draw 80 = .ok (.imul, 1) := by decide +kernel
theorem dX1_draw_81 : decode cX1_draw 81 = .ok (.aload_n 0, 1) := by decide +kernel
theorem dX1_draw_82 : decode cX1_draw 82 = .ok (.getfield 25, 3) := by decide +kernel
theorem dX1_draw_85 : decode cX1_draw 85 = .ok (.getfield 52, 3) := by decide +kernel
theorem dX1_draw_88 : decode cX1_draw 88 = .ok (.iconst 2, 1) := by decide +kernel
theorem dX1_draw_89 : decode cX1_draw 89 = .ok (.iaload, 1) := by decide +kernel
theorem dX1_draw_90 : decode cX1_draw 90 = .ok (.iadd, 1) := by decide +kernel
theorem dX1_draw_91 : decode cX1_draw 91 = .ok (.putfield 34, 3) := by decide +kernel
theorem dX1_draw_94 : decode cX1_draw 94 = .ok (.aload_n 0, 1) := by decide +kernel
theorem dX1_draw_95 : decode cX1_draw 95 = .ok (.aload_n 0, 1) := by decide +kernel
theorem dX1_draw_96 : decode cX1_draw 96 = .ok (.getfield 21, 3) := by decide +kernel
theorem dX1_draw_99 : decode cX1_draw 99 = .ok (.getfield 55, 3) := by decide +kernel
theorem dX1_draw_102 : decode cX1_draw 102 = .ok (.iload_n 2, 1) := by decide +kernel
theorem dX1_draw_103 : decode cX1_draw 103 = .ok (.iaload, 1) := by decide +kernel
theorem dX1_draw_104 : decode cX1_draw 104 = .ok (.putfield 38, 3) := by decide +kernel
theorem dX1_draw_107 : decode cX1_draw 107 = .ok (.aload_n 0, 1) := by decide +kernel
theorem dX1_draw_108 : decode cX1_draw 108 = .ok (.getfield 34, 3) := by decide +kernel
theorem dX1_draw_111 : decode cX1_draw 111 = .ok (.istore 4, 2) := by decide +kernel
theorem dX1_draw_113 : decode cX1_draw 113 = .ok (.aload_n 0, 1) := by decide +kernel
theorem dX1_draw_114 : decode cX1_draw 114 = .ok (.getfield 38, 3) := by decide +kernel
theorem dX1_draw_117 : decode cX1_draw 117 = .ok (.iconst 1, 1) := by decide +kernel
theorem dX1_draw_118 : decode cX1_draw 118 = .ok (.isub, 1) := by decide +kernel
theorem dX1_draw_119 : decode cX1_draw 119 = .ok (.istore 5, 2) := by decide +kernel
theorem dX1_draw_121 : decode cX1_draw 121 = .ok (.iload 5, 2) := by decide +kernel
theorem dX1_draw_123 : decode cX1_draw 123 = .ok (.ifCond .lt 89, 3) := by decide +kernel
theorem dX1_draw_126 : decode cX1_draw 126 = .ok (.aload_n 0, 1) := by decide +kernel
theorem dX1_draw_127 : decode cX1_draw 127 = .ok (.getfield 9, 3) := by decide +kernel
theorem dX1_draw_130 : decode cX1_draw 130 = .ok (.iload 5, 2) := by decide +kernel
theorem dX1_draw_132 : decode cX1_draw 132 = .ok (.aload_n 0, 1) := by decide +kernel
theorem dX1_draw_133 : decode cX1_draw 133 = .ok (.getfield 21, 3) := by decide +kernel
theorem dX1_draw_136 : decode cX1_draw 136 = .ok (.getfield 57, 3) := by decide +kernel
theorem dX1_draw_139 : decode cX1_draw 139 = .ok (.iload_n 2, 1) := by decide +kernel
theorem dX1_draw_140 : decode cX1_draw 140 = .ok (.bipush 8, 2) := by decide +kernel
theorem dX1_draw_142 : decode cX1_draw 142 = .ok (.imul, 1) := by decide +kernel
theorem dX1_draw_143 : decode cX1_draw 143 = .ok (.iload 5, 2) := by decide +kernel
theorem dX1_draw_145 : decode cX1_draw 145 = .ok (.iadd, 1) := by decide +kernel
theorem dX1_draw_146 : decode cX1_draw 146 = .ok (.iaload, 1) := by decide +kernel
theorem dX1_draw_147 : decode cX1_draw 147 = .ok (.aload_n 0, 1) := by decide +kernel
theorem dX1_draw_148 : decode cX1_draw 148 = .ok (.getfield 34, 3) := by decide +kernel
theorem dX1_draw_151 : decode cX1_draw 151 = .ok (.imul, 1) := by decide +kernel
theorem dX1_draw_152 : decode cX1_draw 152 = .ok (.iload_n 3, 1) := by decide +kernel
theorem dX1_draw_153 : decode cX1_draw 153 = .ok (.idiv, 1) := by decide +kernel
theorem dX1_draw_154 : decode cX1_draw 154 = .ok (.iastore, 1) := by decide +kernel
theorem dX1_draw_155 : decode cX1_draw 155 = .ok (.aload_n 0, 1) := by decide +kernel
theorem dX1_draw_156 : decode cX1_draw 156 = .ok (.getfield 15, 3) := by decide +kernel
theorem dX1_draw_159 : decode cX1_draw 159 = .ok (.iload 5, 2) := by decide +kernel
theorem dX1_draw_161 : decode cX1_draw 161 = .ok (.iload 4, 2) := by decide +kernel
theorem dX1_draw_163 : decode cX1_draw 163 = .ok (.iastore, 1) := by decide +kernel
theorem dX1_draw_164 : decode cX1_draw 164 = .ok (.aload_n 0, 1) := by decide +kernel
theorem dX1_draw_165 : decode cX1_draw 165 = .ok (.getfield 18, 3) := by decide +kernel
theorem dX1_draw_168 : decode cX1_draw 168 = .ok (.iload 5, 2) := by decide +kernel
theorem dX1_draw_170 : decode cX1_draw 170 = .ok (.aload_n 0, 1) := by decide +kernel
theorem dX1_draw_171 : decode cX1_draw 171 = .ok (.getfield 21, 3) := by decide +kernel
theorem dX1_draw_174 : decode cX1_draw 174 = .ok (.getfield 60, 3) := by decide +kernel
theorem dX1_draw_177 : decode cX1_draw 177 = .ok (.iload_n 2, 1) := by decide +kernel
theorem dX1_draw_178 : decode cX1_draw 178 = .ok (.bipush 8, 2) := by decide +kernel
theorem dX1_draw_180 : decode cX1_draw 180 = .ok (.imul, 1) := by decide +kernel
theorem dX1_draw_181 : decode cX1_draw 181 = .ok (.iload 5, 2) := by decide +kernel
theorem dX1_draw_183 : decode cX1_draw 183 = .ok (.iadd, 1) := by decide +kernel
theorem dX1_draw_184 : decode cX1_draw 184 = .ok (.iaload, 1) := by decide +kernel
theorem dX1_draw_185 : decode cX1_draw 185 = .ok (.aload_n 0, 1) := by decide +kernel
theorem dX1_draw_186 : decode cX1_draw 186 = .ok (.getfield 34, 3) := by decide +kernel
theorem dX1_draw_189 : decode cX1_draw 189 = .ok (.imul, 1) := by decide +kernel
theorem dX1_draw_190 : decode cX1_draw 190 = .ok (.iload_n 3, 1) := by decide +kernel
theorem dX1_draw_191 : decode cX1_draw 191 = .ok (.iadd, 1) := by decide +kernel
theorem dX1_draw_192 : decode cX1_draw 192 = .ok (.iconst 1, 1) := by decide +kernel
theorem dX1_draw_193 : decode cX1_draw 193 = .ok (.isub, 1) := by decide +kernel
theorem dX1_draw_194 : decode cX1_draw 194 = .ok (.iload_n 3, 1) := by decide +kernel
theorem dX1_draw_195 : decode cX1_draw 195 = .ok (.idiv, 1) := by decide +kernel
theorem dX1_draw_196 : decode cX1_draw 196 = .ok (.iastore, 1) := by decide +kernel
theorem dX1_draw_197 : decode cX1_draw 197 = .ok (.aload_n 0, 1) := by decide +kernel
theorem dX1_draw_198 : decode cX1_draw 198 = .ok (.getfield 9, 3) := by decide +kernel
theorem dX1_draw_201 : decode cX1_draw 201 = .ok (.iload 5, 2) := by decide +kernel
theorem dX1_draw_203 : decode cX1_draw 203 = .ok (.iaload, 1) := by decide +kernel
theorem dX1_draw_204 : decode cX1_draw 204 = .ok (.istore 4, 2) := by decide +kernel
theorem dX1_draw_206 : decode cX1_draw 206 = .ok (.iinc 5 (-1), 3) := by decide +kernel
theorem dX1_draw_209 : decode cX1_draw 209 = .ok (.goto (-88), 3) := by decide +kernel
theorem dX1_draw_212 : decode cX1_draw 212 = .ok (.return_, 1) := by decide +kernel
theorem dX1_reachAt_0 : decode cX1_reachAt 0 = .ok (.iload_n 1, 1) := by decide +kernel
theorem dX1_reachAt_1 : decode cX1_reachAt 1 = .ok (.ifCond .lt 9, 3) := by decide +kernel
theorem dX1_reachAt_4 : decode cX1_reachAt 4 = .ok (.iload_n 1, 1) := by decide +kernel
theorem dX1_reachAt_5 : decode cX1_reachAt 5 = .ok (.bipush 9, 2) := by decide +kernel
theorem dX1_reachAt_7 : decode cX1_reachAt 7 = .ok (.if_icmp .lt 5, 3) := by decide +kernel
theorem dX1_reachAt_10 : decode cX1_reachAt 10 = .ok (.iconst 0, 1) := by decide +kernel
theorem dX1_reachAt_11 : decode cX1_reachAt 11 = .ok (.ireturn, 1) := by decide +kernel
theorem dX1_reachAt_12 : decode cX1_reachAt 12 = .ok (.iload_n 1, 1) := by decide +kernel
theorem dX1_reachAt_13 : decode cX1_reachAt 13 = .ok (.aload_n 0, 1) := by decide +kernel
theorem dX1_reachAt_14 : decode cX1_reachAt 14 = .ok (.getfield 25, 3) := by decide +kernel
theorem dX1_reachAt_17 : decode cX1_reachAt 17 = .ok (.getfield 52, 3) := by decide +kernel
theorem dX1_reachAt_20 : decode cX1_reachAt 20 = .ok (.iconst 1, 1) := by decide +kernel
theorem dX1_reachAt_21 : decode cX1_reachAt 21 = .ok (.iaload, 1) := by decide +kernel
theorem dX1_reachAt_22 : decode cX1_reachAt 22 = .ok (.imul, 1) := by decide +kernel
theorem dX1_reachAt_23 : decode cX1_reachAt 23 = .ok (.istore_n 2, 1) := by decide +kernel
theorem dX1_reachAt_24 : decode cX1_reachAt 24 = .ok (.iload_n 2, 1) := by decide +kernel
theorem dX1_reachAt_25 : decode cX1_reachAt 25 = .ok (.aload_n 0, 1) := by decide +kernel
theorem dX1_reachAt_26 : decode cX1_reachAt 26 = .ok (.getfield 25, 3) := by decide +kernel
theorem dX1_reachAt_29 : decode cX1_reachAt 29 = .ok (.getfield 52, 3) := by decide +kernel
theorem dX1_reachAt_32 : decode cX1_reachAt 32 = .ok (.iconst 1, 1) := by decide +kernel
theorem dX1_reachAt_33 : decode cX1_reachAt 33 = .ok (.iaload, 1) := by decide +kernel
theorem dX1_reachAt_34 : decode cX1_reachAt 34 = .ok (.iadd, 1) := by decide +kernel
theorem dX1_reachAt_35 : decode cX1_reachAt 35 = .ok (.istore_n 3, 1) := by decide +kernel
theorem dX1_reachAt_36 : decode cX1_reachAt 36 = .ok (.bipush (-4), 2) := by decide +kernel
theorem dX1_reachAt_38 : decode cX1_reachAt 38 = .ok (.istore 4, 2) := by decide +kernel
theorem dX1_reachAt_40 : decode cX1_reachAt 40 = .ok (.iconst 0, 1) := by decide +kernel
theorem dX1_reachAt_41 : decode cX1_reachAt 41 = .ok (.istore 5, 2) := by decide +kernel
theorem dX1_reachAt_43 : decode cX1_reachAt 43 = .ok (.iload 5, 2) := by decide +kernel
theorem dX1_reachAt_45 : decode cX1_reachAt 45 = .ok (.aload_n 0, 1) := by decide +kernel
theorem dX1_reachAt_46 : decode cX1_reachAt 46 = .ok (.getfield 38, 3) := by decide +kernel
theorem dX1_reachAt_49 : decode cX1_reachAt 49 = .ok (.if_icmp .ge 81, 3) := by decide +kernel
theorem dX1_reachAt_52 : decode cX1_reachAt 52 = .ok (.aload_n 0, 1) := by decide +kernel
theorem dX1_reachAt_53 : decode cX1_reachAt 53 = .ok (.getfield 9, 3) := by decide +kernel
theorem dX1_reachAt_56 : decode cX1_reachAt 56 = .ok (.iload 5, 2) := by decide +kernel
theorem dX1_reachAt_58 : decode cX1_reachAt 58 = .ok (.iaload, 1) := by decide +kernel
theorem dX1_reachAt_59 : decode cX1_reachAt 59 = .ok (.aload_n 0, 1) := by decide +kernel
theorem dX1_reachAt_60 : decode cX1_reachAt 60 = .ok (.getfield 15, 3) := by decide +kernel
theorem dX1_reachAt_63 : decode cX1_reachAt 63 = .ok (.iload 5, 2) := by decide +kernel
theorem dX1_reachAt_65 : decode cX1_reachAt 65 = .ok (.iaload, 1) := by decide +kernel
theorem dX1_reachAt_66 : decode cX1_reachAt 66 = .ok (.if_icmp .ge 29, 3) := by decide +kernel
theorem dX1_reachAt_69 : decode cX1_reachAt 69 = .ok (.aload_n 0, 1) := by decide +kernel
theorem dX1_reachAt_70 : decode cX1_reachAt 70 = .ok (.getfield 9, 3) := by decide +kernel
theorem dX1_reachAt_73 : decode cX1_reachAt 73 = .ok (.iload 5, 2) := by decide +kernel
theorem dX1_reachAt_75 : decode cX1_reachAt 75 = .ok (.iaload, 1) := by decide +kernel
theorem dX1_reachAt_76 : decode cX1_reachAt 76 = .ok (.iload_n 3, 1) := by decide +kernel
theorem dX1_reachAt_77 : decode cX1_reachAt 77 = .ok (.if_icmp .ge 18, 3) := by decide +kernel
theorem dX1_reachAt_80 : decode cX1_reachAt 80 = .ok (.aload_n 0, 1) := by decide +kernel
theorem dX1_reachAt_81 : decode cX1_reachAt 81 = .ok (.getfield 15, 3) := by decide +kernel
theorem dX1_reachAt_84 : decode cX1_reachAt 84 = .ok (.iload 5, 2) := by decide +kernel
theorem dX1_reachAt_86 : decode cX1_reachAt 86 = .ok (.iaload, 1) := by decide +kernel
theorem dX1_reachAt_87 : decode cX1_reachAt 87 = .ok (.iload_n 2, 1) := by decide +kernel
theorem dX1_reachAt_88 : decode cX1_reachAt 88 = .ok (.if_icmp .le 7, 3) := by decide +kernel
theorem dX1_reachAt_91 : decode cX1_reachAt 91 = .ok (.iconst 1, 1) := by decide +kernel
theorem dX1_reachAt_92 : decode cX1_reachAt 92 = .ok (.goto 4, 3) := by decide +kernel
theorem dX1_reachAt_95 : decode cX1_reachAt 95 = .ok (.iconst 0, 1) := by decide +kernel
theorem dX1_reachAt_96 : decode cX1_reachAt 96 = .ok (.istore 6, 2) := by decide +kernel
theorem dX1_reachAt_98 : decode cX1_reachAt 98 = .ok (.iload 6, 2) := by decide +kernel
theorem dX1_reachAt_100 : decode cX1_reachAt 100 = .ok (.ifCond .eq 24, 3) := by decide +kernel
theorem dX1_reachAt_103 : decode cX1_reachAt 103 = .ok (.aload_n 0, 1) := by decide +kernel
theorem dX1_reachAt_104 : decode cX1_reachAt 104 = .ok (.getfield 18, 3) := by decide +kernel
theorem dX1_reachAt_107 : decode cX1_reachAt 107 = .ok (.iload 5, 2) := by decide +kernel
theorem dX1_reachAt_109 : decode cX1_reachAt 109 = .ok (.iaload, 1) := by decide +kernel
theorem dX1_reachAt_110 : decode cX1_reachAt 110 = .ok (.iload 4, 2) := by decide +kernel
theorem dX1_reachAt_112 : decode cX1_reachAt 112 = .ok (.if_icmp .le 12, 3) := by decide +kernel
theorem dX1_reachAt_115 : decode cX1_reachAt 115 = .ok (.aload_n 0, 1) := by decide +kernel
theorem dX1_reachAt_116 : decode cX1_reachAt 116 = .ok (.getfield 18, 3) := by decide +kernel
theorem dX1_reachAt_119 : decode cX1_reachAt 119 = .ok (.iload 5, 2) := by decide +kernel
theorem dX1_reachAt_121 : decode cX1_reachAt 121 = .ok (.iaload, 1) := by decide +kernel
theorem dX1_reachAt_122 : decode cX1_reachAt 122 = .ok (.istore 4, 2) := by decide +kernel
theorem dX1_reachAt_124 : decode cX1_reachAt 124 = .ok (.iinc 5 1, 3) := by decide +kernel
theorem dX1_reachAt_127 : decode cX1_reachAt 127 = .ok (.goto (-84), 3) := by decide +kernel
theorem dX1_reachAt_130 : decode cX1_reachAt 130 = .ok (.iload 4, 2) := by decide +kernel
theorem dX1_reachAt_132 : decode cX1_reachAt 132 = .ok (.ifCond .ge 7, 3) := by decide +kernel
theorem dX1_reachAt_135 : decode cX1_reachAt 135 = .ok (.iconst 0, 1) := by decide +kernel
theorem dX1_reachAt_136 : decode cX1_reachAt 136 = .ok (.goto 15, 3) := by decide +kernel
theorem dX1_reachAt_139 : decode cX1_reachAt 139 = .ok (.iload 4, 2) := by decide +kernel
theorem dX1_reachAt_141 : decode cX1_reachAt 141 = .ok (.aload_n 0, 1) := by decide +kernel
theorem dX1_reachAt_142 : decode cX1_reachAt 142 = .ok (.getfield 25, 3) := by decide +kernel
theorem dX1_reachAt_145 : decode cX1_reachAt 145 = .ok (.getfield 52, 3) := by decide +kernel
theorem dX1_reachAt_148 : decode cX1_reachAt 148 = .ok (.iconst 3, 1) := by decide +kernel
theorem dX1_reachAt_149 : decode cX1_reachAt 149 = .ok (.iaload, 1) := by decide +kernel
theorem dX1_reachAt_150 : decode cX1_reachAt 150 = .ok (.iadd, 1) := by decide +kernel
theorem dX1_reachAt_151 : decode cX1_reachAt 151 = .ok (.ireturn, 1) := by decide +kernel
theorem dX2_init_0 : decode cX2_init 0 = .ok (.aload_n 0, 1) := by decide +kernel
theorem dX2_init_1 : decode cX2_init 1 = .ok (.invokespecial 3, 3) := by decide +kernel
theorem dX2_init_4 : decode cX2_init 4 = .ok (.aload_n 0, 1) := by decide +kernel
theorem dX2_init_5 : decode cX2_init 5 = .ok (.bipush 8, 2) := by decide +kernel
theorem dX2_init_7 : decode cX2_init 7 = .ok (.newarray .int, 2) := by decide +kernel
theorem dX2_init_9 : decode cX2_init 9 = .ok (.putfield 9, 3) := by decide +kernel
theorem dX2_init_12 : decode cX2_init 12 = .ok (.aload_n 0, 1) := by decide +kernel
theorem dX2_init_13 : decode cX2_init 13 = .ok (.bipush 8, 2) := by decide +kernel
theorem dX2_init_15 : decode cX2_init 15 = .ok (.newarray .int, 2) := by decide +kernel
theorem dX2_init_17 : decode cX2_init 17 = .ok (.putfield 15, 3) := by decide +kernel
theorem dX2_init_20 : decode cX2_init 20 = .ok (.aload_n 0, 1) := by decide +kernel
theorem dX2_init_21 : decode cX2_init 21 = .ok (.bipush 72, 2) := by decide +kernel
theorem dX2_init_23 : decode cX2_init 23 = .ok (.newarray .int, 2) := by decide +kernel
theorem dX2_init_25 : decode cX2_init 25 = .ok (.putfield 18, 3) := by decide +kernel
theorem dX2_init_28 : decode cX2_init 28 = .ok (.aload_n 0, 1) := by decide +kernel
theorem dX2_init_29 : decode cX2_init 29 = .ok (.sipush 152, 3) := by decide +kernel
theorem dX2_init_32 : decode cX2_init 32 = .ok (.newarray .int, 2) := by decide +kernel
theorem dX2_init_34 : decode cX2_init 34 = .ok (.putfield 21, 3) := by decide +kernel
theorem dX2_init_37 : decode cX2_init 37 = .ok (.aload_n 0, 1) := by decide +kernel
theorem dX2_init_38 : decode cX2_init 38 = .ok (.sipush 152, 3) := by decide +kernel
theorem dX2_init_41 : decode cX2_init 41 = .ok (.newarray .int, 2) := by decide +kernel
theorem dX2_init_43 : decode cX2_init 43 = .ok (.putfield 24, 3) := by decide +kernel
theorem dX2_init_46 : decode cX2_init 46 = .ok (.aload_n 0, 1) := by decide +kernel
theorem dX2_init_47 : decode cX2_init 47 = .ok (.sipush 152, 3) := by decide +kernel
theorem dX2_init_50 : decode cX2_init 50 = .ok (.newarray .int, 2) := by decide +kernel
theorem dX2_init_52 : decode cX2_init 52 = .ok (.putfield 27, 3) := by decide +kernel
theorem dX2_init_55 : decode cX2_init 55 = .ok (.aload_n 0, 1) := by decide +kernel
theorem dX2_init_56 : decode cX2_init 56 = .ok (.sipush 152, 3) := by decide +kernel
theorem dX2_init_59 : decode cX2_init 59 = .ok (.newarray .int, 2) := by decide +kernel
theorem dX2_init_61 : decode cX2_init 61 = .ok (.putfield 30, 3) := by decide +kernel
theorem dX2_init_64 : decode cX2_init 64 = .ok (.aload_n 0, 1) := by decide +kernel
theorem dX2_init_65 : decode cX2_init 65 = .ok (.sipush 152, 3) := by decide +kernel
theorem dX2_init_68 : decode cX2_init 68 = .ok (.newarray .int, 2) := by decide +kernel
theorem dX2_init_70 : decode cX2_init 70 = .ok (.putfield 33, 3) := by decide +kernel
theorem dX2_init_73 : decode cX2_init 73 = .ok (.aload_n 0, 1) := by decide +kernel
theorem dX2_init_74 : decode cX2_init 74 = .ok (.sipush 152, 3) := by decide +kernel
theorem dX2_init_77 : decode cX2_init 77 = .ok (.newarray .int, 2) := by decide +kernel
theorem dX2_init_79 : decode cX2_init 79 = .ok (.putfield 36, 3) := by decide +kernel
theorem dX2_init_82 : decode cX2_init 82 = .ok (.aload_n 0, 1) := by decide +kernel
theorem dX2_init_83 : decode cX2_init 83 = .ok (.sipush 152, 3) := by decide +kernel
theorem dX2_init_86 : decode cX2_init 86 = .ok (.newarray .boolean, 2) := by decide +kernel
theorem dX2_init_88 : decode cX2_init 88 = .ok (.putfield 39, 3) := by decide +kernel
theorem dX2_init_91 : decode cX2_init 91 = .ok (.aload_n 0, 1) := by decide +kernel
theorem dX2_init_92 : decode cX2_init 92 = .ok (.aload_n 1, 1) := by decide +kernel
theorem dX2_init_93 : decode cX2_init 93 = .ok (.putfield 43, 3) := by decide +kernel
theorem dX2_init_96 : decode cX2_init 96 = .ok (.aload_n 0, 1) := by decide +kernel
theorem dX2_init_97 : decode cX2_init 97 = .ok (.aload_n 2, 1) := by decide +kernel
theorem dX2_init_98 : decode cX2_init 98 = .ok (.putfield 47, 3) := by decide +kernel
theorem dX2_init_101 : decode cX2_init 101 = .ok (.aload_n 0, 1) := by decide +kernel
theorem dX2_init_102 : decode cX2_init 102 = .ok (.aload_n 3, 1) := by decide +kernel
theorem dX2_init_103 : decode cX2_init 103 = .ok (.putfield 51, 3) := by decide +kernel
theorem dX2_init_106 : decode cX2_init 106 = .ok (.return_, 1) := by decide +kernel
theorem dX2_layAll_0 : decode cX2_layAll 0 = .ok (.aload_n 0, 1) := by decide +kernel
theorem dX2_layAll_1 : decode cX2_layAll 1 = .ok (.iconst 0, 1) := by decide +kernel
theorem dX2_layAll_2 : decode cX2_layAll 2 = .ok (.putfield 55, 3) := by decide +kernel
theorem dX2_layAll_5 : decode cX2_layAll 5 = .ok (.aload_n 0, 1) := by decide +kernel
theorem dX2_layAll_6 : decode cX2_layAll 6 = .ok (.getfield 51, 3) := by decide +kernel
theorem dX2_layAll_9 : decode cX2_layAll 9 = .ok (.aload_n 0, 1) := by decide +kernel
theorem dX2_layAll_10 : decode cX2_layAll 10 = .ok (.getfield 43, 3) := by decide +kernel
theorem dX2_layAll_13 : decode cX2_layAll 13 = .ok (.invokevirtual 59, 3) := by decide +kernel
theorem dX2_layAll_16 : decode cX2_layAll 16 = .ok (.iconst 0, 1) := by decide +kernel
theorem dX2_layAll_17 : decode cX2_layAll 17 = .ok (.istore_n 1, 1) := by decide +kernel
theorem dX2_layAll_18 : decode cX2_layAll 18 = .ok (.iload_n 1, 1) := by decide +kernel
theorem dX2_layAll_19 : decode cX2_layAll 19 = .ok (.aload_n 0, 1) := by decide +kernel
theorem dX2_layAll_20 : decode cX2_layAll 20 = .ok (.getfield 43, 3) := by decide +kernel
theorem dX2_layAll_23 : decode cX2_layAll 23 = .ok (.getfield 65, 3) := by decide +kernel
theorem dX2_layAll_26 : decode cX2_layAll 26 = .ok (.if_icmp .ge 44, 3) := by decide +kernel
theorem dX2_layAll_29 : decode cX2_layAll 29 = .ok (.aload_n 0, 1) := by decide +kernel
theorem dX2_layAll_30 : decode cX2_layAll 30 = .ok (.iload_n 1, 1) := by decide +kernel
theorem dX2_layAll_31 : decode cX2_layAll 31 = .ok (.invokevirtual 70, 3) := by decide +kernel
theorem dX2_layAll_34 : decode cX2_layAll 34 = .ok (.aload_n 0, 1) := by decide +kernel
theorem dX2_layAll_35 : decode cX2_layAll 35 = .ok (.getfield 9, 3) := by decide +kernel
theorem dX2_layAll_38 : decode cX2_layAll 38 = .ok (.iload_n 1, 1) := by decide +kernel
theorem dX2_layAll_39 : decode cX2_layAll 39 = .ok (.aload_n 0, 1) := by decide +kernel
theorem dX2_layAll_40 : decode cX2_layAll 40 = .ok (.getfield 55, 3) := by decide +kernel
theorem dX2_layAll_43 : decode cX2_layAll 43 = .ok (.iastore, 1) := by decide +kernel
theorem dX2_layAll_44 : decode cX2_layAll 44 = .ok (.aload_n 0, 1) := by decide +kernel
theorem dX2_layAll_45 : decode cX2_layAll 45 = .ok (.iload_n 1, 1) := by decide +kernel
theorem dX2_layAll_46 : decode cX2_layAll 46 = .ok (.invokevirtual 74, 3) := by decide +kernel
theorem dX2_layAll_49 : decode cX2_layAll 49 = .ok (.aload_n 0, 1) := by decide +kernel
theorem dX2_layAll_50 : decode cX2_layAll 50 = .ok (.iload_n 1, 1) := by decide +kernel
theorem dX2_layAll_51 : decode cX2_layAll 51 = .ok (.invokevirtual 77, 3) := by decide +kernel
theorem dX2_layAll_54 : decode cX2_layAll 54 = .ok (.aload_n 0, 1) := by decide +kernel
theorem dX2_layAll_55 : decode cX2_layAll 55 = .ok (.getfield 15, 3) := by decide +kernel
theorem dX2_layAll_58 : decode cX2_layAll 58 = .ok (.iload_n 1, 1) := by decide +kernel
theorem dX2_layAll_59 : decode cX2_layAll 59 = .ok (.aload_n 0, 1) := by decide +kernel
theorem dX2_layAll_60 : decode cX2_layAll 60 = .ok (.getfield 55, 3) := by decide +kernel
theorem dX2_layAll_63 : decode cX2_layAll 63 = .ok (.iastore, 1) := by decide +kernel
theorem dX2_layAll_64 : decode cX2_layAll 64 = .ok (.iinc 1 1, 3) := by decide +kernel
theorem dX2_layAll_67 : decode cX2_layAll 67 = .ok (.goto (-49), 3) := by decide +kernel
theorem dX2_layAll_70 : decode cX2_layAll 70 = .ok (.return_, 1) := by decide +kernel
theorem dX2_leaveEmpty_0 : decode cX2_leaveEmpty 0 = .ok (.aload_n 0, 1) := by decide +kernel
theorem dX2_leaveEmpty_1 : decode cX2_leaveEmpty 1 = .ok (.getfield 43, 3) := by decide +kernel
theorem dX2_leaveEmpty_4 : decode cX2_leaveEmpty 4 = .ok (.getfield 80, 3) := by decide +kernel
theorem dX2_leaveEmpty_7 : decode cX2_leaveEmpty 7 = .ok (.iconst 5, 1) := by decide +kernel
theorem dX2_leaveEmpty_8 : decode cX2_leaveEmpty 8 = .ok (.iaload, 1) := by decide +kernel
theorem dX2_leaveEmpty_9 : decode cX2_leaveEmpty 9 = .ok (.istore_n 2, 1) := by decide +kernel
theorem dX2_leaveEmpty_10 : decode cX2_leaveEmpty 10 = .ok (.iload_n 2, 1) := by decide +kernel
theorem dX2_leaveEmpty_11 : decode cX2_leaveEmpty 11 = .ok (.iconst 1, 1) := by decide +kernel
theorem dX2_leaveEmpty_12 : decode cX2_leaveEmpty 12 = .ok (.if_icmp .eq 20, 3) := by decide +kernel
theorem dX2_leaveEmpty_15 : decode cX2_leaveEmpty 15 = .ok (.iload_n 2, 1) := by decide +kernel
theorem dX2_leaveEmpty_16 : decode cX2_leaveEmpty 16 = .ok (.iconst 2, 1) := by decide +kernel
theorem dX2_leaveEmpty_17 : decode cX2_leaveEmpty 17 = .ok (.if_icmp .ne 14, 3) := by decide +kernel
theorem dX2_leaveEmpty_20 : decode cX2_leaveEmpty 20 = .ok (.aload_n 0, 1) := by decide +kernel
theorem dX2_leaveEmpty_21 : decode cX2_leaveEmpty 21 = .ok (.getfield 43, 3) := by decide +kernel
theorem dX2_leaveEmpty_24 : decode cX2_leaveEmpty 24 = .ok (.iload_n 1, 1) := by decide +kernel
theorem dX2_leaveEmpty_25 : decode cX2_leaveEmpty 25 = .ok (.invokevirtual 83, 3) := by decide +kernel
theorem dX2_leaveEmpty_28 : decode cX2_leaveEmpty 28 = .ok (.ifCond .ne 4, 3) := by decide +kernel
theorem dX2_leaveEmpty_31 : decode cX2_leaveEmpty 31 = .ok (.return_, 1) := by decide +kernel
theorem dX2_leaveEmpty_32 : decode cX2_leaveEmpty 32 = .ok (.aload_n 0, 1) := by decide +kernel
theorem dX2_leaveEmpty_33 : decode cX2_leaveEmpty 33 = .ok (.iload_n 1, 1) := by decide +kernel
theorem dX2_leaveEmpty_34 : decode cX2_leaveEmpty 34 = .ok (.invokevirtual 87, 3) := by decide +kernel
theorem dX2_leaveEmpty_37 : decode cX2_leaveEmpty 37 = .ok (.iconst 1, 1) := by decide +kernel
theorem dX2_leaveEmpty_38 : decode cX2_leaveEmpty 38 = .ok (.iadd, 1) := by decide +kernel
theorem dX2_leaveEmpty_39 : decode cX2_leaveEmpty 39 = .ok (.sipush 152, 3) := by decide +kernel
theorem dX2_leaveEmpty_42 : decode cX2_leaveEmpty 42 = .ok (.invokestatic 91, 3) := by decide +kernel
theorem dX2_leaveEmpty_45 : decode cX2_leaveEmpty 45 = .ok (.istore_n 3, 1) := by decide +kernel
theorem dX2_leaveEmpty_46 : decode cX2_leaveEmpty 46 = .ok (.aload_n 0, 1) := by decide +kernel
theorem dX2_leaveEmpty_47 : decode cX2_leaveEmpty 47 = .ok (.getfield 55, 3) := by decide +kernel
theorem dX2_leaveEmpty_50 : decode cX2_leaveEmpty 50 = .ok (.istore 4, 2) := by decide +kernel
theorem dX2_leaveEmpty_52 : decode cX2_leaveEmpty 52 = .ok (.iload 4, 2) := by decide +kernel
theorem dX2_leaveEmpty_54 : decode cX2_leaveEmpty 54 = .ok (.iload_n 3, 1) := by decide +kernel
theorem dX2_leaveEmpty_55 : decode cX2_leaveEmpty 55 = .ok (.if_icmp .ge 26, 3) := by decide +kernel
theorem dX2_leaveEmpty_58 : decode cX2_leaveEmpty 58 = .ok (.aload_n 0, 1) := by decide +kernel
theorem dX2_leaveEmpty_59 : decode cX2_leaveEmpty 59 = .ok (.getfield 21, 3) := by decide +kernel
theorem dX2_leaveEmpty_62 : decode cX2_leaveEmpty 62 = .ok (.iload 4, 2) := by decide +kernel
theorem dX2_leaveEmpty_64 : decode cX2_leaveEmpty 64 = .ok (.bipush (-4), 2) := by decide +kernel
theorem dX2_leaveEmpty_66 : decode cX2_leaveEmpty 66 = .ok (.iastore, 1) := by decide +kernel
theorem dX2_leaveEmpty_67 : decode cX2_leaveEmpty 67 = .ok (.aload_n 0, 1) := by decide +kernel
theorem dX2_leaveEmpty_68 : decode cX2_leaveEmpty 68 = .ok (.getfield 39, 3) := by decide +kernel
theorem dX2_leaveEmpty_71 : decode cX2_leaveEmpty 71 = .ok (.iload 4, 2) := by decide +kernel
theorem dX2_leaveEmpty_73 : decode cX2_leaveEmpty 73 = .ok (.iconst 0, 1) := by decide +kernel
theorem dX2_leaveEmpty_74 : decode cX2_leaveEmpty 74 = .ok (.bastore, 1) := by decide +kernel
theorem dX2_leaveEmpty_75 : decode cX2_leaveEmpty 75 = .ok (.iinc 4 1, 3) := by decide +kernel
theorem dX2_leaveEmpty_78 : decode cX2_leaveEmpty 78 = .ok (.goto (-26), 3) := by decide +kernel
theorem dX2_leaveEmpty_81 : decode cX2_leaveEmpty 81 = .ok (.aload_n 0, 1) := by decide +kernel
theorem dX2_leaveEmpty_82 : decode cX2_leaveEmpty 82 = .ok (.aload_n 0, 1) := by decide +kernel
theorem dX2_leaveEmpty_83 : decode cX2_leaveEmpty 83 = .ok (.getfield 55, 3) := by decide +kernel
theorem dX2_leaveEmpty_86 : decode cX2_leaveEmpty 86 = .ok (.iload_n 3, 1) := by decide +kernel
theorem dX2_leaveEmpty_87 : decode cX2_leaveEmpty 87 = .ok (.invokestatic 97, 3) := by decide +kernel
theorem dX2_leaveEmpty_90 : decode cX2_leaveEmpty 90 = .ok (.putfield 55, 3) := by decide +kernel
theorem dX2_leaveEmpty_93 : decode cX2_leaveEmpty 93 = .ok (.return_, 1) := by decide +kernel
theorem dX2_lastReachedAhead_0 : decode cX2_lastReachedAhead 0 = .ok (.iconst (-1), 1) := by decide +kernel
theorem dX2_lastReachedAhead_1 : decode cX2_lastReachedAhead 1 = .ok (.istore_n 2, 1) := by decide +kernel
theorem dX2_lastReachedAhead_2 : decode cX2_lastReachedAhead 2 = .ok (.iconst 0, 1) := by decide +kernel
theorem dX2_lastReachedAhead_3 : decode cX2_lastReachedAhead 3 = .ok (.istore_n 3, 1) := by decide +kernel
theorem dX2_lastReachedAhead_4 : decode cX2_lastReachedAhead 4 = .ok (.iload_n 3, 1) := by decide +kernel
theorem dX2_lastReachedAhead_5 : decode cX2_lastReachedAhead 5 = .ok (.iload_n 1, 1) := by decide +kernel
theorem dX2_lastReachedAhead_6 : decode cX2_lastReachedAhead 6 = .ok (.if_icmp .ge 54, 3) := by decide +kernel
theorem dX2_lastReachedAhead_9 : decode cX2_lastReachedAhead 9 = .ok (.iconst 0, 1) := by decide +kernel
theorem dX2_lastReachedAhead_10 : decode cX2_lastReachedAhead 10 = .ok (.istore 4, 2) := by decide +kernel
theorem dX2_lastReachedAhead_12 : decode cX2_lastReachedAhead 12 = .ok (.iload 4, 2) := by decide +kernel
theorem dX2_lastReachedAhead_14 : decode cX2_lastReachedAhead 14 = .ok (.bipush 9, 2) := by decide +kernel
theorem dX2_lastReachedAhead_16 : decode cX2_lastReachedAhead 16 = .ok (.if_icmp .ge 38, 3) := by decide +kernel
theorem dX2_lastReachedAhead_19 : decode cX2_lastReachedAhead 19 = .ok (.aload_n 0, 1) := by decide +kernel
theorem dX2_lastReachedAhead_20 : decode cX2_lastReachedAhead 20 = .ok (.getfield 18, 3) := by decide +kernel
theorem dX2_lastReachedAhead_23 : decode cX2_lastReachedAhead 23 = .ok (.iload_n 3, 1) := by decide +kernel
theorem dX2_lastReachedAhead_24 : decode cX2_lastReachedAhead 24 = .ok (.bipush 9, 2) := by decide +kernel
theorem dX2_lastReachedAhead_26 : decode cX2_lastReachedAhead 26 = .ok (.imul, 1) := by decide +kernel
theorem dX2_lastReachedAhead_27 : decode cX2_lastReachedAhead 27 = .ok (.iload 4, 2) := by decide +kernel
theorem dX2_lastReachedAhead_29 : decode cX2_lastReachedAhead 29 = .ok (.iadd, 1) := by decide +kernel
theorem dX2_lastReachedAhead_30 : decode cX2_lastReachedAhead 30 = .ok (.iaload, 1) := by decide +kernel
theorem dX2_lastReachedAhead_31 : decode cX2_lastReachedAhead 31 = .ok (.ifCond .le 17, 3) := by decide +kernel
theorem dX2_lastReachedAhead_34 : decode cX2_lastReachedAhead 34 = .ok (.iload_n 2, 1) := by decide +kernel
theorem dX2_lastReachedAhead_35 : decode cX2_lastReachedAhead 35 = .ok (.aload_n 0, 1) := by decide +kernel
theorem dX2_lastReachedAhead_36 : decode cX2_lastReachedAhead 36 = .ok (.getfield 9, 3) := by decide +kernel
theorem dX2_lastReachedAhead_39 : decode cX2_lastReachedAhead 39 = .ok (.iload_n 3, 1) := by decide +kernel
theorem dX2_lastReachedAhead_40 : decode cX2_lastReachedAhead 40 = .ok (.iaload, 1) := by decide +kernel
theorem dX2_lastReachedAhead_41 : decode cX2_lastReachedAhead 41 = .ok (.iload 4, 2) := by decide +kernel
theorem dX2_lastReachedAhead_43 : decode cX2_lastReachedAhead 43 = .ok (.iadd, 1) := by decide +kernel
theorem dX2_lastReachedAhead_44 : decode cX2_lastReachedAhead 44 = .ok (.invokestatic 97, 3) := by decide +kernel
theorem dX2_lastReachedAhead_47 : decode cX2_lastReachedAhead 47 = .ok (.istore_n 2, 1) := by decide +kernel
theorem dX2_lastReachedAhead_48 : decode cX2_lastReachedAhead 48 = .ok (.iinc 4 1, 3) := by decide +kernel
theorem dX2_lastReachedAhead_51 : decode cX2_lastReachedAhead 51 = .ok (.goto (-39), 3) := by decide +kernel
theorem dX2_lastReachedAhead_54 : decode cX2_lastReachedAhead 54 = .ok (.iinc 3 1, 3) := by decide +kernel
theorem dX2_lastReachedAhead_57 : decode cX2_lastReachedAhead 57 = .ok (.goto (-53), 3) := by decide +kernel
theorem dX2_lastReachedAhead_60 : decode cX2_lastReachedAhead 60 = .ok (.iload_n 2, 1) := by decide +kernel
theorem dX2_lastReachedAhead_61 : decode cX2_lastReachedAhead 61 = .ok (.ireturn, 1) := by decide +kernel
theorem dX2_drawReaches_0 : decode cX2_drawReaches 0 = .ok (.aload_n 0, 1) := by decide +kernel
theorem dX2_drawReaches_1 : decode cX2_drawReaches 1 = .ok (.getfield 47, 3) := by decide +kernel
theorem dX2_drawReaches_4 : decode cX2_drawReaches 4 = .ok (.iload_n 1, 1) := by decide +kernel
theorem dX2_drawReaches_5 : decode cX2_drawReaches 5 = .ok (.invokevirtual 100, 3) := by decide +kernel
theorem dX2_drawReaches_8 : decode cX2_drawReaches 8 = .ok (.iconst 0, 1) := by decide +kernel
theorem dX2_drawReaches_9 : decode cX2_drawReaches 9 = .ok (.istore_n 2, 1) := by decide +kernel
theorem dX2_drawReaches_10 : decode cX2_drawReaches 10 = .ok (.iload_n 2, 1) := by decide +kernel
theorem dX2_drawReaches_11 : decode cX2_drawReaches 11 = .ok (.bipush 9, 2) := by decide +kernel
theorem dX2_drawReaches_13 : decode cX2_drawReaches 13 = .ok (.if_icmp .ge 28, 3) := by decide +kernel
theorem dX2_drawReaches_16 : decode cX2_drawReaches 16 = .ok (.aload_n 0, 1) := by decide +kernel
theorem dX2_drawReaches_17 : decode cX2_drawReaches 17 = .ok (.getfield 18, 3) := by decide +kernel
theorem dX2_drawReaches_20 : decode cX2_drawReaches 20 = .ok (.iload_n 1, 1) := by decide +kernel
theorem dX2_drawReaches_21 : decode cX2_drawReaches 21 = .ok (.bipush 9, 2) := by decide +kernel
theorem dX2_drawReaches_23 : decode cX2_drawReaches 23 = .ok (.imul, 1) := by decide +kernel
theorem dX2_drawReaches_24 : decode cX2_drawReaches 24 = .ok (.iload_n 2, 1) := by decide +kernel
theorem dX2_drawReaches_25 : decode cX2_drawReaches 25 = .ok (.iadd, 1) := by decide +kernel
theorem dX2_drawReaches_26 : decode cX2_drawReaches 26 = .ok (.aload_n 0, 1) := by decide +kernel
theorem dX2_drawReaches_27 : decode cX2_drawReaches 27 = .ok (.getfield 47, 3) := by decide +kernel
theorem dX2_drawReaches_30 : decode cX2_drawReaches 30 = .ok (.iload_n 2, 1) := by decide +kernel
theorem dX2_drawReaches_31 : decode cX2_drawReaches 31 = .ok (.invokevirtual 105, 3) := by decide +kernel
theorem dX2_drawReaches_34 : decode cX2_drawReaches 34 = .ok (.iastore, 1) := by decide +kernel
theorem dX2_drawReaches_35 : decode cX2_drawReaches 35 = .ok (.iinc 2 1, 3) := by decide +kernel
theorem dX2_drawReaches_38 : decode cX2_drawReaches 38 = .ok (.goto (-28), 3) := by decide +kernel
theorem dX2_drawReaches_41 : decode cX2_drawReaches 41 = .ok (.return_, 1) := by decide +kernel
theorem dX2_layPar_0 : decode cX2_layPar 0 = .ok (.aload_n 0, 1) := by decide +kernel
theorem dX2_layPar_1 : decode cX2_layPar 1 = .ok (.getfield 43, 3) := by decide +kernel
theorem dX2_layPar_4 : decode cX2_layPar 4 = .ok (.iload_n 1, 1) := by decide +kernel
theorem dX2_layPar_5 : decode cX2_layPar 5 = .ok (.invokevirtual 108, 3) := by decide +kernel
theorem dX2_layPar_8 : decode cX2_layPar 8 = .ok (.istore_n 2, 1) := by decide +kernel
theorem dX2_layPar_9 : decode cX2_layPar 9 = .ok (.aload_n 0, 1) := by decide +kernel
theorem dX2_layPar_10 : decode cX2_layPar 10 = .ok (.getfield 43, 3) := by decide +kernel
theorem dX2_layPar_13 : decode cX2_layPar 13 = .ok (.getfield 111, 3) := by decide +kernel
theorem dX2_layPar_16 : decode cX2_layPar 16 = .ok (.iload_n 1, 1) := by decide +kernel
theorem dX2_layPar_17 : decode cX2_layPar 17 = .ok (.iaload, 1) := by decide +kernel
theorem dX2_layPar_18 : decode cX2_layPar 18 = .ok (.istore_n 3, 1) := by decide +kernel
theorem dX2_layPar_19 : decode cX2_layPar 19 = .ok (.iconst 0, 1) := by decide +kernel
theorem dX2_layPar_20 : decode cX2_layPar 20 = .ok (.istore 4, 2) := by decide +kernel
theorem dX2_layPar_22 : decode cX2_layPar 22 = .ok (.iload 4, 2) := by decide +kernel
theorem dX2_layPar_24 : decode cX2_layPar 24 = .ok (.iload_n 3, 1) := by decide +kernel
theorem dX2_layPar_25 : decode cX2_layPar 25 = .ok (.if_icmp .ge 90, 3) := by decide +kernel
theorem dX2_layPar_28 : decode cX2_layPar 28 = .ok (.aload_n 0, 1) := by decide +kernel
theorem dX2_layPar_29 : decode cX2_layPar 29 = .ok (.getfield 55, 3) := by decide +kernel
theorem dX2_layPar_32 : decode cX2_layPar 32 = .ok (.iload 4, 2) := by decide +kernel
theorem dX2_layPar_34 : decode cX2_layPar 34 = .ok (.iadd, 1) := by decide +kernel
theorem dX2_layPar_35 : decode cX2_layPar 35 = .ok (.sipush 152, 3) := by decide +kernel
theorem dX2_layPar_38 : decode cX2_layPar 38 = .ok (.if_icmp .ge 77, 3) := by decide +kernel
theorem dX2_layPar_41 : decode cX2_layPar 41 = .ok (.aload_n 0, 1) := by decide +kernel
theorem dX2_layPar_42 : decode cX2_layPar 42 = .ok (.getfield 55, 3) := by decide +kernel
theorem dX2_layPar_45 : decode cX2_layPar 45 = .ok (.iload 4, 2) := by decide +kernel
theorem dX2_layPar_47 : decode cX2_layPar 47 = .ok (.iadd, 1) := by decide +kernel
theorem dX2_layPar_48 : decode cX2_layPar 48 = .ok (.istore 5, 2) := by decide +kernel
theorem dX2_layPar_50 : decode cX2_layPar 50 = .ok (.aload_n 0, 1) := by decide +kernel
theorem dX2_layPar_51 : decode cX2_layPar 51 = .ok (.getfield 30, 3) := by decide +kernel
theorem dX2_layPar_54 : decode cX2_layPar 54 = .ok (.iload 5, 2) := by decide +kernel
theorem dX2_layPar_56 : decode cX2_layPar 56 = .ok (.aload_n 0, 1) := by decide +kernel
theorem dX2_layPar_57 : decode cX2_layPar 57 = .ok (.iload_n 1, 1) := by decide +kernel
theorem dX2_layPar_58 : decode cX2_layPar 58 = .ok (.iload 5, 2) := by decide +kernel
theorem dX2_layPar_60 : decode cX2_layPar 60 = .ok (.invokevirtual 114, 3) := by decide +kernel
theorem dX2_layPar_63 : decode cX2_layPar 63 = .ok (.iastore, 1) := by decide +kernel
theorem dX2_layPar_64 : decode cX2_layPar 64 = .ok (.aload_n 0, 1) := by decide +kernel
theorem dX2_layPar_65 : decode cX2_layPar 65 = .ok (.getfield 33, 3) := by decide +kernel
theorem dX2_layPar_68 : decode cX2_layPar 68 = .ok (.iload 5, 2) := by decide +kernel
theorem dX2_layPar_70 : decode cX2_layPar 70 = .ok (.iconst 0, 1) := by decide +kernel
theorem dX2_layPar_71 : decode cX2_layPar 71 = .ok (.aload_n 0, 1) := by decide +kernel
theorem dX2_layPar_72 : decode cX2_layPar 72 = .ok (.getfield 43, 3) := by decide +kernel
theorem dX2_layPar_75 : decode cX2_layPar 75 = .ok (.getfield 80, 3) := by decide +kernel
theorem dX2_layPar_78 : decode cX2_layPar 78 = .ok (.iconst 0, 1) := by decide +kernel
theorem dX2_layPar_79 : decode cX2_layPar 79 = .ok (.iaload, 1) := by decide +kernel
theorem dX2_layPar_80 : decode cX2_layPar 80 = .ok (.aload_n 0, 1) := by decide +kernel
theorem dX2_layPar_81 : decode cX2_layPar 81 = .ok (.getfield 30, 3) := by decide +kernel
theorem dX2_layPar_84 : decode cX2_layPar 84 = .ok (.iload 5, 2) := by decide +kernel
theorem dX2_layPar_86 : decode cX2_layPar 86 = .ok (.iaload, 1) := by decide +kernel
theorem dX2_layPar_87 : decode cX2_layPar 87 = .ok (.isub, 1) := by decide +kernel
theorem dX2_layPar_88 : decode cX2_layPar 88 = .ok (.invokestatic 97, 3) := by decide +kernel
theorem dX2_layPar_91 : decode cX2_layPar 91 = .ok (.iastore, 1) := by decide +kernel
theorem dX2_layPar_92 : decode cX2_layPar 92 = .ok (.aload_n 0, 1) := by decide +kernel
theorem dX2_layPar_93 : decode cX2_layPar 93 = .ok (.getfield 51, 3) := by decide +kernel
theorem dX2_layPar_96 : decode cX2_layPar 96 = .ok (.getfield 117, 3) := by decide +kernel
theorem dX2_layPar_99 : decode cX2_layPar 99 = .ok (.iload 4, 2) := by decide +kernel
theorem dX2_layPar_101 : decode cX2_layPar 101 = .ok (.aload_n 0, 1) := by decide +kernel
theorem dX2_layPar_102 : decode cX2_layPar 102 = .ok (.getfield 33, 3) := by decide +kernel
theorem dX2_layPar_105 : decode cX2_layPar 105 = .ok (.iload 5, 2) := by decide +kernel
theorem dX2_layPar_107 : decode cX2_layPar 107 = .ok (.iaload, 1) := by decide +kernel
theorem dX2_layPar_108 : decode cX2_layPar 108 = .ok (.iastore, 1) := by decide +kernel
theorem dX2_layPar_109 : decode cX2_layPar 109 = .ok (.iinc 4 1, 3) := by decide +kernel
theorem dX2_layPar_112 : decode cX2_layPar 112 = .ok (.goto (-90), 3) := by decide +kernel
theorem dX2_layPar_115 : decode cX2_layPar 115 = .ok (.aload_n 0, 1) := by decide +kernel
theorem dX2_layPar_116 : decode cX2_layPar 116 = .ok (.getfield 51, 3) := by decide +kernel
theorem dX2_layPar_119 : decode cX2_layPar 119 = .ok (.iload_n 2, 1) := by decide +kernel
theorem dX2_layPar_120 : decode cX2_layPar 120 = .ok (.iload_n 3, 1) := by decide +kernel
theorem dX2_layPar_121 : decode cX2_layPar 121 = .ok (.invokevirtual 118, 3) := by decide +kernel
theorem dX2_layPar_124 : decode cX2_layPar 124 = .ok (.istore 4, 2) := by decide +kernel
theorem dX2_layPar_126 : decode cX2_layPar 126 = .ok (.aload_n 0, 1) := by decide +kernel
theorem dX2_layPar_127 : decode cX2_layPar 127 = .ok (.getfield 43, 3) := by decide +kernel
theorem dX2_layPar_130 : decode cX2_layPar 130 = .ok (.getfield 80, 3) := by decide +kernel
theorem dX2_layPar_133 : decode cX2_layPar 133 = .ok (.iconst 4, 1) := by decide +kernel
theorem dX2_layPar_134 : decode cX2_layPar 134 = .ok (.iaload, 1) := by decide +kernel
theorem dX2_layPar_135 : decode cX2_layPar 135 = .ok (.iconst 1, 1) := by decide +kernel
theorem dX2_layPar_136 : decode cX2_layPar 136 = .ok (.if_icmp .ne 10, 3) := by decide +kernel
theorem dX2_layPar_139 : decode cX2_layPar 139 = .ok (.aload_n 0, 1) := by decide +kernel
theorem dX2_layPar_140 : decode cX2_layPar 140 = .ok (.getfield 51, 3) := by decide +kernel
theorem dX2_layPar_143 : decode cX2_layPar 143 = .ok (.invokevirtual 121, 3) := by decide +kernel
theorem dX2_layPar_146 : decode cX2_layPar 146 = .ok (.iconst 0, 1) := by decide +kernel
theorem dX2_layPar_147 : decode cX2_layPar 147 = .ok (.istore 5, 2) := by decide +kernel
theorem dX2_layPar_149 : decode cX2_layPar 149 = .ok (.iconst 0, 1) := by decide +kernel
theorem dX2_layPar_150 : decode cX2_layPar 150 = .ok (.istore 6, 2) := by decide +kernel
theorem dX2_layPar_152 : decode cX2_layPar 152 = .ok (.iload 6, 2) := by decide +kernel
theorem dX2_layPar_154 : decode cX2_layPar 154 = .ok (.iload 4, 2) := by decide +kernel
theorem dX2_layPar_156 : decode cX2_layPar 156 = .ok (.if_icmp .ge 55, 3) := by decide +kernel
theorem dX2_layPar_159 : decode cX2_layPar 159 = .ok (.aload_n 0, 1) := by decide +kernel
theorem dX2_layPar_160 : decode cX2_layPar 160 = .ok (.getfield 55, 3) := by decide +kernel
theorem dX2_layPar_163 : decode cX2_layPar 163 = .ok (.sipush 152, 3) := by decide +kernel
theorem dX2_layPar_166 : decode cX2_layPar 166 = .ok (.if_icmp .ge 45, 3) := by decide +kernel
theorem dX2_layPar_169 : decode cX2_layPar 169 = .ok (.aload_n 0, 1) := by decide +kernel
theorem dX2_layPar_170 : decode cX2_layPar 170 = .ok (.iload_n 1, 1) := by decide +kernel
theorem dX2_layPar_171 : decode cX2_layPar 171 = .ok (.iload 5, 2) := by decide +kernel
theorem dX2_layPar_173 : decode cX2_layPar 173 = .ok (.aload_n 0, 1) := by decide +kernel
theorem dX2_layPar_174 : decode cX2_layPar 174 = .ok (.getfield 51, 3) := by decide +kernel
theorem dX2_layPar_177 : decode cX2_layPar 177 = .ok (.getfield 124, 3) := by decide +kernel
theorem dX2_layPar_180 : decode cX2_layPar 180 = .ok (.iload 6, 2) := by decide +kernel
theorem dX2_layPar_182 : decode cX2_layPar 182 = .ok (.iaload, 1) := by decide +kernel
theorem dX2_layPar_183 : decode cX2_layPar 183 = .ok (.iload_n 2, 1) := by decide +kernel
theorem dX2_layPar_184 : decode cX2_layPar 184 = .ok (.iload 5, 2) := by decide +kernel
theorem dX2_layPar_186 : decode cX2_layPar 186 = .ok (.iadd, 1) := by decide +kernel
theorem dX2_layPar_187 : decode cX2_layPar 187 = .ok (.invokevirtual 127, 3) := by decide +kernel
theorem dX2_layPar_190 : decode cX2_layPar 190 = .ok (.iload 5, 2) := by decide +kernel
theorem dX2_layPar_192 : decode cX2_layPar 192 = .ok (.aload_n 0, 1) := by decide +kernel
theorem dX2_layPar_193 : decode cX2_layPar 193 = .ok (.getfield 51, 3) := by decide +kernel
theorem dX2_layPar_196 : decode cX2_layPar 196 = .ok (.getfield 124, 3) := by decide +kernel
theorem dX2_layPar_199 : decode cX2_layPar 199 = .ok (.iload 6, 2) := by decide +kernel
theorem dX2_layPar_201 : decode cX2_layPar 201 = .ok (.iaload, 1) := by decide +kernel
theorem dX2_layPar_202 : decode cX2_layPar 202 = .ok (.iadd, 1) := by decide +kernel
theorem dX2_layPar_203 : decode cX2_layPar 203 = .ok (.istore 5, 2) := by decide +kernel
theorem dX2_layPar_205 : decode cX2_layPar 205 = .ok (.iinc 6 1, 3) := by decide +kernel
theorem dX2_layPar_208 : decode cX2_layPar 208 = .ok (.goto (-56), 3) := by decide +kernel
theorem dX2_layPar_211 : decode cX2_layPar 211 = .ok (.return_, 1) := by decide +kernel
theorem dX2_addLine_0 : decode cX2_addLine 0 = .ok (.iload_n 3, 1) := by decide +kernel
theorem dX2_addLine_1 : decode cX2_addLine 1 = .ok (.iconst 1, 1) := by decide +kernel
theorem dX2_addLine_2 : decode cX2_addLine 2 = .ok (.isub, 1) := by decide +kernel
theorem dX2_addLine_3 : decode cX2_addLine 3 = .ok (.istore 5, 2) := by decide +kernel
theorem dX2_addLine_5 : decode cX2_addLine 5 = .ok (.iload 4, 2) := by decide +kernel
theorem dX2_addLine_7 : decode cX2_addLine 7 = .ok (.istore 6, 2) := by decide +kernel
theorem dX2_addLine_9 : decode cX2_addLine 9 = .ok (.iload 6, 2) := by decide +kernel
theorem dX2_addLine_11 : decode cX2_addLine 11 = .ok (.iload 4, 2) := by decide +kernel
theorem dX2_addLine_13 : decode cX2_addLine 13 = .ok (.iload_n 3, 1) := by decide +kernel
theorem dX2_addLine_14 : decode cX2_addLine 14 = .ok (.iadd, 1) := by decide +kernel
theorem dX2_addLine_15 : decode cX2_addLine 15 = .ok (.if_icmp .ge 31, 3) := by decide +kernel
theorem dX2_addLine_18 : decode cX2_addLine 18 = .ok (.iload 6, 2) := by decide +kernel
theorem dX2_addLine_20 : decode cX2_addLine 20 = .ok (.bipush 80, 2) := by decide +kernel
theorem dX2_addLine_22 : decode cX2_addLine 22 = .ok (.if_icmp .ge 24, 3) := by decide +kernel
theorem dX2_addLine_25 : decode cX2_addLine 25 = .ok (.iload 5, 2) := by decide +kernel
theorem dX2_addLine_27 : decode cX2_addLine 27 = .ok (.aload_n 0, 1) := by decide +kernel
theorem dX2_addLine_28 : decode cX2_addLine 28 = .ok (.getfield 51, 3) := by decide +kernel
theorem dX2_addLine_31 : decode cX2_addLine 31 = .ok (.getfield 131, 3) := by decide +kernel
theorem dX2_addLine_34 : decode cX2_addLine 34 = .ok (.iload 6, 2) := by decide +kernel
theorem dX2_addLine_36 : decode cX2_addLine 36 = .ok (.iaload, 1) := by decide +kernel
theorem dX2_addLine_37 : decode cX2_addLine 37 = .ok (.iadd, 1) := by decide +kernel
theorem dX2_addLine_38 : decode cX2_addLine 38 = .ok (.istore 5, 2) := by decide +kernel
theorem dX2_addLine_40 : decode cX2_addLine 40 = .ok (.iinc 6 1, 3) := by decide +kernel
theorem dX2_addLine_43 : decode cX2_addLine 43 = .ok (.goto (-34), 3) := by decide +kernel
theorem dX2_addLine_46 : decode cX2_addLine 46 = .ok (.aload_n 0, 1) := by decide +kernel
theorem dX2_addLine_47 : decode cX2_addLine 47 = .ok (.getfield 21, 3) := by decide +kernel
theorem dX2_addLine_50 : decode cX2_addLine 50 = .ok (.aload_n 0, 1) := by decide +kernel
theorem dX2_addLine_51 : decode cX2_addLine 51 = .ok (.getfield 55, 3) := by decide +kernel
theorem dX2_addLine_54 : decode cX2_addLine 54 = .ok (.iload_n 1, 1) := by decide +kernel
theorem dX2_addLine_55 : decode cX2_addLine 55 = .ok (.iastore, 1) := by decide +kernel
theorem dX2_addLine_56 : decode cX2_addLine 56 = .ok (.aload_n 0, 1) := by decide +kernel
theorem dX2_addLine_57 : decode cX2_addLine 57 = .ok (.getfield 24, 3) := by decide +kernel
theorem dX2_addLine_60 : decode cX2_addLine 60 = .ok (.aload_n 0, 1) := by decide +kernel
theorem dX2_addLine_61 : decode cX2_addLine 61 = .ok (.getfield 55, 3) := by decide +kernel
theorem dX2_addLine_64 : decode cX2_addLine 64 = .ok (.iload_n 2, 1) := by decide +kernel
theorem dX2_addLine_65 : decode cX2_addLine 65 = .ok (.iastore, 1) := by decide +kernel
theorem dX2_addLine_66 : decode cX2_addLine 66 = .ok (.aload_n 0, 1) := by decide +kernel
theorem dX2_addLine_67 : decode cX2_addLine 67 = .ok (.getfield 27, 3) := by decide +kernel
theorem dX2_addLine_70 : decode cX2_addLine 70 = .ok (.aload_n 0, 1) := by decide +kernel
theorem dX2_addLine_71 : decode cX2_addLine 71 = .ok (.getfield 55, 3) := by decide +kernel
theorem dX2_addLine_74 : decode cX2_addLine 74 = .ok (.iload_n 3, 1) := by decide +kernel
theorem dX2_addLine_75 : decode cX2_addLine 75 = .ok (.iastore, 1) := by decide +kernel
theorem dX2_addLine_76 : decode cX2_addLine 76 = .ok (.aload_n 0, 1) := by decide +kernel
theorem dX2_addLine_77 : decode cX2_addLine 77 = .ok (.getfield 36, 3) := by decide +kernel
theorem dX2_addLine_80 : decode cX2_addLine 80 = .ok (.aload_n 0, 1) := by decide +kernel
theorem dX2_addLine_81 : decode cX2_addLine 81 = .ok (.getfield 55, 3) := by decide +kernel
theorem dX2_addLine_84 : decode cX2_addLine 84 = .ok (.iload 5, 2) := by decide +kernel
theorem dX2_addLine_86 : decode cX2_addLine 86 = .ok (.iastore, 1) := by decide +kernel
theorem dX2_addLine_87 : decode cX2_addLine 87 = .ok (.aload_n 0, 1) := by decide +kernel
theorem dX2_addLine_88 : decode cX2_addLine 88 = .ok (.getfield 39, 3) := by decide +kernel
theorem dX2_addLine_91 : decode cX2_addLine 91 = .ok (.aload_n 0, 1) := by decide +kernel
theorem dX2_addLine_92 : decode cX2_addLine 92 = .ok (.getfield 55, 3) := by decide +kernel
theorem dX2_addLine_95 : decode cX2_addLine 95 = .ok (.aload_n 0, 1) := by decide +kernel
theorem dX2_addLine_96 : decode cX2_addLine 96 = .ok (.getfield 43, 3) := by decide +kernel
theorem dX2_addLine_99 : decode cX2_addLine 99 = .ok (.getfield 80, 3) := by decide +kernel
theorem dX2_addLine_102 : decode cX2_addLine 102 = .ok (.iconst 5, 1) := by decide +kernel
theorem dX2_addLine_103 : decode cX2_addLine 103 = .ok (.iaload, 1) := by decide +kernel
theorem dX2_addLine_104 : decode cX2_addLine 104 = .ok (.ifCond .ne 19, 3) := by decide +kernel
theorem dX2_addLine_107 : decode cX2_addLine 107 = .ok (.aload_n 0, 1) := by decide +kernel
theorem dX2_addLine_108 : decode cX2_addLine 108 = .ok (.iload_n 1, 1) := by decide +kernel
theorem dX2_addLine_109 : decode cX2_addLine 109 = .ok (.aload_n 0, 1) := by decide +kernel
theorem dX2_addLine_110 : decode cX2_addLine 110 = .ok (.getfield 55, 3) := by decide +kernel
theorem dX2_addLine_113 : decode cX2_addLine 113 = .ok (.invokevirtual 134, 3) := by decide +kernel
theorem dX2_addLine_116 : decode cX2_addLine 116 = .ok (.ifCond .le 7, 3) := by decide +kernel
theorem dX2_addLine_119 : decode cX2_addLine 119 = .ok (.iconst 1, 1) := by decide +kernel
theorem dX2_addLine_120 : decode cX2_addLine 120 = .ok (.goto 4, 3) := by decide +kernel
theorem dX2_addLine_123 : decode cX2_addLine 123 = .ok (.iconst 0, 1) := by decide +kernel
theorem dX2_addLine_124 : decode cX2_addLine 124 = .ok (.bastore, 1) := by decide +kernel
theorem dX2_addLine_125 : decode cX2_addLine 125 = .ok (.aload_n 0, 1) := by decide +kernel
theorem dX2_addLine_126 : decode cX2_addLine 126 = .ok (.dup, 1) := by decide +kernel
theorem dX2_addLine_127 : decode cX2_addLine 127 = .ok (.getfield 55, 3) := by decide +kernel
theorem dX2_addLine_130 : decode cX2_addLine 130 = .ok (.iconst 1, 1) := by decide +kernel
theorem dX2_addLine_131 : decode cX2_addLine 131 = .ok (.iadd, 1) := by decide +kernel
theorem dX2_addLine_132 : decode cX2_addLine 132 = .ok (.putfield 55, 3) := by decide +kernel
theorem dX2_addLine_135 : decode cX2_addLine 135 = .ok (.return_, 1) := by decide +kernel
theorem dX2_indentAt_0 : decode cX2_indentAt 0 = .ok (.aload_n 0, 1) := by decide +kernel
theorem dX2_indentAt_1 : decode cX2_indentAt 1 = .ok (.getfield 43, 3) := by decide +kernel
theorem dX2_indentAt_4 : decode cX2_indentAt 4 = .ok (.iload_n 1, 1) := by decide +kernel
theorem dX2_indentAt_5 : decode cX2_indentAt 5 = .ok (.invokevirtual 83, 3) := by decide +kernel
theorem dX2_indentAt_8 : decode cX2_indentAt 8 = .ok (.ifCond .eq 38, 3) := by decide +kernel
theorem dX2_indentAt_11 : decode cX2_indentAt 11 = .ok (.iload_n 2, 1) := by decide +kernel
theorem dX2_indentAt_12 : decode cX2_indentAt 12 = .ok (.aload_n 0, 1) := by decide +kernel
theorem dX2_indentAt_13 : decode cX2_indentAt 13 = .ok (.getfield 9, 3) := by decide +kernel
theorem dX2_indentAt_16 : decode cX2_indentAt 16 = .ok (.iload_n 1, 1) := by decide +kernel
theorem dX2_indentAt_17 : decode cX2_indentAt 17 = .ok (.iaload, 1) := by decide +kernel
theorem dX2_indentAt_18 : decode cX2_indentAt 18 = .ok (.isub, 1) := by decide +kernel
theorem dX2_indentAt_19 : decode cX2_indentAt 19 = .ok (.istore_n 3, 1) := by decide +kernel
theorem dX2_indentAt_20 : decode cX2_indentAt 20 = .ok (.iload_n 3, 1) := by decide +kernel
theorem dX2_indentAt_21 : decode cX2_indentAt 21 = .ok (.ifCond .lt 23, 3) := by decide +kernel
theorem dX2_indentAt_24 : decode cX2_indentAt 24 = .ok (.iload_n 3, 1) := by decide +kernel
theorem dX2_indentAt_25 : decode cX2_indentAt 25 = .ok (.bipush 9, 2) := by decide +kernel
theorem dX2_indentAt_27 : decode cX2_indentAt 27 = .ok (.if_icmp .ge 17, 3) := by decide +kernel
theorem dX2_indentAt_30 : decode cX2_indentAt 30 = .ok (.aload_n 0, 1) := by decide +kernel
theorem dX2_indentAt_31 : decode cX2_indentAt 31 = .ok (.getfield 18, 3) := by decide +kernel
theorem dX2_indentAt_34 : decode cX2_indentAt 34 = .ok (.iload_n 1, 1) := by decide +kernel
theorem dX2_indentAt_35 : decode cX2_indentAt 35 = .ok (.bipush 9, 2) := by decide +kernel
theorem dX2_indentAt_37 : decode cX2_indentAt 37 = .ok (.imul, 1) := by decide +kernel
theorem dX2_indentAt_38 : decode cX2_indentAt 38 = .ok (.iload_n 3, 1) := by decide +kernel
theorem dX2_indentAt_39 : decode cX2_indentAt 39 = .ok (.iadd, 1) := by decide +kernel
theorem dX2_indentAt_40 : decode cX2_indentAt 40 = .ok (.iaload, 1) := by decide +kernel
theorem dX2_indentAt_41 : decode cX2_indentAt 41 = .ok (.goto 4, 3) := by decide +kernel
theorem dX2_indentAt_44 : decode cX2_indentAt 44 = .ok (.iconst 0, 1) := by decide +kernel
theorem dX2_indentAt_45 : decode cX2_indentAt 45 = .ok (.ireturn, 1) := by decide +kernel
theorem dX2_indentAt_46 : decode cX2_indentAt 46 = .ok (.aload_n 0, 1) := by decide +kernel
theorem dX2_indentAt_47 : decode cX2_indentAt 47 = .ok (.getfield 43, 3) := by decide +kernel
theorem dX2_indentAt_50 : decode cX2_indentAt 50 = .ok (.getfield 80, 3) := by decide +kernel
theorem dX2_indentAt_53 : decode cX2_indentAt 53 = .ok (.iconst 5, 1) := by decide +kernel
theorem dX2_indentAt_54 : decode cX2_indentAt 54 = .ok (.iaload, 1) := by decide +kernel
theorem dX2_indentAt_55 : decode cX2_indentAt 55 = .ok (.iconst 2, 1) := by decide +kernel
theorem dX2_indentAt_56 : decode cX2_indentAt 56 = .ok (.if_icmp .ne 12, 3) := by decide +kernel
theorem dX2_indentAt_59 : decode cX2_indentAt 59 = .ok (.aload_n 0, 1) := by decide +kernel
theorem dX2_indentAt_60 : decode cX2_indentAt 60 = .ok (.iload_n 1, 1) := by decide +kernel
theorem dX2_indentAt_61 : decode cX2_indentAt 61 = .ok (.iload_n 2, 1) := by decide +kernel
theorem dX2_indentAt_62 : decode cX2_indentAt 62 = .ok (.invokevirtual 134, 3) := by decide +kernel
theorem dX2_indentAt_65 : decode cX2_indentAt 65 = .ok (.goto 4, 3) := by decide +kernel
theorem dX2_indentAt_68 : decode cX2_indentAt 68 = .ok (.iconst 0, 1) := by decide +kernel
theorem dX2_indentAt_69 : decode cX2_indentAt 69 = .ok (.ireturn, 1) := by decide +kernel
theorem dX2_reachAhead_0 : decode cX2_reachAhead 0 = .ok (.iconst 0, 1) := by decide +kernel
theorem dX2_reachAhead_1 : decode cX2_reachAhead 1 = .ok (.istore_n 3, 1) := by decide +kernel
theorem dX2_reachAhead_2 : decode cX2_reachAhead 2 = .ok (.iconst 0, 1) := by decide +kernel
theorem dX2_reachAhead_3 : decode cX2_reachAhead 3 = .ok (.istore 4, 2) := by decide +kernel
theorem dX2_reachAhead_5 : decode cX2_reachAhead 5 = .ok (.iload 4, 2) := by decide +kernel
theorem dX2_reachAhead_7 : decode cX2_reachAhead 7 = .ok (.iload_n 1, 1) := by decide +kernel
theorem dX2_reachAhead_8 : decode cX2_reachAhead 8 = .ok (.if_icmp .ge 63, 3) := by decide +kernel
theorem dX2_reachAhead_11 : decode cX2_reachAhead 11 = .ok (.iload_n 2, 1) := by decide +kernel
theorem dX2_reachAhead_12 : decode cX2_reachAhead 12 = .ok (.aload_n 0, 1) := by decide +kernel
theorem dX2_reachAhead_13 : decode cX2_reachAhead 13 = .ok (.getfield 9, 3) := by decide +kernel
theorem dX2_reachAhead_16 : decode cX2_reachAhead 16 = .ok (.iload 4, 2) := by decide +kernel
theorem dX2_reachAhead_18 : decode cX2_reachAhead 18 = .ok (.iaload, 1) := by decide +kernel
theorem dX2_reachAhead_19 : decode cX2_reachAhead 19 = .ok (.isub, 1) := by decide +kernel
theorem dX2_reachAhead_20 : decode cX2_reachAhead 20 = .ok (.istore 5, 2) := by decide +kernel
theorem dX2_reachAhead_22 : decode cX2_reachAhead 22 = .ok (.iload 5, 2) := by decide +kernel
theorem dX2_reachAhead_24 : decode cX2_reachAhead 24 = .ok (.ifCond .lt 41, 3) := by decide +kernel
theorem dX2_reachAhead_27 : decode cX2_reachAhead 27 = .ok (.iload 5, 2) := by decide +kernel
theorem dX2_reachAhead_29 : decode cX2_reachAhead 29 = .ok (.bipush 9, 2) := by decide +kernel
theorem dX2_reachAhead_31 : decode cX2_reachAhead 31 = .ok (.if_icmp .ge 34, 3) := by decide +kernel
theorem dX2_reachAhead_34 : decode cX2_reachAhead 34 = .ok (.aload_n 0, 1) := by decide +kernel
theorem dX2_reachAhead_35 : decode cX2_reachAhead 35 = .ok (.getfield 18, 3) := by decide +kernel
theorem dX2_reachAhead_38 : decode cX2_reachAhead 38 = .ok (.iload 4, 2) := by decide +kernel
theorem dX2_reachAhead_40 : decode cX2_reachAhead 40 = .ok (.bipush 9, 2) := by decide +kernel
theorem dX2_reachAhead_42 : decode cX2_reachAhead 42 = .ok (.imul, 1) := by decide +kernel
theorem dX2_reachAhead_43 : decode cX2_reachAhead 43 = .ok (.iload 5, 2) := by decide +kernel
theorem dX2_reachAhead_45 : decode cX2_reachAhead 45 = .ok (.iadd, 1) := by decide +kernel
theorem dX2_reachAhead_46 : decode cX2_reachAhead 46 = .ok (.iaload, 1) := by decide +kernel
theorem dX2_reachAhead_47 : decode cX2_reachAhead 47 = .ok (.iload_n 3, 1) := by decide +kernel
theorem dX2_reachAhead_48 : decode cX2_reachAhead 48 = .ok (.if_icmp .le 17, 3) := by decide +kernel
theorem dX2_reachAhead_51 : decode cX2_reachAhead 51 = .ok (.aload_n 0, 1) := by decide +kernel
theorem dX2_reachAhead_52 : decode cX2_reachAhead 52 = .ok (.getfield 18, 3) := by decide +kernel
theorem dX2_reachAhead_55 : decode cX2_reachAhead 55 = .ok (.iload 4, 2) := by decide +kernel
theorem dX2_reachAhead_57 : decode cX2_reachAhead 57 = .ok (.bipush 9, 2) := by decide +kernel
theorem dX2_reachAhead_59 : decode cX2_reachAhead 59 = .ok (.imul, 1) := by decide +kernel
theorem dX2_reachAhead_60 : decode cX2_reachAhead 60 = .ok (.iload 5, 2) := by decide +kernel
theorem dX2_reachAhead_62 : decode cX2_reachAhead 62 = .ok (.iadd, 1) := by decide +kernel
theorem dX2_reachAhead_63 : decode cX2_reachAhead 63 = .ok (.iaload, 1) := by decide +kernel
theorem dX2_reachAhead_64 : decode cX2_reachAhead 64 = .ok (.istore_n 3, 1) := by decide +kernel
theorem dX2_reachAhead_65 : decode cX2_reachAhead 65 = .ok (.iinc 4 1, 3) := by decide +kernel
theorem dX2_reachAhead_68 : decode cX2_reachAhead 68 = .ok (.goto (-63), 3) := by decide +kernel
theorem dX2_reachAhead_71 : decode cX2_reachAhead 71 = .ok (.iload_n 3, 1) := by decide +kernel
theorem dX2_reachAhead_72 : decode cX2_reachAhead 72 = .ok (.ireturn, 1) := by decide +kernel
theorem dX2_isOver_0 : decode cX2_isOver 0 = .ok (.aload_n 0, 1) := by decide +kernel
theorem dX2_isOver_1 : decode cX2_isOver 1 = .ok (.getfield 21, 3) := by decide +kernel
theorem dX2_isOver_4 : decode cX2_isOver 4 = .ok (.iload_n 1, 1) := by decide +kernel
theorem dX2_isOver_5 : decode cX2_isOver 5 = .ok (.iaload, 1) := by decide +kernel
theorem dX2_isOver_6 : decode cX2_isOver 6 = .ok (.ifCond .lt 22, 3) := by decide +kernel
theorem dX2_isOver_9 : decode cX2_isOver 9 = .ok (.aload_n 0, 1) := by decide +kernel
theorem dX2_isOver_10 : decode cX2_isOver 10 = .ok (.getfield 36, 3) := by decide +kernel
theorem dX2_isOver_13 : decode cX2_isOver 13 = .ok (.iload_n 1, 1) := by decide +kernel
theorem dX2_isOver_14 : decode cX2_isOver 14 = .ok (.iaload, 1) := by decide +kernel
theorem dX2_isOver_15 : decode cX2_isOver 15 = .ok (.aload_n 0, 1) := by decide +kernel
theorem dX2_isOver_16 : decode cX2_isOver 16 = .ok (.getfield 33, 3) := by decide +kernel
theorem dX2_isOver_19 : decode cX2_isOver 19 = .ok (.iload_n 1, 1) := by decide +kernel
theorem dX2_isOver_20 : decode cX2_isOver 20 = .ok (.iaload, 1) := by decide +kernel
theorem dX2_isOver_21 : decode cX2_isOver 21 = .ok (.if_icmp .le 7, 3) := by decide +kernel
theorem dX2_isOver_24 : decode cX2_isOver 24 = .ok (.iconst 1, 1) := by decide +kernel
theorem dX2_isOver_25 : decode cX2_isOver 25 = .ok (.goto 4, 3) := by decide +kernel
theorem dX2_isOver_28 : decode cX2_isOver 28 = .ok (.iconst 0, 1) := by decide +kernel
theorem dX2_isOver_29 : decode cX2_isOver 29 = .ok (.ireturn, 1) := by decide +kernel
theorem dX2_emptyLines_0 : decode cX2_emptyLines 0 = .ok (.iconst 0, 1) := by decide +kernel
theorem dX2_emptyLines_1 : decode cX2_emptyLines 1 = .ok (.istore_n 1, 1) := by decide +kernel
theorem dX2_emptyLines_2 : decode cX2_emptyLines 2 = .ok (.iconst 0, 1) := by decide +kernel
theorem dX2_emptyLines_3 : decode cX2_emptyLines 3 = .ok (.istore_n 2, 1) := by decide +kernel
theorem dX2_emptyLines_4 : decode cX2_emptyLines 4 = .ok (.iload_n 2, 1) := by decide +kernel
theorem dX2_emptyLines_5 : decode cX2_emptyLines 5 = .ok (.aload_n 0, 1) := by decide +kernel
theorem dX2_emptyLines_6 : decode cX2_emptyLines 6 = .ok (.getfield 55, 3) := by decide +kernel
theorem dX2_emptyLines_9 : decode cX2_emptyLines 9 = .ok (.if_icmp .ge 21, 3) := by decide +kernel
theorem dX2_emptyLines_12 : decode cX2_emptyLines 12 = .ok (.aload_n 0, 1) := by decide +kernel
theorem dX2_emptyLines_13 : decode cX2_emptyLines 13 = .ok (.getfield 21, 3) := by decide +kernel
theorem dX2_emptyLines_16 : decode cX2_emptyLines 16 = .ok (.iload_n 2, 1) := by decide +kernel
theorem dX2_emptyLines_17 : decode cX2_emptyLines 17 = .ok (.iaload, 1) := by decide +kernel
theorem dX2_emptyLines_18 : decode cX2_emptyLines 18 = .ok (.ifCond .ge 6, 3) := by decide +kernel
theorem dX2_emptyLines_21 : decode cX2_emptyLines 21 = .ok (.iinc 1 1, 3) := by decide +kernel
theorem dX2_emptyLines_24 : decode cX2_emptyLines 24 = .ok (.iinc 2 1, 3) := by decide +kernel
theorem dX2_emptyLines_27 : decode cX2_emptyLines 27 = .ok (.goto (-23), 3) := by decide +kernel
theorem dX2_emptyLines_30 : decode cX2_emptyLines 30 = .ok (.iload_n 1, 1) := by decide +kernel
theorem dX2_emptyLines_31 : decode cX2_emptyLines 31 = .ok (.ireturn, 1) := by decide +kernel
theorem dX2_oversWithin_0 : decode cX2_oversWithin 0 = .ok (.iconst 0, 1) := by decide +kernel
theorem dX2_oversWithin_1 : decode cX2_oversWithin 1 = .ok (.istore_n 3, 1) := by decide +kernel
theorem dX2_oversWithin_2 : decode cX2_oversWithin 2 = .ok (.iload_n 1, 1) := by decide +kernel
theorem dX2_oversWithin_3 : decode cX2_oversWithin 3 = .ok (.istore 4, 2) := by decide +kernel
theorem dX2_oversWithin_5 : decode cX2_oversWithin 5 = .ok (.iload 4, 2) := by decide +kernel
theorem dX2_oversWithin_7 : decode cX2_oversWithin 7 = .ok (.iload_n 2, 1) := by decide +kernel
theorem dX2_oversWithin_8 : decode cX2_oversWithin 8 = .ok (.if_icmp .ge 30, 3) := by decide +kernel
theorem dX2_oversWithin_11 : decode cX2_oversWithin 11 = .ok (.iload 4, 2) := by decide +kernel
theorem dX2_oversWithin_13 : decode cX2_oversWithin 13 = .ok (.aload_n 0, 1) := by decide +kernel
theorem dX2_oversWithin_14 : decode cX2_oversWithin 14 = .ok (.getfield 55, 3) := by decide +kernel
theorem dX2_oversWithin_17 : decode cX2_oversWithin 17 = .ok (.if_icmp .ge 21, 3) := by decide +kernel
theorem dX2_oversWithin_20 : decode cX2_oversWithin 20 = .ok (.aload_n 0, 1) := by decide +kernel
theorem dX2_oversWithin_21 : decode cX2_oversWithin 21 = .ok (.iload 4, 2) := by decide +kernel
theorem dX2_oversWithin_23 : decode cX2_oversWithin 23 = .ok (.invokevirtual 137, 3) := by decide +kernel
theorem dX2_oversWithin_26 : decode cX2_oversWithin 26 = .ok (.ifCond .eq 6, 3) := by decide +kernel
theorem dX2_oversWithin_29 : decode cX2_oversWithin 29 = .ok (.iinc 3 1, 3) := by decide +kernel
theorem dX2_oversWithin_32 : decode cX2_oversWithin 32 = .ok (.iinc 4 1, 3) := by decide +kernel
theorem dX2_oversWithin_35 : decode cX2_oversWithin 35 = .ok (.goto (-30), 3) := by decide +kernel
theorem dX2_oversWithin_38 : decode cX2_oversWithin 38 = .ok (.iload_n 3, 1) := by decide +kernel
theorem dX2_oversWithin_39 : decode cX2_oversWithin 39 = .ok (.ireturn, 1) := by decide +kernel
theorem dX2_clashesWithin_0 : decode cX2_clashesWithin 0 = .ok (.iconst 0, 1) := by decide +kernel
theorem dX2_clashesWithin_1 : decode cX2_clashesWithin 1 = .ok (.istore_n 3, 1) := by decide +kernel
theorem dX2_clashesWithin_2 : decode cX2_clashesWithin 2 = .ok (.iload_n 1, 1) := by decide +kernel
theorem dX2_clashesWithin_3 : decode cX2_clashesWithin 3 = .ok (.istore 4, 2) := by decide +kernel
theorem dX2_clashesWithin_5 : decode cX2_clashesWithin 5 = .ok (.iload 4, 2) := by decide +kernel
theorem dX2_clashesWithin_7 : decode cX2_clashesWithin 7 = .ok (.iload_n 2, 1) := by decide +kernel
theorem dX2_clashesWithin_8 : decode cX2_clashesWithin 8 = .ok (.if_icmp .ge 31, 3) := by decide +kernel
theorem dX2_clashesWithin_11 : decode cX2_clashesWithin 11 = .ok (.iload 4, 2) := by decide +kernel
theorem dX2_clashesWithin_13 : decode cX2_clashesWithin 13 = .ok (.aload_n 0, 1) := by decide +kernel
theorem dX2_clashesWithin_14 : decode cX2_clashesWithin 14 = .ok (.getfield 55, 3) := by decide +kernel
theorem dX2_clashesWithin_17 : decode cX2_clashesWithin 17 = .ok (.if_icmp .ge 22, 3) := by decide +kernel
theorem dX2_clashesWithin_20 : decode cX2_clashesWithin 20 = .ok (.aload_n 0, 1) := by decide +kernel
theorem dX2_clashesWithin_21 : decode cX2_clashesWithin 21 = .ok (.getfield 39, 3) := by decide +kernel
theorem dX2_clashesWithin_24 : decode cX2_clashesWithin 24 = .ok (.iload 4, 2) := by decide +kernel
theorem dX2_clashesWithin_26 : decode cX2_clashesWithin 26 = .ok (.baload, 1) := by decide +kernel
theorem dX2_clashesWithin_27 : decode cX2_clashesWithin 27 = .ok (.ifCond .eq 6, 3) := by decide +kernel
theorem dX2_clashesWithin_30 : decode cX2_clashesWithin 30 = .ok (.iinc 3 1, 3) := by decide +kernel
theorem dX2_clashesWithin_33 : decode cX2_clashesWithin 33 = .ok (.iinc 4 1, 3) := by decide +kernel
theorem dX2_clashesWithin_36 : decode cX2_clashesWithin 36 = .ok (.goto (-31), 3) := by decide +kernel
theorem dX2_clashesWithin_39 : decode cX2_clashesWithin 39 = .ok (.iload_n 3, 1) := by decide +kernel
theorem dX2_clashesWithin_40 : decode cX2_clashesWithin 40 = .ok (.ireturn, 1) := by decide +kernel
theorem dX2_firstClashWithin_0 : decode cX2_firstClashWithin 0 = .ok (.iload_n 1, 1) := by decide +kernel
theorem dX2_firstClashWithin_1 : decode cX2_firstClashWithin 1 = .ok (.istore_n 3, 1) := by decide +kernel
theorem dX2_firstClashWithin_2 : decode cX2_firstClashWithin 2 = .ok (.iload_n 3, 1) := by decide +kernel
theorem dX2_firstClashWithin_3 : decode cX2_firstClashWithin 3 = .ok (.iload_n 2, 1) := by decide +kernel
theorem dX2_firstClashWithin_4 : decode cX2_firstClashWithin 4 = .ok (.if_icmp .ge 28, 3) := by decide +kernel
theorem dX2_firstClashWithin_7 : decode cX2_firstClashWithin 7 = .ok (.iload_n 3, 1) := by decide +kernel
theorem dX2_firstClashWithin_8 : decode cX2_firstClashWithin 8 = .ok (.aload_n 0, 1) := by decide +kernel
theorem dX2_firstClashWithin_9 : decode cX2_firstClashWithin 9 = .ok (.getfield 55, 3) := by decide +kernel
theorem dX2_firstClashWithin_12 : decode cX2_firstClashWithin 12 = .ok (.if_icmp .ge 20, 3) := by decide +kernel
theorem dX2_firstClashWithin_15 : decode cX2_firstClashWithin 15 = .ok (.aload_n 0, 1) := by decide +kernel
theorem dX2_firstClashWithin_16 : decode cX2_firstClashWithin 16 = .ok (.getfield 39, 3) := by decide +kernel
theorem dX2_firstClashWithin_19 : decode cX2_firstClashWithin 19 = .ok (.iload_n 3, 1) := by decide +kernel
theorem dX2_firstClashWithin_20 : decode cX2_firstClashWithin 20 = .ok (.baload, 1) := by decide +kernel
theorem dX2_firstClashWithin_21 : decode cX2_firstClashWithin 21 = .ok (.ifCond .eq 5, 3) := by decide +kernel
theorem dX2_firstClashWithin_24 : decode cX2_firstClashWithin 24 = .ok (.iload_n 3, 1) := by decide +kernel
theorem dX2_firstClashWithin_25 : decode cX2_firstClashWithin 25 = .ok (.ireturn, 1) := by decide +kernel
theorem dX2_firstClashWithin_26 : decode cX2_firstClashWithin 26 = .ok (.iinc 3 1, 3) := by decide +kernel
theorem dX2_firstClashWithin_29 : decode cX2_firstClashWithin 29 = .ok (.goto (-27), 3) := by decide +kernel
theorem dX2_firstClashWithin_32 : decode cX2_firstClashWithin 32 = .ok (.bipush (-4), 2) := by decide +kernel
theorem dX2_firstClashWithin_34 : decode cX2_firstClashWithin 34 = .ok (.ireturn, 1) := by decide +kernel
theorem dX2_slacksSquared_0 : decode cX2_slacksSquared 0 = .ok (.iconst 0, 1) := by decide +kernel
theorem dX2_slacksSquared_1 : decode cX2_slacksSquared 1 = .ok (.istore_n 3, 1) := by decide +kernel
theorem dX2_slacksSquared_2 : decode cX2_slacksSquared 2 = .ok (.iload_n 1, 1) := by decide +kernel
theorem dX2_slacksSquared_3 : decode cX2_slacksSquared 3 = .ok (.istore 4, 2) := by decide +kernel
theorem dX2_slacksSquared_5 : decode cX2_slacksSquared 5 = .ok (.iload 4, 2) := by decide +kernel
theorem dX2_slacksSquared_7 : decode cX2_slacksSquared 7 = .ok (.iload_n 2, 1) := by decide +kernel
theorem dX2_slacksSquared_8 : decode cX2_slacksSquared 8 = .ok (.if_icmp .ge 56, 3) := by decide +kernel
theorem dX2_slacksSquared_11 : decode cX2_slacksSquared 11 = .ok (.iload 4, 2) := by decide +kernel
theorem dX2_slacksSquared_13 : decode cX2_slacksSquared 13 = .ok (.aload_n 0, 1) := by decide +kernel
theorem dX2_slacksSquared_14 : decode cX2_slacksSquared 14 = .ok (.getfield 55, 3) := by decide +kernel
theorem dX2_slacksSquared_17 : decode cX2_slacksSquared 17 = .ok (.if_icmp .ge 47, 3) := by decide +kernel
theorem dX2_slacksSquared_20 : decode cX2_slacksSquared 20 = .ok (.aload_n 0, 1) := by decide +kernel
theorem dX2_slacksSquared_21 : decode cX2_slacksSquared 21 = .ok (.iload 4, 2) := by decide +kernel
theorem dX2_slacksSquared_23 : decode cX2_slacksSquared 23 = .ok (.invokevirtual 137, 3) := by decide +kernel
theorem dX2_slacksSquared_26 : decode cX2_slacksSquared 26 = .ok (.ifCond .eq 7, 3) := by decide +kernel
theorem dX2_slacksSquared_29 : decode cX2_slacksSquared 29 = .ok (.iconst 0, 1) := by decide +kernel
theorem dX2_slacksSquared_30 : decode cX2_slacksSquared 30 = .ok (.goto 18, 3) := by decide +kernel
theorem dX2_slacksSquared_33 : decode cX2_slacksSquared 33 = .ok (.aload_n 0, 1) := by decide +kernel
theorem dX2_slacksSquared_34 : decode cX2_slacksSquared 34 = .ok (.getfield 33, 3) := by decide +kernel
theorem dX2_slacksSquared_37 : decode cX2_slacksSquared 37 = .ok (.iload 4, 2) := by decide +kernel
theorem dX2_slacksSquared_39 : decode cX2_slacksSquared 39 = .ok (.iaload, 1) := by decide +kernel
theorem dX2_slacksSquared_40 : decode cX2_slacksSquared 40 = .ok (.aload_n 0, 1) := by decide +kernel
theorem dX2_slacksSquared_41 : decode cX2_slacksSquared 41 = .ok (.getfield 36, 3) := by decide +kernel
theorem dX2_slacksSquared_44 : decode cX2_slacksSquared 44 = .ok (.iload 4, 2) := by decide +kernel
theorem dX2_slacksSquared_46 : decode cX2_slacksSquared 46 = .ok (.iaload, 1) := by decide +kernel
theorem dX2_slacksSquared_47 : decode cX2_slacksSquared 47 = .ok (.isub, 1) := by decide +kernel
theorem dX2_slacksSquared_48 : decode cX2_slacksSquared 48 = .ok (.istore 5, 2) := by decide +kernel
theorem dX2_slacksSquared_50 : decode cX2_slacksSquared 50 = .ok (.iload_n 3, 1) := by decide +kernel
theorem dX2_slacksSquared_51 : decode cX2_slacksSquared 51 = .ok (.iload 5, 2) := by decide +kernel
theorem dX2_slacksSquared_53 : decode cX2_slacksSquared 53 = .ok (.iload 5, 2) := by decide +kernel
theorem dX2_slacksSquared_55 : decode cX2_slacksSquared 55 = .ok (.imul, 1) := by decide +kernel
theorem dX2_slacksSquared_56 : decode cX2_slacksSquared 56 = .ok (.iadd, 1) := by decide +kernel
theorem dX2_slacksSquared_57 : decode cX2_slacksSquared 57 = .ok (.istore_n 3, 1) := by decide +kernel
theorem dX2_slacksSquared_58 : decode cX2_slacksSquared 58 = .ok (.iinc 4 1, 3) := by decide +kernel
theorem dX2_slacksSquared_61 : decode cX2_slacksSquared 61 = .ok (.goto (-56), 3) := by decide +kernel
theorem dX2_slacksSquared_64 : decode cX2_slacksSquared 64 = .ok (.iload_n 3, 1) := by decide +kernel
theorem dX2_slacksSquared_65 : decode cX2_slacksSquared 65 = .ok (.ireturn, 1) := by decide +kernel
theorem dX2_lineWith_0 : decode cX2_lineWith 0 = .ok (.aload_n 0, 1) := by decide +kernel
theorem dX2_lineWith_1 : decode cX2_lineWith 1 = .ok (.getfield 9, 3) := by decide +kernel
theorem dX2_lineWith_4 : decode cX2_lineWith 4 = .ok (.iload_n 1, 1) := by decide +kernel
theorem dX2_lineWith_5 : decode cX2_lineWith 5 = .ok (.iaload, 1) := by decide +kernel
theorem dX2_lineWith_6 : decode cX2_lineWith 6 = .ok (.istore_n 3, 1) := by decide +kernel
theorem dX2_lineWith_7 : decode cX2_lineWith 7 = .ok (.iload_n 3, 1) := by decide +kernel
theorem dX2_lineWith_8 : decode cX2_lineWith 8 = .ok (.aload_n 0, 1) := by decide +kernel
theorem dX2_lineWith_9 : decode cX2_lineWith 9 = .ok (.getfield 15, 3) := by decide +kernel
theorem dX2_lineWith_12 : decode cX2_lineWith 12 = .ok (.iload_n 1, 1) := by decide +kernel
theorem dX2_lineWith_13 : decode cX2_lineWith 13 = .ok (.iaload, 1) := by decide +kernel
theorem dX2_lineWith_14 : decode cX2_lineWith 14 = .ok (.if_icmp .ge 28, 3) := by decide +kernel
theorem dX2_lineWith_17 : decode cX2_lineWith 17 = .ok (.iload_n 2, 1) := by decide +kernel
theorem dX2_lineWith_18 : decode cX2_lineWith 18 = .ok (.aload_n 0, 1) := by decide +kernel
theorem dX2_lineWith_19 : decode cX2_lineWith 19 = .ok (.getfield 24, 3) := by decide +kernel
theorem dX2_lineWith_22 : decode cX2_lineWith 22 = .ok (.iload_n 3, 1) := by decide +kernel
theorem dX2_lineWith_23 : decode cX2_lineWith 23 = .ok (.iaload, 1) := by decide +kernel
theorem dX2_lineWith_24 : decode cX2_lineWith 24 = .ok (.aload_n 0, 1) := by decide +kernel
theorem dX2_lineWith_25 : decode cX2_lineWith 25 = .ok (.getfield 27, 3) := by decide +kernel
theorem dX2_lineWith_28 : decode cX2_lineWith 28 = .ok (.iload_n 3, 1) := by decide +kernel
theorem dX2_lineWith_29 : decode cX2_lineWith 29 = .ok (.iaload, 1) := by decide +kernel
theorem dX2_lineWith_30 : decode cX2_lineWith 30 = .ok (.iadd, 1) := by decide +kernel
theorem dX2_lineWith_31 : decode cX2_lineWith 31 = .ok (.if_icmp .ge 5, 3) := by decide +kernel
theorem dX2_lineWith_34 : decode cX2_lineWith 34 = .ok (.iload_n 3, 1) := by decide +kernel
theorem dX2_lineWith_35 : decode cX2_lineWith 35 = .ok (.ireturn, 1) := by decide +kernel
theorem dX2_lineWith_36 : decode cX2_lineWith 36 = .ok (.iinc 3 1, 3) := by decide +kernel
theorem dX2_lineWith_39 : decode cX2_lineWith 39 = .ok (.goto (-32), 3) := by decide +kernel
theorem dX2_lineWith_42 : decode cX2_lineWith 42 = .ok (.bipush (-4), 2) := by decide +kernel
theorem dX2_lineWith_44 : decode cX2_lineWith 44 = .ok (.ireturn, 1) := by decide +kernel
theorem dX2_placeOf_0 : decode cX2_placeOf 0 = .ok (.aload_n 0, 1) := by decide +kernel
theorem dX2_placeOf_1 : decode cX2_placeOf 1 = .ok (.iload_n 1, 1) := by decide +kernel
theorem dX2_placeOf_2 : decode cX2_placeOf 2 = .ok (.iload_n 2, 1) := by decide +kernel
theorem dX2_placeOf_3 : decode cX2_placeOf 3 = .ok (.invokevirtual 140, 3) := by decide +kernel
theorem dX2_placeOf_6 : decode cX2_placeOf 6 = .ok (.istore_n 3, 1) := by decide +kernel
theorem dX2_placeOf_7 : decode cX2_placeOf 7 = .ok (.iload_n 3, 1) := by decide +kernel
theorem dX2_placeOf_8 : decode cX2_placeOf 8 = .ok (.ifCond .ge 6, 3) := by decide +kernel
theorem dX2_placeOf_11 : decode cX2_placeOf 11 = .ok (.bipush (-4), 2) := by decide +kernel
theorem dX2_placeOf_13 : decode cX2_placeOf 13 = .ok (.ireturn, 1) := by decide +kernel
theorem dX2_placeOf_14 : decode cX2_placeOf 14 = .ok (.aload_n 0, 1) := by decide +kernel
theorem dX2_placeOf_15 : decode cX2_placeOf 15 = .ok (.getfield 30, 3) := by decide +kernel
theorem dX2_placeOf_18 : decode cX2_placeOf 18 = .ok (.iload_n 3, 1) := by decide +kernel
theorem dX2_placeOf_19 : decode cX2_placeOf 19 = .ok (.iaload, 1) := by decide +kernel
theorem dX2_placeOf_20 : decode cX2_placeOf 20 = .ok (.istore 4, 2) := by decide +kernel
theorem dX2_placeOf_22 : decode cX2_placeOf 22 = .ok (.aload_n 0, 1) := by decide +kernel
theorem dX2_placeOf_23 : decode cX2_placeOf 23 = .ok (.getfield 24, 3) := by decide +kernel
theorem dX2_placeOf_26 : decode cX2_placeOf 26 = .ok (.iload_n 3, 1) := by decide +kernel
theorem dX2_placeOf_27 : decode cX2_placeOf 27 = .ok (.iaload, 1) := by decide +kernel
theorem dX2_placeOf_28 : decode cX2_placeOf 28 = .ok (.istore 5, 2) := by decide +kernel
theorem dX2_placeOf_30 : decode cX2_placeOf 30 = .ok (.iload 5, 2) := by decide +kernel
theorem dX2_placeOf_32 : decode cX2_placeOf 32 = .ok (.iload_n 2, 1) := by decide +kernel
theorem dX2_placeOf_33 : decode cX2_placeOf 33 = .ok (.if_icmp .ge 29, 3) := by decide +kernel
theorem dX2_placeOf_36 : decode cX2_placeOf 36 = .ok (.iload 4, 2) := by decide +kernel
theorem dX2_placeOf_38 : decode cX2_placeOf 38 = .ok (.aload_n 0, 1) := by decide +kernel
theorem dX2_placeOf_39 : decode cX2_placeOf 39 = .ok (.getfield 43, 3) := by decide +kernel
theorem dX2_placeOf_42 : decode cX2_placeOf 42 = .ok (.iload_n 1, 1) := by decide +kernel
theorem dX2_placeOf_43 : decode cX2_placeOf 43 = .ok (.iload 5, 2) := by decide +kernel
theorem dX2_placeOf_45 : decode cX2_placeOf 45 = .ok (.invokevirtual 143, 3) := by decide +kernel
theorem dX2_placeOf_48 : decode cX2_placeOf 48 = .ok (.invokestatic 146, 3) := by decide +kernel
theorem dX2_placeOf_51 : decode cX2_placeOf 51 = .ok (.iconst 1, 1) := by decide +kernel
theorem dX2_placeOf_52 : decode cX2_placeOf 52 = .ok (.iadd, 1) := by decide +kernel
theorem dX2_placeOf_53 : decode cX2_placeOf 53 = .ok (.iadd, 1) := by decide +kernel
theorem dX2_placeOf_54 : decode cX2_placeOf 54 = .ok (.istore 4, 2) := by decide +kernel
theorem dX2_placeOf_56 : decode cX2_placeOf 56 = .ok (.iinc 5 1, 3) := by decide +kernel
theorem dX2_placeOf_59 : decode cX2_placeOf 59 = .ok (.goto (-29), 3) := by decide +kernel
theorem dX2_placeOf_62 : decode cX2_placeOf 62 = .ok (.iload 4, 2) := by decide +kernel
theorem dX2_placeOf_64 : decode cX2_placeOf 64 = .ok (.ireturn, 1) := by decide +kernel
theorem dX3_init_0 : decode cX3_init 0 = .ok (.aload_n 0, 1) := by decide +kernel
theorem dX3_init_1 : decode cX3_init 1 = .ok (.invokespecial 3, 3) := by decide +kernel
theorem dX3_init_4 : decode cX3_init 4 = .ok (.aload_n 0, 1) := by decide +kernel
theorem dX3_init_5 : decode cX3_init 5 = .ok (.bipush 80, 2) := by decide +kernel
theorem dX3_init_7 : decode cX3_init 7 = .ok (.newarray .int, 2) := by decide +kernel
theorem dX3_init_9 : decode cX3_init 9 = .ok (.putfield 9, 3) := by decide +kernel
theorem dX3_init_12 : decode cX3_init 12 = .ok (.aload_n 0, 1) := by decide +kernel
theorem dX3_init_13 : decode cX3_init 13 = .ok (.bipush 8, 2) := by decide +kernel
theorem dX3_init_15 : decode cX3_init 15 = .ok (.newarray .int, 2) := by decide +kernel
theorem dX3_init_17 : decode cX3_init 17 = .ok (.putfield 15, 3) := by decide +kernel
theorem dX3_init_20 : decode cX3_init 20 = .ok (.aload_n 0, 1) := by decide +kernel
theorem dX3_init_21 : decode cX3_init 21 = .ok (.bipush 8, 2) := by decide +kernel
theorem dX3_init_23 : decode cX3_init 23 = .ok (.newarray .int, 2) := by decide +kernel
theorem dX3_init_25 : decode cX3_init 25 = .ok (.putfield 18, 3) := by decide +kernel
theorem dX3_init_28 : decode cX3_init 28 = .ok (.aload_n 0, 1) := by decide +kernel
theorem dX3_init_29 : decode cX3_init 29 = .ok (.bipush 8, 2) := by decide +kernel
theorem dX3_init_31 : decode cX3_init 31 = .ok (.newarray .int, 2) := by decide +kernel
theorem dX3_init_33 : decode cX3_init 33 = .ok (.putfield 21, 3) := by decide +kernel
theorem dX3_init_36 : decode cX3_init 36 = .ok (.aload_n 0, 1) := by decide +kernel
theorem dX3_init_37 : decode cX3_init 37 = .ok (.getstatic 24, 3) := by decide +kernel
theorem dX3_init_40 : decode cX3_init 40 = .ok (.invokevirtual 27, 3) := by decide +kernel
theorem dX3_init_43 : decode cX3_init 43 = .ok (.checkcast 28, 3) := by decide +kernel
theorem dX3_init_46 : decode cX3_init 46 = .ok (.putfield 32, 3) := by decide +kernel
theorem dX3_init_49 : decode cX3_init 49 = .ok (.return_, 1) := by decide +kernel
theorem dX3_copyFrom_0 : decode cX3_copyFrom 0 = .ok (.aload_n 0, 1) := by decide +kernel
theorem dX3_copyFrom_1 : decode cX3_copyFrom 1 = .ok (.aload_n 1, 1) := by decide +kernel
theorem dX3_copyFrom_2 : decode cX3_copyFrom 2 = .ok (.getfield 35, 3) := by decide +kernel
theorem dX3_copyFrom_5 : decode cX3_copyFrom 5 = .ok (.putfield 35, 3) := by decide +kernel
theorem dX3_copyFrom_8 : decode cX3_copyFrom 8 = .ok (.aload_n 0, 1) := by decide +kernel
theorem dX3_copyFrom_9 : decode cX3_copyFrom 9 = .ok (.aload_n 1, 1) := by decide +kernel
theorem dX3_copyFrom_10 : decode cX3_copyFrom 10 = .ok (.getfield 39, 3) := by decide +kernel
theorem dX3_copyFrom_13 : decode cX3_copyFrom 13 = .ok (.putfield 39, 3) := by decide +kernel
theorem dX3_copyFrom_16 : decode cX3_copyFrom 16 = .ok (.aload_n 1, 1) := by decide +kernel
theorem dX3_copyFrom_17 : decode cX3_copyFrom 17 = .ok (.getfield 9, 3) := by decide +kernel
theorem dX3_copyFrom_20 : decode cX3_copyFrom 20 = .ok (.iconst 0, 1) := by decide +kernel
theorem dX3_copyFrom_21 : decode cX3_copyFrom 21 = .ok (.aload_n 0, 1) := by decide +kernel
theorem dX3_copyFrom_22 : decode cX3_copyFrom 22 = .ok (.getfield 9, 3) := by decide +kernel
theorem dX3_copyFrom_25 : decode cX3_copyFrom 25 = .ok (.iconst 0, 1) := by decide +kernel
theorem dX3_copyFrom_26 : decode cX3_copyFrom 26 = .ok (.bipush 80, 2) := by decide +kernel
theorem dX3_copyFrom_28 : decode cX3_copyFrom 28 = .ok (.invokestatic 42, 3) := by decide +kernel
theorem dX3_copyFrom_31 : decode cX3_copyFrom 31 = .ok (.aload_n 1, 1) := by decide +kernel
theorem dX3_copyFrom_32 : decode cX3_copyFrom 32 = .ok (.getfield 15, 3) := by decide +kernel
theorem dX3_copyFrom_35 : decode cX3_copyFrom 35 = .ok (.iconst 0, 1) := by decide +kernel
theorem dX3_copyFrom_36 : decode cX3_copyFrom 36 = .ok (.aload_n 0, 1) := by decide +kernel
theorem dX3_copyFrom_37 : decode cX3_copyFrom 37 = .ok (.getfield 15, 3) := by decide +kernel
theorem dX3_copyFrom_40 : decode cX3_copyFrom 40 = .ok (.iconst 0, 1) := by decide +kernel
theorem dX3_copyFrom_41 : decode cX3_copyFrom 41 = .ok (.bipush 8, 2) := by decide +kernel
theorem dX3_copyFrom_43 : decode cX3_copyFrom 43 = .ok (.invokestatic 42, 3) := by decide +kernel
theorem dX3_copyFrom_46 : decode cX3_copyFrom 46 = .ok (.aload_n 1, 1) := by decide +kernel
theorem dX3_copyFrom_47 : decode cX3_copyFrom 47 = .ok (.getfield 18, 3) := by decide +kernel
theorem dX3_copyFrom_50 : decode cX3_copyFrom 50 = .ok (.iconst 0, 1) := by decide +kernel
theorem dX3_copyFrom_51 : decode cX3_copyFrom 51 = .ok (.aload_n 0, 1) := by decide +kernel
theorem dX3_copyFrom_52 : decode cX3_copyFrom 52 = .ok (.getfield 18, 3) := by decide +kernel
theorem dX3_copyFrom_55 : decode cX3_copyFrom 55 = .ok (.iconst 0, 1) := by decide +kernel
theorem dX3_copyFrom_56 : decode cX3_copyFrom 56 = .ok (.bipush 8, 2) := by decide +kernel
theorem dX3_copyFrom_58 : decode cX3_copyFrom 58 = .ok (.invokestatic 42, 3) := by decide +kernel
theorem dX3_copyFrom_61 : decode cX3_copyFrom 61 = .ok (.aload_n 1, 1) := by decide +kernel
theorem dX3_copyFrom_62 : decode cX3_copyFrom 62 = .ok (.getfield 21, 3) := by decide +kernel
theorem dX3_copyFrom_65 : decode cX3_copyFrom 65 = .ok (.iconst 0, 1) := by decide +kernel
theorem dX3_copyFrom_66 : decode cX3_copyFrom 66 = .ok (.aload_n 0, 1) := by decide +kernel
theorem dX3_copyFrom_67 : decode cX3_copyFrom 67 = .ok (.getfield 21, 3) := by decide +kernel
theorem dX3_copyFrom_70 : decode cX3_copyFrom 70 = .ok (.iconst 0, 1) := by decide +kernel
theorem dX3_copyFrom_71 : decode cX3_copyFrom 71 = .ok (.bipush 8, 2) := by decide +kernel
theorem dX3_copyFrom_73 : decode cX3_copyFrom 73 = .ok (.invokestatic 42, 3) := by decide +kernel
theorem dX3_copyFrom_76 : decode cX3_copyFrom 76 = .ok (.aload_n 0, 1) := by decide +kernel
theorem dX3_copyFrom_77 : decode cX3_copyFrom 77 = .ok (.aload_n 1, 1) := by decide +kernel
theorem dX3_copyFrom_78 : decode cX3_copyFrom 78 = .ok (.invokevirtual 48, 3) := by decide +kernel
theorem dX3_copyFrom_81 : decode cX3_copyFrom 81 = .ok (.return_, 1) := by decide +kernel
theorem dX3_takeSettings_0 : decode cX3_takeSettings 0 = .ok (.aload_n 1, 1) := by decide +kernel
theorem dX3_takeSettings_1 : decode cX3_takeSettings 1 = .ok (.getfield 32, 3) := by decide +kernel
theorem dX3_takeSettings_4 : decode cX3_takeSettings 4 = .ok (.iconst 0, 1) := by decide +kernel
theorem dX3_takeSettings_5 : decode cX3_takeSettings 5 = .ok (.aload_n 0, 1) := by decide +kernel
theorem dX3_takeSettings_6 : decode cX3_takeSettings 6 = .ok (.getfield 32, 3) := by decide +kernel
theorem dX3_takeSettings_9 : decode cX3_takeSettings 9 = .ok (.iconst 0, 1) := by decide +kernel
theorem dX3_takeSettings_10 : decode cX3_takeSettings 10 = .ok (.bipush 6, 2) := by decide +kernel
theorem dX3_takeSettings_12 : decode cX3_takeSettings 12 = .ok (.invokestatic 42, 3) := by decide +kernel
theorem dX3_takeSettings_15 : decode cX3_takeSettings 15 = .ok (.return_, 1) := by decide +kernel
theorem dX3_empty_0 : decode cX3_empty 0 = .ok (.aload_n 0, 1) := by decide +kernel
theorem dX3_empty_1 : decode cX3_empty 1 = .ok (.iconst 0, 1) := by decide +kernel
theorem dX3_empty_2 : decode cX3_empty 2 = .ok (.putfield 35, 3) := by decide +kernel
theorem dX3_empty_5 : decode cX3_empty 5 = .ok (.aload_n 0, 1) := by decide +kernel
theorem dX3_empty_6 : decode cX3_empty 6 = .ok (.iconst 0, 1) := by decide +kernel
theorem dX3_empty_7 : decode cX3_empty 7 = .ok (.putfield 39, 3) := by decide +kernel
theorem dX3_empty_10 : decode cX3_empty 10 = .ok (.return_, 1) := by decide +kernel
theorem dX3_addPar_0 : decode cX3_addPar 0 = .ok (.aload_n 0, 1) := by decide +kernel
theorem dX3_addPar_1 : decode cX3_addPar 1 = .ok (.getfield 35, 3) := by decide +kernel
theorem dX3_addPar_4 : decode cX3_addPar 4 = .ok (.bipush 8, 2) := by decide +kernel
theorem dX3_addPar_6 : decode cX3_addPar 6 = .ok (.if_icmp .ge 43, 3) := by decide +kernel
theorem dX3_addPar_9 : decode cX3_addPar 9 = .ok (.aload_n 0, 1) := by decide +kernel
theorem dX3_addPar_10 : decode cX3_addPar 10 = .ok (.getfield 15, 3) := by decide +kernel
theorem dX3_addPar_13 : decode cX3_addPar 13 = .ok (.aload_n 0, 1) := by decide +kernel
theorem dX3_addPar_14 : decode cX3_addPar 14 = .ok (.getfield 35, 3) := by decide +kernel
theorem dX3_addPar_17 : decode cX3_addPar 17 = .ok (.iconst 0, 1) := by decide +kernel
theorem dX3_addPar_18 : decode cX3_addPar 18 = .ok (.iastore, 1) := by decide +kernel
theorem dX3_addPar_19 : decode cX3_addPar 19 = .ok (.aload_n 0, 1) := by decide +kernel
theorem dX3_addPar_20 : decode cX3_addPar 20 = .ok (.getfield 18, 3) := by decide +kernel
theorem dX3_addPar_23 : decode cX3_addPar 23 = .ok (.aload_n 0, 1) := by decide +kernel
theorem dX3_addPar_24 : decode cX3_addPar 24 = .ok (.getfield 35, 3) := by decide +kernel
theorem dX3_addPar_27 : decode cX3_addPar 27 = .ok (.iload_n 1, 1) := by decide +kernel
theorem dX3_addPar_28 : decode cX3_addPar 28 = .ok (.iastore, 1) := by decide +kernel
theorem dX3_addPar_29 : decode cX3_addPar 29 = .ok (.aload_n 0, 1) := by decide +kernel
theorem dX3_addPar_30 : decode cX3_addPar 30 = .ok (.getfield 21, 3) := by decide +kernel
theorem dX3_addPar_33 : decode cX3_addPar 33 = .ok (.aload_n 0, 1) := by decide +kernel
theorem dX3_addPar_34 : decode cX3_addPar 34 = .ok (.getfield 35, 3) := by decide +kernel
theorem dX3_addPar_37 : decode cX3_addPar 37 = .ok (.iload_n 2, 1) := by decide +kernel
theorem dX3_addPar_38 : decode cX3_addPar 38 = .ok (.iastore, 1) := by decide +kernel
theorem dX3_addPar_39 : decode cX3_addPar 39 = .ok (.aload_n 0, 1) := by decide +kernel
theorem dX3_addPar_40 : decode cX3_addPar 40 = .ok (.dup, 1) := by decide +kernel
theorem dX3_addPar_41 : decode cX3_addPar 41 = .ok (.getfield 35, 3) := by decide +kernel
theorem dX3_addPar_44 : decode cX3_addPar 44 = .ok (.iconst 1, 1) := by decide +kernel
theorem dX3_addPar_45 : decode cX3_addPar 45 = .ok (.iadd, 1) := by decide +kernel
theorem dX3_addPar_46 : decode cX3_addPar 46 = .ok (.putfield 35, 3) := by decide +kernel
theorem dX3_addPar_49 : decode cX3_addPar 49 = .ok (.return_, 1) := by decide +kernel
theorem dX3_addWord_0 : decode cX3_addWord 0 = .ok (.aload_n 0, 1) := by decide +kernel
theorem dX3_addWord_1 : decode cX3_addWord 1 = .ok (.getfield 35, 3) := by decide +kernel
theorem dX3_addWord_4 : decode cX3_addWord 4 = .ok (.ifCond .le 47, 3) := by decide +kernel
theorem dX3_addWord_7 : decode cX3_addWord 7 = .ok (.aload_n 0, 1) := by decide +kernel
theorem dX3_addWord_8 : decode cX3_addWord 8 = .ok (.getfield 39, 3) := by decide +kernel
theorem dX3_addWord_11 : decode cX3_addWord 11 = .ok (.bipush 80, 2) := by decide +kernel
theorem dX3_addWord_13 : decode cX3_addWord 13 = .ok (.if_icmp .ge 38, 3) := by decide +kernel
theorem dX3_addWord_16 : decode cX3_addWord 16 = .ok (.aload_n 0, 1) := by decide +kernel
theorem dX3_addWord_17 : decode cX3_addWord 17 = .ok (.getfield 9, 3) := by decide +kernel
theorem dX3_addWord_20 : decode cX3_addWord 20 = .ok (.aload_n 0, 1) := by decide +kernel
theorem dX3_addWord_21 : decode cX3_addWord 21 = .ok (.getfield 39, 3) := by decide +kernel
theorem dX3_addWord_24 : decode cX3_addWord 24 = .ok (.iload_n 1, 1) := by decide +kernel
theorem dX3_addWord_25 : decode cX3_addWord 25 = .ok (.iastore, 1) := by decide +kernel
theorem dX3_addWord_26 : decode cX3_addWord 26 = .ok (.aload_n 0, 1) := by decide +kernel
theorem dX3_addWord_27 : decode cX3_addWord 27 = .ok (.dup, 1) := by decide +kernel
theorem dX3_addWord_28 : decode cX3_addWord 28 = .ok (.getfield 39, 3) := by decide +kernel
theorem dX3_addWord_31 : decode cX3_addWord 31 = .ok (.iconst 1, 1) := by decide +kernel
theorem dX3_addWord_32 : decode cX3_addWord 32 = .ok (.iadd, 1) := by decide +kernel
theorem dX3_addWord_33 : decode cX3_addWord 33 = .ok (.putfield 39, 3) := by decide +kernel
theorem dX3_addWord_36 : decode cX3_addWord 36 = .ok (.aload_n 0, 1) := by decide +kernel
theorem dX3_addWord_37 : decode cX3_addWord 37 = .ok (.getfield 15, 3) := by decide +kernel
theorem dX3_addWord_40 : decode cX3_addWord 40 = .ok (.aload_n 0, 1) := by decide +kernel
theorem dX3_addWord_41 : decode cX3_addWord 41 = .ok (.getfield 35, 3) := by decide +kernel
theorem dX3_addWord_44 : decode cX3_addWord 44 = .ok (.iconst 1, 1) := by decide +kernel
theorem dX3_addWord_45 : decode cX3_addWord 45 = .ok (.isub, 1) := by decide +kernel
theorem dX3_addWord_46 : decode cX3_addWord 46 = .ok (.dup2, 1) := by decide +kernel
theorem dX3_addWord_47 : decode cX3_addWord 47 = .ok (.iaload, 1) := by decide +kernel
theorem dX3_addWord_48 : decode cX3_addWord 48 = .ok (.iconst 1, 1) := by decide +kernel
theorem dX3_addWord_49 : decode cX3_addWord 49 = .ok (.iadd, 1) := by decide +kernel
theorem dX3_addWord_50 : decode cX3_addWord 50 = .ok (.iastore, 1) := by decide +kernel
theorem dX3_addWord_51 : decode cX3_addWord 51 = .ok (.return_, 1) := by decide +kernel
theorem dX3_hasShape_0 : decode cX3_hasShape 0 = .ok (.aload_n 0, 1) := by decide +kernel
theorem dX3_hasShape_1 : decode cX3_hasShape 1 = .ok (.getfield 18, 3) := by decide +kernel
theorem dX3_hasShape_4 : decode cX3_hasShape 4 = .ok (.iload_n 1, 1) := by decide +kernel
theorem dX3_hasShape_5 : decode cX3_hasShape 5 = .ok (.iaload, 1) := by decide +kernel
theorem dX3_hasShape_6 : decode cX3_hasShape 6 = .ok (.ifCond .lt 7, 3) := by decide +kernel
theorem dX3_hasShape_9 : decode cX3_hasShape 9 = .ok (.iconst 1, 1) := by decide +kernel
theorem dX3_hasShape_10 : decode cX3_hasShape 10 = .ok (.goto 4, 3) := by decide +kernel
theorem dX3_hasShape_13 : decode cX3_hasShape 13 = .ok (.iconst 0, 1) := by decide +kernel
theorem dX3_hasShape_14 : decode cX3_hasShape 14 = .ok (.ireturn, 1) := by decide +kernel
theorem dX3_firstOf_0 : decode cX3_firstOf 0 = .ok (.iconst 0, 1) := by decide +kernel
theorem dX3_firstOf_1 : decode cX3_firstOf 1 = .ok (.istore_n 2, 1) := by decide +kernel
theorem dX3_firstOf_2 : decode cX3_firstOf 2 = .ok (.iconst 0, 1) := by decide +kernel
theorem dX3_firstOf_3 : decode cX3_firstOf 3 = .ok (.istore_n 3, 1) := by decide +kernel
theorem dX3_firstOf_4 : decode cX3_firstOf 4 = .ok (.iload_n 3, 1) := by decide +kernel
theorem dX3_firstOf_5 : decode cX3_firstOf 5 = .ok (.iload_n 1, 1) := by decide +kernel
theorem dX3_firstOf_6 : decode cX3_firstOf 6 = .ok (.if_icmp .ge 18, 3) := by decide +kernel
theorem dX3_firstOf_9 : decode cX3_firstOf 9 = .ok (.iload_n 2, 1) := by decide +kernel
theorem dX3_firstOf_10 : decode cX3_firstOf 10 = .ok (.aload_n 0, 1) := by decide +kernel
theorem dX3_firstOf_11 : decode cX3_firstOf 11 = .ok (.getfield 15, 3) := by decide +kernel
theorem dX3_firstOf_14 : decode cX3_firstOf 14 = .ok (.iload_n 3, 1) := by decide +kernel
theorem dX3_firstOf_15 : decode cX3_firstOf 15 = .ok (.iaload, 1) := by decide +kernel
theorem dX3_firstOf_16 : decode cX3_firstOf 16 = .ok (.iadd, 1) := by decide +kernel
theorem dX3_firstOf_17 : decode cX3_firstOf 17 = .ok (.istore_n 2, 1) := by decide +kernel
theorem dX3_firstOf_18 : decode cX3_firstOf 18 = .ok (.iinc 3 1, 3) := by decide +kernel
theorem dX3_firstOf_21 : decode cX3_firstOf 21 = .ok (.goto (-17), 3) := by decide +kernel
theorem dX3_firstOf_24 : decode cX3_firstOf 24 = .ok (.iload_n 2, 1) := by decide +kernel
theorem dX3_firstOf_25 : decode cX3_firstOf 25 = .ok (.ireturn, 1) := by decide +kernel
theorem dX3_wordOf_0 : decode cX3_wordOf 0 = .ok (.aload_n 0, 1) := by decide +kernel
theorem dX3_wordOf_1 : decode cX3_wordOf 1 = .ok (.getfield 9, 3) := by decide +kernel
theorem dX3_wordOf_4 : decode cX3_wordOf 4 = .ok (.aload_n 0, 1) := by decide +kernel
theorem dX3_wordOf_5 : decode cX3_wordOf 5 = .ok (.iload_n 1, 1) := by decide +kernel
theorem dX3_wordOf_6 : decode cX3_wordOf 6 = .ok (.invokevirtual 52, 3) := by decide +kernel
theorem dX3_wordOf_9 : decode cX3_wordOf 9 = .ok (.iload_n 2, 1) := by decide +kernel
theorem dX3_wordOf_10 : decode cX3_wordOf 10 = .ok (.iadd, 1) := by decide +kernel
theorem dX3_wordOf_11 : decode cX3_wordOf 11 = .ok (.iaload, 1) := by decide +kernel
theorem dX3_wordOf_12 : decode cX3_wordOf 12 = .ok (.ireturn, 1) := by decide +kernel
theorem dX3_likeWords_0 : decode cX3_likeWords 0 = .ok (.iconst 0, 1) := by decide +kernel
theorem dX3_likeWords_1 : decode cX3_likeWords 1 = .ok (.istore_n 2, 1) := by decide +kernel
theorem dX3_likeWords_2 : decode cX3_likeWords 2 = .ok (.iconst 0, 1) := by decide +kernel
theorem dX3_likeWords_3 : decode cX3_likeWords 3 = .ok (.istore_n 3, 1) := by decide +kernel
theorem dX3_likeWords_4 : decode cX3_likeWords 4 = .ok (.iload_n 3, 1) := by decide +kernel
theorem dX3_likeWords_5 : decode cX3_likeWords 5 = .ok (.aload_n 0, 1) := by decide +kernel
theorem dX3_likeWords_6 : decode cX3_likeWords 6 = .ok (.getfield 39, 3) := by decide +kernel
theorem dX3_likeWords_9 : decode cX3_likeWords 9 = .ok (.if_icmp .ge 22, 3) := by decide +kernel
theorem dX3_likeWords_12 : decode cX3_likeWords 12 = .ok (.aload_n 0, 1) := by decide +kernel
theorem dX3_likeWords_13 : decode cX3_likeWords 13 = .ok (.getfield 9, 3) := by decide +kernel
theorem dX3_likeWords_16 : decode cX3_likeWords 16 = .ok (.iload_n 3, 1) := by decide +kernel
theorem dX3_likeWords_17 : decode cX3_likeWords 17 = .ok (.iaload, 1) := by decide +kernel
theorem dX3_likeWords_18 : decode cX3_likeWords 18 = .ok (.iload_n 1, 1) := by decide +kernel
theorem dX3_likeWords_19 : decode cX3_likeWords 19 = .ok (.if_icmp .ne 6, 3) := by decide +kernel
theorem dX3_likeWords_22 : decode cX3_likeWords 22 = .ok (.iinc 2 1, 3) := by decide +kernel
theorem dX3_likeWords_25 : decode cX3_likeWords 25 = .ok (.iinc 3 1, 3) := by decide +kernel
theorem dX3_likeWords_28 : decode cX3_likeWords 28 = .ok (.goto (-24), 3) := by decide +kernel
theorem dX3_likeWords_31 : decode cX3_likeWords 31 = .ok (.iload_n 2, 1) := by decide +kernel
theorem dX3_likeWords_32 : decode cX3_likeWords 32 = .ok (.ireturn, 1) := by decide +kernel
theorem dX3_unlikeWords_0 : decode cX3_unlikeWords 0 = .ok (.iconst 0, 1) := by decide +kernel
theorem dX3_unlikeWords_1 : decode cX3_unlikeWords 1 = .ok (.istore_n 1, 1) := by decide +kernel
theorem dX3_unlikeWords_2 : decode cX3_unlikeWords 2 = .ok (.iconst 0, 1) := by decide +kernel
theorem dX3_unlikeWords_3 : decode cX3_unlikeWords 3 = .ok (.istore_n 2, 1) := by decide +kernel
theorem dX3_unlikeWords_4 : decode cX3_unlikeWords 4 = .ok (.iload_n 2, 1) := by decide +kernel
theorem dX3_unlikeWords_5 : decode cX3_unlikeWords 5 = .ok (.aload_n 0, 1) := by decide +kernel
theorem dX3_unlikeWords_6 : decode cX3_unlikeWords 6 = .ok (.getfield 39, 3) := by decide +kernel
theorem dX3_unlikeWords_9 : decode cX3_unlikeWords 9 = .ok (.if_icmp .ge 20, 3) := by decide +kernel
theorem dX3_unlikeWords_12 : decode cX3_unlikeWords 12 = .ok (.aload_n 0, 1) := by decide +kernel
theorem dX3_unlikeWords_13 : decode cX3_unlikeWords 13 = .ok (.iload_n 2, 1) := by decide +kernel
theorem dX3_unlikeWords_14 : decode cX3_unlikeWords 14 = .ok (.invokevirtual 56, 3) := by decide +kernel
theorem dX3_unlikeWords_17 : decode cX3_unlikeWords 17 = .ok (.ifCond .ne 6, 3) := by decide +kernel
theorem dX3_unlikeWords_20 : decode cX3_unlikeWords 20 = .ok (.iinc 1 1, 3) := by decide +kernel
theorem dX3_unlikeWords_23 : decode cX3_unlikeWords 23 = .ok (.iinc 2 1, 3) := by decide +kernel
theorem dX3_unlikeWords_26 : decode cX3_unlikeWords 26 = .ok (.goto (-22), 3) := by decide +kernel
theorem dX3_unlikeWords_29 : decode cX3_unlikeWords 29 = .ok (.iload_n 1, 1) := by decide +kernel
theorem dX3_unlikeWords_30 : decode cX3_unlikeWords 30 = .ok (.ireturn, 1) := by decide +kernel
theorem dX3_comesAhead_0 : decode cX3_comesAhead 0 = .ok (.iconst 0, 1) := by decide +kernel
theorem dX3_comesAhead_1 : decode cX3_comesAhead 1 = .ok (.istore_n 2, 1) := by decide +kernel
theorem dX3_comesAhead_2 : decode cX3_comesAhead 2 = .ok (.iload_n 2, 1) := by decide +kernel
theorem dX3_comesAhead_3 : decode cX3_comesAhead 3 = .ok (.iload_n 1, 1) := by decide +kernel
theorem dX3_comesAhead_4 : decode cX3_comesAhead 4 = .ok (.if_icmp .ge 26, 3) := by decide +kernel
theorem dX3_comesAhead_7 : decode cX3_comesAhead 7 = .ok (.aload_n 0, 1) := by decide +kernel
theorem dX3_comesAhead_8 : decode cX3_comesAhead 8 = .ok (.getfield 9, 3) := by decide +kernel
theorem dX3_comesAhead_11 : decode cX3_comesAhead 11 = .ok (.iload_n 2, 1) := by decide +kernel
theorem dX3_comesAhead_12 : decode cX3_comesAhead 12 = .ok (.iaload, 1) := by decide +kernel
theorem dX3_comesAhead_13 : decode cX3_comesAhead 13 = .ok (.aload_n 0, 1) := by decide +kernel
theorem dX3_comesAhead_14 : decode cX3_comesAhead 14 = .ok (.getfield 9, 3) := by decide +kernel
theorem dX3_comesAhead_17 : decode cX3_comesAhead 17 = .ok (.iload_n 1, 1) := by decide +kernel
theorem dX3_comesAhead_18 : decode cX3_comesAhead 18 = .ok (.iaload, 1) := by decide +kernel
theorem dX3_comesAhead_19 : decode cX3_comesAhead 19 = .ok (.if_icmp .ne 5, 3) := by decide +kernel
theorem dX3_comesAhead_22 : decode cX3_comesAhead 22 = .ok (.iconst 1, 1) := by decide +kernel
theorem dX3_comesAhead_23 : decode cX3_comesAhead 23 = .ok (.ireturn, 1) := by decide +kernel
theorem dX3_comesAhead_24 : decode cX3_comesAhead 24 = .ok (.iinc 2 1, 3) := by decide +kernel
theorem dX3_comesAhead_27 : decode cX3_comesAhead 27 = .ok (.goto (-25), 3) := by decide +kernel
theorem dX3_comesAhead_30 : decode cX3_comesAhead 30 = .ok (.iconst 0, 1) := by decide +kernel
theorem dX3_comesAhead_31 : decode cX3_comesAhead 31 = .ok (.ireturn, 1) := by decide +kernel
theorem dX3_split_0 : decode cX3_split 0 = .ok (.aload_n 0, 1) := by decide +kernel
theorem dX3_split_1 : decode cX3_split 1 = .ok (.getfield 35, 3) := by decide +kernel
theorem dX3_split_4 : decode cX3_split 4 = .ok (.istore_n 3, 1) := by decide +kernel
theorem dX3_split_5 : decode cX3_split 5 = .ok (.iload_n 3, 1) := by decide +kernel
theorem dX3_split_6 : decode cX3_split 6 = .ok (.iload_n 1, 1) := by decide +kernel
theorem dX3_split_7 : decode cX3_split 7 = .ok (.iconst 1, 1) := by decide +kernel
theorem dX3_split_8 : decode cX3_split 8 = .ok (.iadd, 1) := by decide +kernel
theorem dX3_split_9 : decode cX3_split 9 = .ok (.if_icmp .le 17, 3) := by decide +kernel
theorem dX3_split_12 : decode cX3_split 12 = .ok (.aload_n 0, 1) := by decide +kernel
theorem dX3_split_13 : decode cX3_split 13 = .ok (.iload_n 3, 1) := by decide +kernel
theorem dX3_split_14 : decode cX3_split 14 = .ok (.iload_n 3, 1) := by decide +kernel
theorem dX3_split_15 : decode cX3_split 15 = .ok (.iconst 1, 1) := by decide +kernel
theorem dX3_split_16 : decode cX3_split 16 = .ok (.isub, 1) := by decide +kernel
theorem dX3_split_17 : decode cX3_split 17 = .ok (.invokevirtual 60, 3) := by decide +kernel
theorem dX3_split_20 : decode cX3_split 20 = .ok (.iinc 3 (-1), 3) := by decide +kernel
theorem dX3_split_23 : decode cX3_split 23 = .ok (.goto (-18), 3) := by decide +kernel
theorem dX3_split_26 : decode cX3_split 26 = .ok (.aload_n 0, 1) := by decide +kernel
theorem dX3_split_27 : decode cX3_split 27 = .ok (.dup, 1) := by decide +kernel
theorem dX3_split_28 : decode cX3_split 28 = .ok (.getfield 35, 3) := by decide +kernel
theorem dX3_split_31 : decode cX3_split 31 = .ok (.iconst 1, 1) := by decide +kernel
theorem dX3_split_32 : decode cX3_split 32 = .ok (.iadd, 1) := by decide +kernel
theorem dX3_split_33 : decode cX3_split 33 = .ok (.putfield 35, 3) := by decide +kernel
theorem dX3_split_36 : decode cX3_split 36 = .ok (.aload_n 0, 1) := by decide +kernel
theorem dX3_split_37 : decode cX3_split 37 = .ok (.getfield 15, 3) := by decide +kernel
theorem dX3_split_40 : decode cX3_split 40 = .ok (.iload_n 1, 1) := by decide +kernel
theorem dX3_split_41 : decode cX3_split 41 = .ok (.iconst 1, 1) := by decide +kernel
theorem dX3_split_42 : decode cX3_split 42 = .ok (.iadd, 1) := by decide +kernel
theorem dX3_split_43 : decode cX3_split 43 = .ok (.aload_n 0, 1) := by decide +kernel
theorem dX3_split_44 : decode cX3_split 44 = .ok (.getfield 15, 3) := by decide +kernel
theorem dX3_split_47 : decode cX3_split 47 = .ok (.iload_n 1, 1) := by decide +kernel
theorem dX3_split_48 : decode cX3_split 48 = .ok (.iaload, 1) := by decide +kernel
theorem dX3_split_49 : decode cX3_split 49 = .ok (.iload_n 2, 1) := by decide +kernel
theorem dX3_split_50 : decode cX3_split 50 = .ok (.isub, 1) := by decide +kernel
theorem dX3_split_51 : decode cX3_split 51 = .ok (.iastore, 1) := by decide +kernel
theorem dX3_split_52 : decode cX3_split 52 = .ok (.aload_n 0, 1) := by decide +kernel
theorem dX3_split_53 : decode cX3_split 53 = .ok (.getfield 18, 3) := by decide +kernel
theorem dX3_split_56 : decode cX3_split 56 = .ok (.iload_n 1, 1) := by decide +kernel
theorem dX3_split_57 : decode cX3_split 57 = .ok (.iconst 1, 1) := by decide +kernel
theorem dX3_split_58 : decode cX3_split 58 = .ok (.iadd, 1) := by decide +kernel
theorem dX3_split_59 : decode cX3_split 59 = .ok (.bipush (-4), 2) := by decide +kernel
theorem dX3_split_61 : decode cX3_split 61 = .ok (.iastore, 1) := by decide +kernel
theorem dX3_split_62 : decode cX3_split 62 = .ok (.aload_n 0, 1) := by decide +kernel
theorem dX3_split_63 : decode cX3_split 63 = .ok (.getfield 21, 3) := by decide +kernel
theorem dX3_split_66 : decode cX3_split 66 = .ok (.iload_n 1, 1) := by decide +kernel
theorem dX3_split_67 : decode cX3_split 67 = .ok (.iconst 1, 1) := by decide +kernel
theorem dX3_split_68 : decode cX3_split 68 = .ok (.iadd, 1) := by decide +kernel
theorem dX3_split_69 : decode cX3_split 69 = .ok (.iconst 0, 1) := by decide +kernel
theorem dX3_split_70 : decode cX3_split 70 = .ok (.iastore, 1) := by decide +kernel
theorem dX3_split_71 : decode cX3_split 71 = .ok (.aload_n 0, 1) := by decide +kernel
theorem dX3_split_72 : decode cX3_split 72 = .ok (.getfield 15, 3) := by decide +kernel
theorem dX3_split_75 : decode cX3_split 75 = .ok (.iload_n 1, 1) := by decide +kernel
theorem dX3_split_76 : decode cX3_split 76 = .ok (.iload_n 2, 1) := by decide +kernel
theorem dX3_split_77 : decode cX3_split 77 = .ok (.iastore, 1) := by decide +kernel
theorem dX3_split_78 : decode cX3_split 78 = .ok (.return_, 1) := by decide +kernel
theorem dX3_unite_0 : decode cX3_unite 0 = .ok (.aload_n 0, 1) := by decide +kernel
theorem dX3_unite_1 : decode cX3_unite 1 = .ok (.getfield 15, 3) := by decide +kernel
theorem dX3_unite_4 : decode cX3_unite 4 = .ok (.iload_n 1, 1) := by decide +kernel
theorem dX3_unite_5 : decode cX3_unite 5 = .ok (.dup2, 1) := by decide +kernel
theorem dX3_unite_6 : decode cX3_unite 6 = .ok (.iaload, 1) := by decide +kernel
theorem dX3_unite_7 : decode cX3_unite 7 = .ok (.aload_n 0, 1) := by decide +kernel
theorem dX3_unite_8 : decode cX3_unite 8 = .ok (.getfield 15, 3) := by decide +kernel
theorem dX3_unite_11 : decode cX3_unite 11 = .ok (.iload_n 1, 1) := by decide +kernel
theorem dX3_unite_12 : decode cX3_unite 12 = .ok (.iconst 1, 1) := by decide +kernel
theorem dX3_unite_13 : decode cX3_unite 13 = .ok (.iadd, 1) := by decide +kernel
theorem dX3_unite_14 : decode cX3_unite 14 = .ok (.iaload, 1) := by decide +kernel
theorem dX3_unite_15 : decode cX3_unite 15 = .ok (.iadd, 1) := by decide +kernel
theorem dX3_unite_16 : decode cX3_unite 16 = .ok (.iastore, 1) := by decide +kernel
theorem dX3_unite_17 : decode cX3_unite 17 = .ok (.aload_n 0, 1) := by decide +kernel
theorem dX3_unite_18 : decode cX3_unite 18 = .ok (.dup, 1) := by decide +kernel
theorem dX3_unite_19 : decode cX3_unite 19 = .ok (.getfield 35, 3) := by decide +kernel
theorem dX3_unite_22 : decode cX3_unite 22 = .ok (.iconst 1, 1) := by decide +kernel
theorem dX3_unite_23 : decode cX3_unite 23 = .ok (.isub, 1) := by decide +kernel
theorem dX3_unite_24 : decode cX3_unite 24 = .ok (.putfield 35, 3) := by decide +kernel
theorem dX3_unite_27 : decode cX3_unite 27 = .ok (.iload_n 1, 1) := by decide +kernel
theorem dX3_unite_28 : decode cX3_unite 28 = .ok (.iconst 1, 1) := by decide +kernel
theorem dX3_unite_29 : decode cX3_unite 29 = .ok (.iadd, 1) := by decide +kernel
theorem dX3_unite_30 : decode cX3_unite 30 = .ok (.istore_n 2, 1) := by decide +kernel
theorem dX3_unite_31 : decode cX3_unite 31 = .ok (.iload_n 2, 1) := by decide +kernel
theorem dX3_unite_32 : decode cX3_unite 32 = .ok (.aload_n 0, 1) := by decide +kernel
theorem dX3_unite_33 : decode cX3_unite 33 = .ok (.getfield 35, 3) := by decide +kernel
theorem dX3_unite_36 : decode cX3_unite 36 = .ok (.if_icmp .ge 17, 3) := by decide +kernel
theorem dX3_unite_39 : decode cX3_unite 39 = .ok (.aload_n 0, 1) := by decide +kernel
theorem dX3_unite_40 : decode cX3_unite 40 = .ok (.iload_n 2, 1) := by decide +kernel
theorem dX3_unite_41 : decode cX3_unite 41 = .ok (.iload_n 2, 1) := by decide +kernel
theorem dX3_unite_42 : decode cX3_unite 42 = .ok (.iconst 1, 1) := by decide +kernel
theorem dX3_unite_43 : decode cX3_unite 43 = .ok (.iadd, 1) := by decide +kernel
theorem dX3_unite_44 : decode cX3_unite 44 = .ok (.invokevirtual 60, 3) := by decide +kernel
theorem dX3_unite_47 : decode cX3_unite 47 = .ok (.iinc 2 1, 3) := by decide +kernel
theorem dX3_unite_50 : decode cX3_unite 50 = .ok (.goto (-19), 3) := by decide +kernel
theorem dX3_unite_53 : decode cX3_unite 53 = .ok (.return_, 1) := by decide +kernel
theorem dX3_takePar_0 : decode cX3_takePar 0 = .ok (.aload_n 0, 1) := by decide +kernel
theorem dX3_takePar_1 : decode cX3_takePar 1 = .ok (.getfield 15, 3) := by decide +kernel
theorem dX3_takePar_4 : decode cX3_takePar 4 = .ok (.iload_n 1, 1) := by decide +kernel
theorem dX3_takePar_5 : decode cX3_takePar 5 = .ok (.aload_n 0, 1) := by decide +kernel
theorem dX3_takePar_6 : decode cX3_takePar 6 = .ok (.getfield 15, 3) := by decide +kernel
theorem dX3_takePar_9 : decode cX3_takePar 9 = .ok (.iload_n 2, 1) := by decide +kernel
theorem dX3_takePar_10 : decode cX3_takePar 10 = .ok (.iaload, 1) := by decide +kernel
theorem dX3_takePar_11 : decode cX3_takePar 11 = .ok (.iastore, 1) := by decide +kernel
theorem dX3_takePar_12 : decode cX3_takePar 12 = .ok (.aload_n 0, 1) := by decide +kernel
theorem dX3_takePar_13 : decode cX3_takePar 13 = .ok (.getfield 18, 3) := by decide +kernel
theorem dX3_takePar_16 : decode cX3_takePar 16 = .ok (.iload_n 1, 1) := by decide +kernel
theorem dX3_takePar_17 : decode cX3_takePar 17 = .ok (.aload_n 0, 1) := by decide +kernel
theorem dX3_takePar_18 : decode cX3_takePar 18 = .ok (.getfield 18, 3) := by decide +kernel
theorem dX3_takePar_21 : decode cX3_takePar 21 = .ok (.iload_n 2, 1) := by decide +kernel
theorem dX3_takePar_22 : decode cX3_takePar 22 = .ok (.iaload, 1) := by decide +kernel
theorem dX3_takePar_23 : decode cX3_takePar 23 = .ok (.iastore, 1) := by decide +kernel
theorem dX3_takePar_24 : decode cX3_takePar 24 = .ok (.aload_n 0, 1) := by decide +kernel
theorem dX3_takePar_25 : decode cX3_takePar 25 = .ok (.getfield 21, 3) := by decide +kernel
theorem dX3_takePar_28 : decode cX3_takePar 28 = .ok (.iload_n 1, 1) := by decide +kernel
theorem dX3_takePar_29 : decode cX3_takePar 29 = .ok (.aload_n 0, 1) := by decide +kernel
theorem dX3_takePar_30 : decode cX3_takePar 30 = .ok (.getfield 21, 3) := by decide +kernel
theorem dX3_takePar_33 : decode cX3_takePar 33 = .ok (.iload_n 2, 1) := by decide +kernel
theorem dX3_takePar_34 : decode cX3_takePar 34 = .ok (.iaload, 1) := by decide +kernel
theorem dX3_takePar_35 : decode cX3_takePar 35 = .ok (.iastore, 1) := by decide +kernel
theorem dX3_takePar_36 : decode cX3_takePar 36 = .ok (.return_, 1) := by decide +kernel
theorem dX3_carry_0 : decode cX3_carry 0 = .ok (.aload_n 0, 1) := by decide +kernel
theorem dX3_carry_1 : decode cX3_carry 1 = .ok (.iload_n 1, 1) := by decide +kernel
theorem dX3_carry_2 : decode cX3_carry 2 = .ok (.invokevirtual 52, 3) := by decide +kernel
theorem dX3_carry_5 : decode cX3_carry 5 = .ok (.iload_n 2, 1) := by decide +kernel
theorem dX3_carry_6 : decode cX3_carry 6 = .ok (.iadd, 1) := by decide +kernel
theorem dX3_carry_7 : decode cX3_carry 7 = .ok (.istore 5, 2) := by decide +kernel
theorem dX3_carry_9 : decode cX3_carry 9 = .ok (.aload_n 0, 1) := by decide +kernel
theorem dX3_carry_10 : decode cX3_carry 10 = .ok (.iload_n 3, 1) := by decide +kernel
theorem dX3_carry_11 : decode cX3_carry 11 = .ok (.invokevirtual 52, 3) := by decide +kernel
theorem dX3_carry_14 : decode cX3_carry 14 = .ok (.iload 4, 2) := by decide +kernel
theorem dX3_carry_16 : decode cX3_carry 16 = .ok (.iadd, 1) := by decide +kernel
theorem dX3_carry_17 : decode cX3_carry 17 = .ok (.istore 6, 2) := by decide +kernel
theorem dX3_carry_19 : decode cX3_carry 19 = .ok (.aload_n 0, 1) := by decide +kernel
theorem dX3_carry_20 : decode cX3_carry 20 = .ok (.getfield 9, 3) := by decide +kernel
theorem dX3_carry_23 : decode cX3_carry 23 = .ok (.iload 5, 2) := by decide +kernel
theorem dX3_carry_25 : decode cX3_carry 25 = .ok (.iaload, 1) := by decide +kernel
theorem dX3_carry_26 : decode cX3_carry 26 = .ok (.istore 7, 2) := by decide +kernel
theorem dX3_carry_28 : decode cX3_carry 28 = .ok (.iload 5, 2) := by decide +kernel
theorem dX3_carry_30 : decode cX3_carry 30 = .ok (.istore 8, 2) := by decide +kernel
theorem dX3_carry_32 : decode cX3_carry 32 = .ok (.iload 8, 2) := by decide +kernel
theorem dX3_carry_34 : decode cX3_carry 34 = .ok (.iload 6, 2) := by decide +kernel
theorem dX3_carry_36 : decode cX3_carry 36 = .ok (.iconst 1, 1) := by decide +kernel
theorem dX3_carry_37 : decode cX3_carry 37 = .ok (.isub, 1) := by decide +kernel
theorem dX3_carry_38 : decode cX3_carry 38 = .ok (.if_icmp .ge 25, 3) := by decide +kernel
theorem dX3_carry_41 : decode cX3_carry 41 = .ok (.aload_n 0, 1) := by decide +kernel
theorem dX3_carry_42 : decode cX3_carry 42 = .ok (.getfield 9, 3) := by decide +kernel
theorem dX3_carry_45 : decode cX3_carry 45 = .ok (.iload 8, 2) := by decide +kernel
theorem dX3_carry_47 : decode cX3_carry 47 = .ok (.aload_n 0, 1) := by decide +kernel
theorem dX3_carry_48 : decode cX3_carry 48 = .ok (.getfield 9, 3) := by decide +kernel
theorem dX3_carry_51 : decode cX3_carry 51 = .ok (.iload 8, 2) := by decide +kernel
theorem dX3_carry_53 : decode cX3_carry 53 = .ok (.iconst 1, 1) := by decide +kernel
theorem dX3_carry_54 : decode cX3_carry 54 = .ok (.iadd, 1) := by decide +kernel
theorem dX3_carry_55 : decode cX3_carry 55 = .ok (.iaload, 1) := by decide +kernel
theorem dX3_carry_56 : decode cX3_carry 56 = .ok (.iastore, 1) := by decide +kernel
theorem dX3_carry_57 : decode cX3_carry 57 = .ok (.iinc 8 1, 3) := by decide +kernel
theorem dX3_carry_60 : decode cX3_carry 60 = .ok (.goto (-28), 3) := by decide +kernel
theorem dX3_carry_63 : decode cX3_carry 63 = .ok (.iload 5, 2) := by decide +kernel
theorem dX3_carry_65 : decode cX3_carry 65 = .ok (.istore 8, 2) := by decide +kernel
theorem dX3_carry_67 : decode cX3_carry 67 = .ok (.iload 8, 2) := by decide +kernel
theorem dX3_carry_69 : decode cX3_carry 69 = .ok (.iload 6, 2) := by decide +kernel
theorem dX3_carry_71 : decode cX3_carry 71 = .ok (.if_icmp .le 25, 3) := by decide +kernel
theorem dX3_carry_74 : decode cX3_carry 74 = .ok (.aload_n 0, 1) := by decide +kernel
theorem dX3_carry_75 : decode cX3_carry 75 = .ok (.getfield 9, 3) := by decide +kernel
theorem dX3_carry_78 : decode cX3_carry 78 = .ok (.iload 8, 2) := by decide +kernel
theorem dX3_carry_80 : decode cX3_carry 80 = .ok (.aload_n 0, 1) := by decide +kernel
theorem dX3_carry_81 : decode cX3_carry 81 = .ok (.getfield 9, 3) := by decide +kernel
theorem dX3_carry_84 : decode cX3_carry 84 = .ok (.iload 8, 2) := by decide +kernel
theorem dX3_carry_86 : decode cX3_carry 86 = .ok (.iconst 1, 1) := by decide +kernel
theorem dX3_carry_87 : decode cX3_carry 87 = .ok (.isub, 1) := by decide +kernel
theorem dX3_carry_88 : decode cX3_carry 88 = .ok (.iaload, 1) := by decide +kernel
theorem dX3_carry_89 : decode cX3_carry 89 = .ok (.iastore, 1) := by decide +kernel
theorem dX3_carry_90 : decode cX3_carry 90 = .ok (.iinc 8 (-1), 3) := by decide +kernel
theorem dX3_carry_93 : decode cX3_carry 93 = .ok (.goto (-26), 3) := by decide +kernel
theorem dX3_carry_96 : decode cX3_carry 96 = .ok (.aload_n 0, 1) := by decide +kernel
theorem dX3_carry_97 : decode cX3_carry 97 = .ok (.getfield 9, 3) := by decide +kernel
theorem dX3_carry_100 : decode cX3_carry 100 = .ok (.iload 5, 2) := by decide +kernel
theorem dX3_carry_102 : decode cX3_carry 102 = .ok (.iload 6, 2) := by decide +kernel
theorem dX3_carry_104 : decode cX3_carry 104 = .ok (.if_icmp .ge 10, 3) := by decide +kernel
theorem dX3_carry_107 : decode cX3_carry 107 = .ok (.iload 6, 2) := by decide +kernel
theorem dX3_carry_109 : decode cX3_carry 109 = .ok (.iconst 1, 1) := by decide +kernel
theorem dX3_carry_110 : decode cX3_carry 110 = .ok (.isub, 1) := by decide +kernel
theorem dX3_carry_111 : decode cX3_carry 111 = .ok (.goto 5, 3) := by decide +kernel
theorem dX3_carry_114 : decode cX3_carry 114 = .ok (.iload 6, 2) := by decide +kernel
theorem dX3_carry_116 : decode cX3_carry 116 = .ok (.iload 7, 2) := by decide +kernel
theorem dX3_carry_118 : decode cX3_carry 118 = .ok (.iastore, 1) := by decide +kernel
theorem dX3_carry_119 : decode cX3_carry 119 = .ok (.aload_n 0, 1) := by decide +kernel
theorem dX3_carry_120 : decode cX3_carry 120 = .ok (.getfield 15, 3) := by decide +kernel
theorem dX3_carry_123 : decode cX3_carry 123 = .ok (.iload_n 1, 1) := by decide +kernel
theorem dX3_carry_124 : decode cX3_carry 124 = .ok (.dup2, 1) := by decide +kernel
theorem dX3_carry_125 : decode cX3_carry 125 = .ok (.iaload, 1) := by decide +kernel
theorem dX3_carry_126 : decode cX3_carry 126 = .ok (.iconst 1, 1) := by decide +kernel
theorem dX3_carry_127 : decode cX3_carry 127 = .ok (.isub, 1) := by decide +kernel
theorem dX3_carry_128 : decode cX3_carry 128 = .ok (.iastore, 1) := by decide +kernel
theorem dX3_carry_129 : decode cX3_carry 129 = .ok (.aload_n 0, 1) := by decide +kernel
theorem dX3_carry_130 : decode cX3_carry 130 = .ok (.getfield 15, 3) := by decide +kernel
theorem dX3_carry_133 : decode cX3_carry 133 = .ok (.iload_n 3, 1) := by decide +kernel
theorem dX3_carry_134 : decode cX3_carry 134 = .ok (.dup2, 1) := by decide +kernel
theorem dX3_carry_135 : decode cX3_carry 135 = .ok (.iaload, 1) := by decide +kernel
theorem dX3_carry_136 : decode cX3_carry 136 = .ok (.iconst 1, 1) := by decide +kernel
theorem dX3_carry_137 : decode cX3_carry 137 = .ok (.iadd, 1) := by decide +kernel
theorem dX3_carry_138 : decode cX3_carry 138 = .ok (.iastore, 1) := by decide +kernel
theorem dX3_carry_139 : decode cX3_carry 139 = .ok (.return_, 1) := by decide +kernel
theorem dX4_init_0 : decode cX4_init 0 = .ok (.aload_n 0, 1) := by decide +kernel
theorem dX4_init_1 : decode cX4_init 1 = .ok (.invokespecial 3, 3) := by decide +kernel
theorem dX4_init_4 : decode cX4_init 4 = .ok (.aload_n 0, 1) := by decide +kernel
theorem dX4_init_5 : decode cX4_init 5 = .ok (.aload_n 1, 1) := by decide +kernel
theorem dX4_init_6 : decode cX4_init 6 = .ok (.putfield 9, 3) := by decide +kernel
theorem dX4_init_9 : decode cX4_init 9 = .ok (.aload_n 0, 1) := by decide +kernel
theorem dX4_init_10 : decode cX4_init 10 = .ok (.aload_n 2, 1) := by decide +kernel
theorem dX4_init_11 : decode cX4_init 11 = .ok (.putfield 15, 3) := by decide +kernel
theorem dX4_init_14 : decode cX4_init 14 = .ok (.aload_n 0, 1) := by decide +kernel
theorem dX4_init_15 : decode cX4_init 15 = .ok (.aload_n 3, 1) := by decide +kernel
theorem dX4_init_16 : decode cX4_init 16 = .ok (.putfield 19, 3) := by decide +kernel
theorem dX4_init_19 : decode cX4_init 19 = .ok (.return_, 1) := by decide +kernel
theorem dX4_faultKind_0 : decode cX4_faultKind 0 = .ok (.aload_n 0, 1) := by decide +kernel
theorem dX4_faultKind_1 : decode cX4_faultKind 1 = .ok (.getfield 23, 3) := by decide +kernel
theorem dX4_faultKind_4 : decode cX4_faultKind 4 = .ok (.ireturn, 1) := by decide +kernel
theorem dX4_readAll_0 : decode cX4_readAll 0 = .ok (.aload_n 0, 1) := by decide +kernel
theorem dX4_readAll_1 : decode cX4_readAll 1 = .ok (.iload_n 1, 1) := by decide +kernel
theorem dX4_readAll_2 : decode cX4_readAll 2 = .ok (.aload_n 0, 1) := by decide +kernel
theorem dX4_readAll_3 : decode cX4_readAll 3 = .ok (.getfield 9, 3) := by decide +kernel
theorem dX4_readAll_6 : decode cX4_readAll 6 = .ok (.arraylength, 1) := by decide +kernel
theorem dX4_readAll_7 : decode cX4_readAll 7 = .ok (.invokestatic 27, 3) := by decide +kernel
theorem dX4_readAll_10 : decode cX4_readAll 10 = .ok (.putfield 33, 3) := by decide +kernel
theorem dX4_readAll_13 : decode cX4_readAll 13 = .ok (.aload_n 0, 1) := by decide +kernel
theorem dX4_readAll_14 : decode cX4_readAll 14 = .ok (.iconst 0, 1) := by decide +kernel
theorem dX4_readAll_15 : decode cX4_readAll 15 = .ok (.putfield 36, 3) := by decide +kernel
theorem dX4_readAll_18 : decode cX4_readAll 18 = .ok (.aload_n 0, 1) := by decide +kernel
theorem dX4_readAll_19 : decode cX4_readAll 19 = .ok (.iconst 0, 1) := by decide +kernel
theorem dX4_readAll_20 : decode cX4_readAll 20 = .ok (.putfield 39, 3) := by decide +kernel
theorem dX4_readAll_23 : decode cX4_readAll 23 = .ok (.aload_n 0, 1) := by decide +kernel
theorem dX4_readAll_24 : decode cX4_readAll 24 = .ok (.iconst 0, 1) := by decide +kernel
theorem dX4_readAll_25 : decode cX4_readAll 25 = .ok (.putfield 23, 3) := by decide +kernel
theorem dX4_readAll_28 : decode cX4_readAll 28 = .ok (.aload_n 0, 1) := by decide +kernel
theorem dX4_readAll_29 : decode cX4_readAll 29 = .ok (.getfield 15, 3) := by decide +kernel
theorem dX4_readAll_32 : decode cX4_readAll 32 = .ok (.iconst 0, 1) := by decide +kernel
theorem dX4_readAll_33 : decode cX4_readAll 33 = .ok (.putfield 42, 3) := by decide +kernel
theorem dX4_readAll_36 : decode cX4_readAll 36 = .ok (.aload_n 0, 1) := by decide +kernel
theorem dX4_readAll_37 : decode cX4_readAll 37 = .ok (.getfield 19, 3) := by decide +kernel
theorem dX4_readAll_40 : decode cX4_readAll 40 = .ok (.invokevirtual 47, 3) := by decide +kernel
theorem dX4_readAll_43 : decode cX4_readAll 43 = .ok (.iconst 0, 1) := by decide +kernel
theorem dX4_readAll_44 : decode cX4_readAll 44 = .ok (.istore_n 2, 1) := by decide +kernel
theorem dX4_readAll_45 : decode cX4_readAll 45 = .ok (.iload_n 2, 1) := by decide +kernel
theorem dX4_readAll_46 : decode cX4_readAll 46 = .ok (.sipush 400, 3) := by decide +kernel
theorem dX4_readAll_49 : decode cX4_readAll 49 = .ok (.if_icmp .gt 33, 3) := by decide +kernel
theorem dX4_readAll_52 : decode cX4_readAll 52 = .ok (.aload_n 0, 1) := by decide +kernel
theorem dX4_readAll_53 : decode cX4_readAll 53 = .ok (.invokevirtual 52, 3) := by decide +kernel
theorem dX4_readAll_56 : decode cX4_readAll 56 = .ok (.aload_n 0, 1) := by decide +kernel
theorem dX4_readAll_57 : decode cX4_readAll 57 = .ok (.getfield 55, 3) := by decide +kernel
theorem dX4_readAll_60 : decode cX4_readAll 60 = .ok (.iconst 5, 1) := by decide +kernel
theorem dX4_readAll_61 : decode cX4_readAll 61 = .ok (.if_icmp .ne 5, 3) := by decide +kernel
theorem dX4_readAll_64 : decode cX4_readAll 64 = .ok (.iload_n 2, 1) := by decide +kernel
theorem dX4_readAll_65 : decode cX4_readAll 65 = .ok (.ireturn, 1) := by decide +kernel
theorem dX4_readAll_66 : decode cX4_readAll 66 = .ok (.aload_n 0, 1) := by decide +kernel
theorem dX4_readAll_67 : decode cX4_readAll 67 = .ok (.invokevirtual 58, 3) := by decide +kernel
theorem dX4_readAll_70 : decode cX4_readAll 70 = .ok (.ifCond .ne 6, 3) := by decide +kernel
theorem dX4_readAll_73 : decode cX4_readAll 73 = .ok (.goto 9, 3) := by decide +kernel
theorem dX4_readAll_76 : decode cX4_readAll 76 = .ok (.iinc 2 1, 3) := by decide +kernel
theorem dX4_readAll_79 : decode cX4_readAll 79 = .ok (.goto (-34), 3) := by decide +kernel
theorem dX4_readAll_82 : decode cX4_readAll 82 = .ok (.bipush (-10), 2) := by decide +kernel
theorem dX4_readAll_84 : decode cX4_readAll 84 = .ok (.aload_n 0, 1) := by decide +kernel
theorem dX4_readAll_85 : decode cX4_readAll 85 = .ok (.getfield 62, 3) := by decide +kernel
theorem dX4_readAll_88 : decode cX4_readAll 88 = .ok (.isub, 1) := by decide +kernel
theorem dX4_readAll_89 : decode cX4_readAll 89 = .ok (.ireturn, 1) := by decide +kernel
theorem dX4_readLine_0 : decode cX4_readLine 0 = .ok (.aload_n 0, 1) := by decide +kernel
theorem dX4_readLine_1 : decode cX4_readLine 1 = .ok (.getfield 55, 3) := by decide +kernel
theorem dX4_readLine_4 : decode cX4_readLine 4 = .ok (.iconst 1, 1) := by decide +kernel
theorem dX4_readLine_5 : decode cX4_readLine 5 = .ok (.if_icmp .eq 9, 3) := by decide +kernel
theorem dX4_readLine_8 : decode cX4_readLine 8 = .ok (.aload_n 0, 1) := by decide +kernel
theorem dX4_readLine_9 : decode cX4_readLine 9 = .ok (.iconst 2, 1) := by decide +kernel
theorem dX4_readLine_10 : decode cX4_readLine 10 = .ok (.invokevirtual 65, 3) := by decide +kernel
theorem dX4_readLine_13 : decode cX4_readLine 13 = .ok (.ireturn, 1) := by decide +kernel
theorem dX4_readLine_14 : decode cX4_readLine 14 = .ok (.aload_n 0, 1) := by decide +kernel
theorem dX4_readLine_15 : decode cX4_readLine 15 = .ok (.ldc 69, 2) := by decide +kernel
theorem dX4_readLine_17 : decode cX4_readLine 17 = .ok (.invokevirtual 71, 3) := by decide +kernel
theorem dX4_readLine_20 : decode cX4_readLine 20 = .ok (.ifCond .eq 8, 3) := by decide +kernel
theorem dX4_readLine_23 : decode cX4_readLine 23 = .ok (.aload_n 0, 1) := by decide +kernel
theorem dX4_readLine_24 : decode cX4_readLine 24 = .ok (.invokevirtual 75, 3) := by decide +kernel
theorem dX4_readLine_27 : decode cX4_readLine 27 = .ok (.ireturn, 1) := by decide +kernel
theorem dX4_readLine_28 : decode cX4_readLine 28 = .ok (.aload_n 0, 1) := by decide +kernel
theorem dX4_readLine_29 : decode cX4_readLine 29 = .ok (.ldc 78, 2) := by decide +kernel
theorem dX4_readLine_31 : decode cX4_readLine 31 = .ok (.invokevirtual 71, 3) := by decide +kernel
theorem dX4_readLine_34 : decode cX4_readLine 34 = .ok (.ifCond .eq 28, 3) := by decide +kernel
theorem dX4_readLine_37 : decode cX4_readLine 37 = .ok (.aload_n 0, 1) := by decide +kernel
theorem dX4_readLine_38 : decode cX4_readLine 38 = .ok (.getfield 15, 3) := by decide +kernel
theorem dX4_readLine_41 : decode cX4_readLine 41 = .ok (.getfield 42, 3) := by decide +kernel
theorem dX4_readLine_44 : decode cX4_readLine 44 = .ok (.bipush 6, 2) := by decide +kernel
theorem dX4_readLine_46 : decode cX4_readLine 46 = .ok (.if_icmp .lt 11, 3) := by decide +kernel
theorem dX4_readLine_49 : decode cX4_readLine 49 = .ok (.aload_n 0, 1) := by decide +kernel
theorem dX4_readLine_50 : decode cX4_readLine 50 = .ok (.iconst 5, 1) := by decide +kernel
theorem dX4_readLine_51 : decode cX4_readLine 51 = .ok (.invokevirtual 65, 3) := by decide +kernel
theorem dX4_readLine_54 : decode cX4_readLine 54 = .ok (.goto 7, 3) := by decide +kernel
theorem dX4_readLine_57 : decode cX4_readLine 57 = .ok (.aload_n 0, 1) := by decide +kernel
theorem dX4_readLine_58 : decode cX4_readLine 58 = .ok (.invokevirtual 80, 3) := by decide +kernel
theorem dX4_readLine_61 : decode cX4_readLine 61 = .ok (.ireturn, 1) := by decide +kernel
theorem dX4_readLine_62 : decode cX4_readLine 62 = .ok (.aload_n 0, 1) := by decide +kernel
theorem dX4_readLine_63 : decode cX4_readLine 63 = .ok (.ldc 83, 2) := by decide +kernel
theorem dX4_readLine_65 : decode cX4_readLine 65 = .ok (.invokevirtual 71, 3) := by decide +kernel
theorem dX4_readLine_68 : decode cX4_readLine 68 = .ok (.ifCond .eq 28, 3) := by decide +kernel
theorem dX4_readLine_71 : decode cX4_readLine 71 = .ok (.aload_n 0, 1) := by decide +kernel
theorem dX4_readLine_72 : decode cX4_readLine 72 = .ok (.getfield 19, 3) := by decide +kernel
theorem dX4_readLine_75 : decode cX4_readLine 75 = .ok (.getfield 85, 3) := by decide +kernel
theorem dX4_readLine_78 : decode cX4_readLine 78 = .ok (.bipush 8, 2) := by decide +kernel
theorem dX4_readLine_80 : decode cX4_readLine 80 = .ok (.if_icmp .lt 11, 3) := by decide +kernel
theorem dX4_readLine_83 : decode cX4_readLine 83 = .ok (.aload_n 0, 1) := by decide +kernel
theorem dX4_readLine_84 : decode cX4_readLine 84 = .ok (.iconst 5, 1) := by decide +kernel
theorem dX4_readLine_85 : decode cX4_readLine 85 = .ok (.invokevirtual 65, 3) := by decide +kernel
theorem dX4_readLine_88 : decode cX4_readLine 88 = .ok (.goto 7, 3) := by decide +kernel
theorem dX4_readLine_91 : decode cX4_readLine 91 = .ok (.aload_n 0, 1) := by decide +kernel
theorem dX4_readLine_92 : decode cX4_readLine 92 = .ok (.invokevirtual 86, 3) := by decide +kernel
theorem dX4_readLine_95 : decode cX4_readLine 95 = .ok (.ireturn, 1) := by decide +kernel
theorem dX4_readLine_96 : decode cX4_readLine 96 = .ok (.aload_n 0, 1) := by decide +kernel
theorem dX4_readLine_97 : decode cX4_readLine 97 = .ok (.iconst 2, 1) := by decide +kernel
theorem dX4_readLine_98 : decode cX4_readLine 98 = .ok (.invokevirtual 65, 3) := by decide +kernel
theorem dX4_readLine_101 : decode cX4_readLine 101 = .ok (.ireturn, 1) := by decide +kernel
theorem dX4_readSetting_0 : decode cX4_readSetting 0 = .ok (.aload_n 0, 1) := by decide +kernel
theorem dX4_readSetting_1 : decode cX4_readSetting 1 = .ok (.invokevirtual 52, 3) := by decide +kernel
theorem dX4_readSetting_4 : decode cX4_readSetting 4 = .ok (.aload_n 0, 1) := by decide +kernel
theorem dX4_readSetting_5 : decode cX4_readSetting 5 = .ok (.getfield 55, 3) := by decide +kernel
theorem dX4_readSetting_8 : decode cX4_readSetting 8 = .ok (.iconst 1, 1) := by decide +kernel
theorem dX4_readSetting_9 : decode cX4_readSetting 9 = .ok (.if_icmp .ne 10, 3) := by decide +kernel
theorem dX4_readSetting_12 : decode cX4_readSetting 12 = .ok (.aload_n 0, 1) := by decide +kernel
theorem dX4_readSetting_13 : decode cX4_readSetting 13 = .ok (.invokevirtual 89, 3) := by decide +kernel
theorem dX4_readSetting_16 : decode cX4_readSetting 16 = .ok (.goto 5, 3) := by decide +kernel
theorem dX4_readSetting_19 : decode cX4_readSetting 19 = .ok (.bipush (-4), 2) := by decide +kernel
theorem dX4_readSetting_21 : decode cX4_readSetting 21 = .ok (.istore_n 1, 1) := by decide +kernel
theorem dX4_readSetting_22 : decode cX4_readSetting 22 = .ok (.iload_n 1, 1) := by decide +kernel
theorem dX4_readSetting_23 : decode cX4_readSetting 23 = .ok (.ifCond .ge 9, 3) := by decide +kernel
theorem dX4_readSetting_26 : decode cX4_readSetting 26 = .ok (.aload_n 0, 1) := by decide +kernel
theorem dX4_readSetting_27 : decode cX4_readSetting 27 = .ok (.iconst 2, 1) := by decide +kernel
theorem dX4_readSetting_28 : decode cX4_readSetting 28 = .ok (.invokevirtual 65, 3) := by decide +kernel
theorem dX4_readSetting_31 : decode cX4_readSetting 31 = .ok (.ireturn, 1) := by decide +kernel
theorem dX4_readSetting_32 : decode cX4_readSetting 32 = .ok (.iconst 1, 1) := by decide +kernel
theorem dX4_readSetting_33 : decode cX4_readSetting 33 = .ok (.iload_n 1, 1) := by decide +kernel
theorem dX4_readSetting_34 : decode cX4_readSetting 34 = .ok (.ishl, 1) := by decide +kernel
theorem dX4_readSetting_35 : decode cX4_readSetting 35 = .ok (.istore_n 2, 1) := by decide +kernel
theorem dX4_readSetting_36 : decode cX4_readSetting 36 = .ok (.aload_n 0, 1) := by decide +kernel
theorem dX4_readSetting_37 : decode cX4_readSetting 37 = .ok (.getfield 39, 3) := by decide +kernel
theorem dX4_readSetting_40 : decode cX4_readSetting 40 = .ok (.iload_n 2, 1) := by decide +kernel
theorem dX4_readSetting_41 : decode cX4_readSetting 41 = .ok (.iand, 1) := by decide +kernel
theorem dX4_readSetting_42 : decode cX4_readSetting 42 = .ok (.ifCond .eq 9, 3) := by decide +kernel
theorem dX4_readSetting_45 : decode cX4_readSetting 45 = .ok (.aload_n 0, 1) := by decide +kernel
theorem dX4_readSetting_46 : decode cX4_readSetting 46 = .ok (.iconst 4, 1) := by decide +kernel
theorem dX4_readSetting_47 : decode cX4_readSetting 47 = .ok (.invokevirtual 65, 3) := by decide +kernel
theorem dX4_readSetting_50 : decode cX4_readSetting 50 = .ok (.ireturn, 1) := by decide +kernel
theorem dX4_readSetting_51 : decode cX4_readSetting 51 = .ok (.aload_n 0, 1) := by decide +kernel
theorem dX4_readSetting_52 : decode cX4_readSetting 52 = .ok (.getstatic 93, 3) := by decide +kernel
theorem dX4_readSetting_55 : decode cX4_readSetting 55 = .ok (.iload_n 1, 1) := by decide +kernel
theorem dX4_readSetting_56 : decode cX4_readSetting 56 = .ok (.iaload, 1) := by decide +kernel
theorem dX4_readSetting_57 : decode cX4_readSetting 57 = .ok (.getstatic 97, 3) := by decide +kernel
theorem dX4_readSetting_60 : decode cX4_readSetting 60 = .ok (.iload_n 1, 1) := by decide +kernel
theorem dX4_readSetting_61 : decode cX4_readSetting 61 = .ok (.iaload, 1) := by decide +kernel
theorem dX4_readSetting_62 : decode cX4_readSetting 62 = .ok (.invokevirtual 100, 3) := by decide +kernel
theorem dX4_readSetting_65 : decode cX4_readSetting 65 = .ok (.ifCond .ne 5, 3) := by decide +kernel
theorem dX4_readSetting_68 : decode cX4_readSetting 68 = .ok (.iconst 0, 1) := by decide +kernel
theorem dX4_readSetting_69 : decode cX4_readSetting 69 = .ok (.ireturn, 1) := by decide +kernel
theorem dX4_readSetting_70 : decode cX4_readSetting 70 = .ok (.aload_n 0, 1) := by decide +kernel
theorem dX4_readSetting_71 : decode cX4_readSetting 71 = .ok (.dup, 1) := by decide +kernel
theorem dX4_readSetting_72 : decode cX4_readSetting 72 = .ok (.getfield 39, 3) := by decide +kernel
theorem dX4_readSetting_75 : decode cX4_readSetting 75 = .ok (.iload_n 2, 1) := by decide +kernel
theorem dX4_readSetting_76 : decode cX4_readSetting 76 = .ok (.ior, 1) := by decide +kernel
theorem dX4_readSetting_77 : decode cX4_readSetting 77 = .ok (.putfield 39, 3) := by decide +kernel
theorem dX4_readSetting_80 : decode cX4_readSetting 80 = .ok (.aload_n 0, 1) := by decide +kernel
theorem dX4_readSetting_81 : decode cX4_readSetting 81 = .ok (.getfield 19, 3) := by decide +kernel
theorem dX4_readSetting_84 : decode cX4_readSetting 84 = .ok (.getfield 104, 3) := by decide +kernel
theorem dX4_readSetting_87 : decode cX4_readSetting 87 = .ok (.iload_n 1, 1) := by decide +kernel
theorem dX4_readSetting_88 : decode cX4_readSetting 88 = .ok (.aload_n 0, 1) := by decide +kernel
theorem dX4_readSetting_89 : decode cX4_readSetting 89 = .ok (.getfield 107, 3) := by decide +kernel
theorem dX4_readSetting_92 : decode cX4_readSetting 92 = .ok (.iastore, 1) := by decide +kernel
theorem dX4_readSetting_93 : decode cX4_readSetting 93 = .ok (.aload_n 0, 1) := by decide +kernel
theorem dX4_readSetting_94 : decode cX4_readSetting 94 = .ok (.invokevirtual 52, 3) := by decide +kernel
theorem dX4_readSetting_97 : decode cX4_readSetting 97 = .ok (.aload_n 0, 1) := by decide +kernel
theorem dX4_readSetting_98 : decode cX4_readSetting 98 = .ok (.getfield 55, 3) := by decide +kernel
theorem dX4_readSetting_101 : decode cX4_readSetting 101 = .ok (.iconst 4, 1) := by decide +kernel
theorem dX4_readSetting_102 : decode cX4_readSetting 102 = .ok (.if_icmp .eq 11, 3) := by decide +kernel
theorem dX4_readSetting_105 : decode cX4_readSetting 105 = .ok (.aload_n 0, 1) := by decide +kernel
theorem dX4_readSetting_106 : decode cX4_readSetting 106 = .ok (.iconst 2, 1) := by decide +kernel
theorem dX4_readSetting_107 : decode cX4_readSetting 107 = .ok (.invokevirtual 65, 3) := by decide +kernel
theorem dX4_readSetting_110 : decode cX4_readSetting 110 = .ok (.ifCond .eq 7, 3) := by decide +kernel
theorem dX4_readSetting_113 : decode cX4_readSetting 113 = .ok (.iconst 1, 1) := by decide +kernel
theorem dX4_readSetting_114 : decode cX4_readSetting 114 = .ok (.goto 4, 3) := by decide +kernel
theorem dX4_readSetting_117 : decode cX4_readSetting 117 = .ok (.iconst 0, 1) := by decide +kernel
theorem dX4_readSetting_118 : decode cX4_readSetting 118 = .ok (.ireturn, 1) := by decide +kernel
theorem dX4_readShape_0 : decode cX4_readShape 0 = .ok (.aload_n 0, 1) := by decide +kernel
theorem dX4_readShape_1 : decode cX4_readShape 1 = .ok (.invokevirtual 52, 3) := by decide +kernel
theorem dX4_readShape_4 : decode cX4_readShape 4 = .ok (.aload_n 0, 1) := by decide +kernel
theorem dX4_readShape_5 : decode cX4_readShape 5 = .ok (.getfield 55, 3) := by decide +kernel
theorem dX4_readShape_8 : decode cX4_readShape 8 = .ok (.iconst 1, 1) := by decide +kernel
theorem dX4_readShape_9 : decode cX4_readShape 9 = .ok (.if_icmp .ne 11, 3) := by decide +kernel
theorem dX4_readShape_12 : decode cX4_readShape 12 = .ok (.aload_n 0, 1) := by decide +kernel
theorem dX4_readShape_13 : decode cX4_readShape 13 = .ok (.getfield 110, 3) := by decide +kernel
theorem dX4_readShape_16 : decode cX4_readShape 16 = .ok (.iconst 1, 1) := by decide +kernel
theorem dX4_readShape_17 : decode cX4_readShape 17 = .ok (.if_icmp .eq 9, 3) := by decide +kernel
theorem dX4_readShape_20 : decode cX4_readShape 20 = .ok (.aload_n 0, 1) := by decide +kernel
theorem dX4_readShape_21 : decode cX4_readShape 21 = .ok (.iconst 2, 1) := by decide +kernel
theorem dX4_readShape_22 : decode cX4_readShape 22 = .ok (.invokevirtual 65, 3) := by decide +kernel
theorem dX4_readShape_25 : decode cX4_readShape 25 = .ok (.ireturn, 1) := by decide +kernel
theorem dX4_readShape_26 : decode cX4_readShape 26 = .ok (.aload_n 0, 1) := by decide +kernel
theorem dX4_readShape_27 : decode cX4_readShape 27 = .ok (.aload_n 0, 1) := by decide +kernel
theorem dX4_readShape_28 : decode cX4_readShape 28 = .ok (.getfield 62, 3) := by decide +kernel
theorem dX4_readShape_31 : decode cX4_readShape 31 = .ok (.invokevirtual 113, 3) := by decide +kernel
theorem dX4_readShape_34 : decode cX4_readShape 34 = .ok (.istore_n 1, 1) := by decide +kernel
theorem dX4_readShape_35 : decode cX4_readShape 35 = .ok (.aload_n 0, 1) := by decide +kernel
theorem dX4_readShape_36 : decode cX4_readShape 36 = .ok (.getfield 15, 3) := by decide +kernel
theorem dX4_readShape_39 : decode cX4_readShape 39 = .ok (.iload_n 1, 1) := by decide +kernel
theorem dX4_readShape_40 : decode cX4_readShape 40 = .ok (.invokevirtual 117, 3) := by decide +kernel
theorem dX4_readShape_43 : decode cX4_readShape 43 = .ok (.ifCond .lt 9, 3) := by decide +kernel
theorem dX4_readShape_46 : decode cX4_readShape 46 = .ok (.aload_n 0, 1) := by decide +kernel
theorem dX4_readShape_47 : decode cX4_readShape 47 = .ok (.iconst 4, 1) := by decide +kernel
theorem dX4_readShape_48 : decode cX4_readShape 48 = .ok (.invokevirtual 65, 3) := by decide +kernel
theorem dX4_readShape_51 : decode cX4_readShape 51 = .ok (.ireturn, 1) := by decide +kernel
theorem dX4_readShape_52 : decode cX4_readShape 52 = .ok (.aload_n 0, 1) := by decide +kernel
theorem dX4_readShape_53 : decode cX4_readShape 53 = .ok (.iconst 1, 1) := by decide +kernel
theorem dX4_readShape_54 : decode cX4_readShape 54 = .ok (.bipush 60, 2) := by decide +kernel
theorem dX4_readShape_56 : decode cX4_readShape 56 = .ok (.invokevirtual 100, 3) := by decide +kernel
theorem dX4_readShape_59 : decode cX4_readShape 59 = .ok (.ifCond .ne 5, 3) := by decide +kernel
theorem dX4_readShape_62 : decode cX4_readShape 62 = .ok (.iconst 0, 1) := by decide +kernel
theorem dX4_readShape_63 : decode cX4_readShape 63 = .ok (.ireturn, 1) := by decide +kernel
theorem dX4_readShape_64 : decode cX4_readShape 64 = .ok (.aload_n 0, 1) := by decide +kernel
theorem dX4_readShape_65 : decode cX4_readShape 65 = .ok (.getfield 107, 3) := by decide +kernel
theorem dX4_readShape_68 : decode cX4_readShape 68 = .ok (.istore_n 2, 1) := by decide +kernel
theorem dX4_readShape_69 : decode cX4_readShape 69 = .ok (.aload_n 0, 1) := by decide +kernel
theorem dX4_readShape_70 : decode cX4_readShape 70 = .ok (.getfield 15, 3) := by decide +kernel
theorem dX4_readShape_73 : decode cX4_readShape 73 = .ok (.iload_n 1, 1) := by decide +kernel
theorem dX4_readShape_74 : decode cX4_readShape 74 = .ok (.iload_n 2, 1) := by decide +kernel
theorem dX4_readShape_75 : decode cX4_readShape 75 = .ok (.invokevirtual 120, 3) := by decide +kernel
theorem dX4_readShape_78 : decode cX4_readShape 78 = .ok (.iconst 0, 1) := by decide +kernel
theorem dX4_readShape_79 : decode cX4_readShape 79 = .ok (.istore_n 3, 1) := by decide +kernel
theorem dX4_readShape_80 : decode cX4_readShape 80 = .ok (.iconst 0, 1) := by decide +kernel
theorem dX4_readShape_81 : decode cX4_readShape 81 = .ok (.istore 4, 2) := by decide +kernel
theorem dX4_readShape_83 : decode cX4_readShape 83 = .ok (.iload 4, 2) := by decide +kernel
theorem dX4_readShape_85 : decode cX4_readShape 85 = .ok (.bipush 8, 2) := by decide +kernel
theorem dX4_readShape_87 : decode cX4_readShape 87 = .ok (.if_icmp .gt 118, 3) := by decide +kernel
theorem dX4_readShape_90 : decode cX4_readShape 90 = .ok (.aload_n 0, 1) := by decide +kernel
theorem dX4_readShape_91 : decode cX4_readShape 91 = .ok (.invokevirtual 52, 3) := by decide +kernel
theorem dX4_readShape_94 : decode cX4_readShape 94 = .ok (.aload_n 0, 1) := by decide +kernel
theorem dX4_readShape_95 : decode cX4_readShape 95 = .ok (.getfield 55, 3) := by decide +kernel
theorem dX4_readShape_98 : decode cX4_readShape 98 = .ok (.iconst 4, 1) := by decide +kernel
theorem dX4_readShape_99 : decode cX4_readShape 99 = .ok (.if_icmp .ne 10, 3) := by decide +kernel
theorem dX4_readShape_102 : decode cX4_readShape 102 = .ok (.iload 4, 2) := by decide +kernel
theorem dX4_readShape_104 : decode cX4_readShape 104 = .ok (.ifCond .le 5, 3) := by decide +kernel
theorem dX4_readShape_107 : decode cX4_readShape 107 = .ok (.iconst 1, 1) := by decide +kernel
theorem dX4_readShape_108 : decode cX4_readShape 108 = .ok (.ireturn, 1) := by decide +kernel
theorem dX4_readShape_109 : decode cX4_readShape 109 = .ok (.aload_n 0, 1) := by decide +kernel
theorem dX4_readShape_110 : decode cX4_readShape 110 = .ok (.getfield 55, 3) := by decide +kernel
theorem dX4_readShape_113 : decode cX4_readShape 113 = .ok (.iconst 2, 1) := by decide +kernel
theorem dX4_readShape_114 : decode cX4_readShape 114 = .ok (.if_icmp .ne 10, 3) := by decide +kernel
theorem dX4_readShape_117 : decode cX4_readShape 117 = .ok (.iload 4, 2) := by decide +kernel
theorem dX4_readShape_119 : decode cX4_readShape 119 = .ok (.bipush 8, 2) := by decide +kernel
theorem dX4_readShape_121 : decode cX4_readShape 121 = .ok (.if_icmp .ne 9, 3) := by decide +kernel
theorem dX4_readShape_124 : decode cX4_readShape 124 = .ok (.aload_n 0, 1) := by decide +kernel
theorem dX4_readShape_125 : decode cX4_readShape 125 = .ok (.iconst 2, 1) := by decide +kernel
theorem dX4_readShape_126 : decode cX4_readShape 126 = .ok (.invokevirtual 65, 3) := by decide +kernel
theorem dX4_readShape_129 : decode cX4_readShape 129 = .ok (.ireturn, 1) := by decide +kernel
theorem dX4_readShape_130 : decode cX4_readShape 130 = .ok (.aload_n 0, 1) := by decide +kernel
theorem dX4_readShape_131 : decode cX4_readShape 131 = .ok (.getfield 107, 3) := by decide +kernel
theorem dX4_readShape_134 : decode cX4_readShape 134 = .ok (.istore 5, 2) := by decide +kernel
theorem dX4_readShape_136 : decode cX4_readShape 136 = .ok (.iload 4, 2) := by decide +kernel
theorem dX4_readShape_138 : decode cX4_readShape 138 = .ok (.ifCond .ne 7, 3) := by decide +kernel
theorem dX4_readShape_141 : decode cX4_readShape 141 = .ok (.iconst 0, 1) := by decide +kernel
theorem dX4_readShape_142 : decode cX4_readShape 142 = .ok (.goto 6, 3) := by decide +kernel
theorem dX4_readShape_145 : decode cX4_readShape 145 = .ok (.iload_n 2, 1) := by decide +kernel
theorem dX4_readShape_146 : decode cX4_readShape 146 = .ok (.iconst 1, 1) := by decide +kernel
theorem dX4_readShape_147 : decode cX4_readShape 147 = .ok (.isub, 1) := by decide +kernel
theorem dX4_readShape_148 : decode cX4_readShape 148 = .ok (.istore 6, 2) := by decide +kernel
theorem dX4_readShape_150 : decode cX4_readShape 150 = .ok (.iload 5, 2) := by decide +kernel
theorem dX4_readShape_152 : decode cX4_readShape 152 = .ok (.iload_n 3, 1) := by decide +kernel
theorem dX4_readShape_153 : decode cX4_readShape 153 = .ok (.if_icmp .lt 10, 3) := by decide +kernel
theorem dX4_readShape_156 : decode cX4_readShape 156 = .ok (.iload 5, 2) := by decide +kernel
theorem dX4_readShape_158 : decode cX4_readShape 158 = .ok (.iload 6, 2) := by decide +kernel
theorem dX4_readShape_160 : decode cX4_readShape 160 = .ok (.if_icmp .le 9, 3) := by decide +kernel
theorem dX4_readShape_163 : decode cX4_readShape 163 = .ok (.aload_n 0, 1) := by decide +kernel
theorem dX4_readShape_164 : decode cX4_readShape 164 = .ok (.iconst 3, 1) := by decide +kernel
theorem dX4_readShape_165 : decode cX4_readShape 165 = .ok (.invokevirtual 65, 3) := by decide +kernel
theorem dX4_readShape_168 : decode cX4_readShape 168 = .ok (.ireturn, 1) := by decide +kernel
theorem dX4_readShape_169 : decode cX4_readShape 169 = .ok (.aload_n 0, 1) := by decide +kernel
theorem dX4_readShape_170 : decode cX4_readShape 170 = .ok (.iconst 0, 1) := by decide +kernel
theorem dX4_readShape_171 : decode cX4_readShape 171 = .ok (.bipush 60, 2) := by decide +kernel
theorem dX4_readShape_173 : decode cX4_readShape 173 = .ok (.invokevirtual 100, 3) := by decide +kernel
theorem dX4_readShape_176 : decode cX4_readShape 176 = .ok (.ifCond .ne 5, 3) := by decide +kernel
theorem dX4_readShape_179 : decode cX4_readShape 179 = .ok (.iconst 0, 1) := by decide +kernel
theorem dX4_readShape_180 : decode cX4_readShape 180 = .ok (.ireturn, 1) := by decide +kernel
theorem dX4_readShape_181 : decode cX4_readShape 181 = .ok (.aload_n 0, 1) := by decide +kernel
theorem dX4_readShape_182 : decode cX4_readShape 182 = .ok (.getfield 15, 3) := by decide +kernel
theorem dX4_readShape_185 : decode cX4_readShape 185 = .ok (.iload 5, 2) := by decide +kernel
theorem dX4_readShape_187 : decode cX4_readShape 187 = .ok (.aload_n 0, 1) := by decide +kernel
theorem dX4_readShape_188 : decode cX4_readShape 188 = .ok (.getfield 107, 3) := by decide +kernel
theorem dX4_readShape_191 : decode cX4_readShape 191 = .ok (.invokevirtual 124, 3) := by decide +kernel
theorem dX4_readShape_194 : decode cX4_readShape 194 = .ok (.iload 5, 2) := by decide +kernel
theorem dX4_readShape_196 : decode cX4_readShape 196 = .ok (.iconst 1, 1) := by decide +kernel
theorem dX4_readShape_197 : decode cX4_readShape 197 = .ok (.iadd, 1) := by decide +kernel
theorem dX4_readShape_198 : decode cX4_readShape 198 = .ok (.istore_n 3, 1) := by decide +kernel
theorem dX4_readShape_199 : decode cX4_readShape 199 = .ok (.iinc 4 1, 3) := by decide +kernel
theorem dX4_readShape_202 : decode cX4_readShape 202 = .ok (.goto (-119), 3) := by decide +kernel
theorem dX4_readShape_205 : decode cX4_readShape 205 = .ok (.aload_n 0, 1) := by decide +kernel
theorem dX4_readShape_206 : decode cX4_readShape 206 = .ok (.iconst 2, 1) := by decide +kernel
theorem dX4_readShape_207 : decode cX4_readShape 207 = .ok (.invokevirtual 65, 3) := by decide +kernel
theorem dX4_readShape_210 : decode cX4_readShape 210 = .ok (.ireturn, 1) := by decide +kernel
theorem dX4_readPar_0 : decode cX4_readPar 0 = .ok (.aload_n 0, 1) := by decide +kernel
theorem dX4_readPar_1 : decode cX4_readPar 1 = .ok (.invokevirtual 52, 3) := by decide +kernel
theorem dX4_readPar_4 : decode cX4_readPar 4 = .ok (.bipush (-4), 2) := by decide +kernel
theorem dX4_readPar_6 : decode cX4_readPar 6 = .ok (.istore_n 1, 1) := by decide +kernel
theorem dX4_readPar_7 : decode cX4_readPar 7 = .ok (.iconst 0, 1) := by decide +kernel
theorem dX4_readPar_8 : decode cX4_readPar 8 = .ok (.istore_n 2, 1) := by decide +kernel
theorem dX4_readPar_9 : decode cX4_readPar 9 = .ok (.aload_n 0, 1) := by decide +kernel
theorem dX4_readPar_10 : decode cX4_readPar 10 = .ok (.getfield 55, 3) := by decide +kernel
theorem dX4_readPar_13 : decode cX4_readPar 13 = .ok (.iconst 1, 1) := by decide +kernel
theorem dX4_readPar_14 : decode cX4_readPar 14 = .ok (.if_icmp .ne 62, 3) := by decide +kernel
theorem dX4_readPar_17 : decode cX4_readPar 17 = .ok (.aload_n 0, 1) := by decide +kernel
theorem dX4_readPar_18 : decode cX4_readPar 18 = .ok (.getfield 110, 3) := by decide +kernel
theorem dX4_readPar_21 : decode cX4_readPar 21 = .ok (.iconst 1, 1) := by decide +kernel
theorem dX4_readPar_22 : decode cX4_readPar 22 = .ok (.if_icmp .ne 21, 3) := by decide +kernel
theorem dX4_readPar_25 : decode cX4_readPar 25 = .ok (.aload_n 0, 1) := by decide +kernel
theorem dX4_readPar_26 : decode cX4_readPar 26 = .ok (.getfield 15, 3) := by decide +kernel
theorem dX4_readPar_29 : decode cX4_readPar 29 = .ok (.aload_n 0, 1) := by decide +kernel
theorem dX4_readPar_30 : decode cX4_readPar 30 = .ok (.aload_n 0, 1) := by decide +kernel
theorem dX4_readPar_31 : decode cX4_readPar 31 = .ok (.getfield 62, 3) := by decide +kernel
theorem dX4_readPar_34 : decode cX4_readPar 34 = .ok (.invokevirtual 113, 3) := by decide +kernel
theorem dX4_readPar_37 : decode cX4_readPar 37 = .ok (.invokevirtual 117, 3) := by decide +kernel
theorem dX4_readPar_40 : decode cX4_readPar 40 = .ok (.goto 5, 3) := by decide +kernel
theorem dX4_readPar_43 : decode cX4_readPar 43 = .ok (.bipush (-4), 2) := by decide +kernel
theorem dX4_readPar_45 : decode cX4_readPar 45 = .ok (.istore_n 1, 1) := by decide +kernel
theorem dX4_readPar_46 : decode cX4_readPar 46 = .ok (.iload_n 1, 1) := by decide +kernel
theorem dX4_readPar_47 : decode cX4_readPar 47 = .ok (.ifCond .ge 9, 3) := by decide +kernel
theorem dX4_readPar_50 : decode cX4_readPar 50 = .ok (.aload_n 0, 1) := by decide +kernel
theorem dX4_readPar_51 : decode cX4_readPar 51 = .ok (.iconst 2, 1) := by decide +kernel
theorem dX4_readPar_52 : decode cX4_readPar 52 = .ok (.invokevirtual 65, 3) := by decide +kernel
theorem dX4_readPar_55 : decode cX4_readPar 55 = .ok (.ireturn, 1) := by decide +kernel
theorem dX4_readPar_56 : decode cX4_readPar 56 = .ok (.aload_n 0, 1) := by decide +kernel
theorem dX4_readPar_57 : decode cX4_readPar 57 = .ok (.iconst 2, 1) := by decide +kernel
theorem dX4_readPar_58 : decode cX4_readPar 58 = .ok (.iconst 5, 1) := by decide +kernel
theorem dX4_readPar_59 : decode cX4_readPar 59 = .ok (.invokevirtual 100, 3) := by decide +kernel
theorem dX4_readPar_62 : decode cX4_readPar 62 = .ok (.ifCond .ne 5, 3) := by decide +kernel
theorem dX4_readPar_65 : decode cX4_readPar 65 = .ok (.iconst 0, 1) := by decide +kernel
theorem dX4_readPar_66 : decode cX4_readPar 66 = .ok (.ireturn, 1) := by decide +kernel
theorem dX4_readPar_67 : decode cX4_readPar 67 = .ok (.aload_n 0, 1) := by decide +kernel
theorem dX4_readPar_68 : decode cX4_readPar 68 = .ok (.getfield 107, 3) := by decide +kernel
theorem dX4_readPar_71 : decode cX4_readPar 71 = .ok (.istore_n 2, 1) := by decide +kernel
theorem dX4_readPar_72 : decode cX4_readPar 72 = .ok (.aload_n 0, 1) := by decide +kernel
theorem dX4_readPar_73 : decode cX4_readPar 73 = .ok (.invokevirtual 52, 3) := by decide +kernel
theorem dX4_readPar_76 : decode cX4_readPar 76 = .ok (.aload_n 0, 1) := by decide +kernel
theorem dX4_readPar_77 : decode cX4_readPar 77 = .ok (.getfield 55, 3) := by decide +kernel
theorem dX4_readPar_80 : decode cX4_readPar 80 = .ok (.iconst 3, 1) := by decide +kernel
theorem dX4_readPar_81 : decode cX4_readPar 81 = .ok (.if_icmp .eq 9, 3) := by decide +kernel
theorem dX4_readPar_84 : decode cX4_readPar 84 = .ok (.aload_n 0, 1) := by decide +kernel
theorem dX4_readPar_85 : decode cX4_readPar 85 = .ok (.iconst 2, 1) := by decide +kernel
theorem dX4_readPar_86 : decode cX4_readPar 86 = .ok (.invokevirtual 65, 3) := by decide +kernel
theorem dX4_readPar_89 : decode cX4_readPar 89 = .ok (.ireturn, 1) := by decide +kernel
theorem dX4_readPar_90 : decode cX4_readPar 90 = .ok (.aload_n 0, 1) := by decide +kernel
theorem dX4_readPar_91 : decode cX4_readPar 91 = .ok (.getfield 19, 3) := by decide +kernel
theorem dX4_readPar_94 : decode cX4_readPar 94 = .ok (.iload_n 1, 1) := by decide +kernel
theorem dX4_readPar_95 : decode cX4_readPar 95 = .ok (.iload_n 2, 1) := by decide +kernel
theorem dX4_readPar_96 : decode cX4_readPar 96 = .ok (.invokevirtual 127, 3) := by decide +kernel
theorem dX4_readPar_99 : decode cX4_readPar 99 = .ok (.aload_n 0, 1) := by decide +kernel
theorem dX4_readPar_100 : decode cX4_readPar 100 = .ok (.invokevirtual 130, 3) := by decide +kernel
theorem dX4_readPar_103 : decode cX4_readPar 103 = .ok (.ireturn, 1) := by decide +kernel
theorem dX4_readWords_0 : decode cX4_readWords 0 = .ok (.iconst 0, 1) := by decide +kernel
theorem dX4_readWords_1 : decode cX4_readWords 1 = .ok (.istore_n 1, 1) := by decide +kernel
theorem dX4_readWords_2 : decode cX4_readWords 2 = .ok (.iload_n 1, 1) := by decide +kernel
theorem dX4_readWords_3 : decode cX4_readWords 3 = .ok (.bipush 80, 2) := by decide +kernel
theorem dX4_readWords_5 : decode cX4_readWords 5 = .ok (.if_icmp .gt 85, 3) := by decide +kernel
theorem dX4_readWords_8 : decode cX4_readWords 8 = .ok (.aload_n 0, 1) := by decide +kernel
theorem dX4_readWords_9 : decode cX4_readWords 9 = .ok (.invokevirtual 52, 3) := by decide +kernel
theorem dX4_readWords_12 : decode cX4_readWords 12 = .ok (.aload_n 0, 1) := by decide +kernel
theorem dX4_readWords_13 : decode cX4_readWords 13 = .ok (.getfield 55, 3) := by decide +kernel
theorem dX4_readWords_16 : decode cX4_readWords 16 = .ok (.iconst 4, 1) := by decide +kernel
theorem dX4_readWords_17 : decode cX4_readWords 17 = .ok (.if_icmp .ne 9, 3) := by decide +kernel
theorem dX4_readWords_20 : decode cX4_readWords 20 = .ok (.iload_n 1, 1) := by decide +kernel
theorem dX4_readWords_21 : decode cX4_readWords 21 = .ok (.ifCond .le 5, 3) := by decide +kernel
theorem dX4_readWords_24 : decode cX4_readWords 24 = .ok (.iconst 1, 1) := by decide +kernel
theorem dX4_readWords_25 : decode cX4_readWords 25 = .ok (.ireturn, 1) := by decide +kernel
theorem dX4_readWords_26 : decode cX4_readWords 26 = .ok (.aload_n 0, 1) := by decide +kernel
theorem dX4_readWords_27 : decode cX4_readWords 27 = .ok (.getfield 55, 3) := by decide +kernel
theorem dX4_readWords_30 : decode cX4_readWords 30 = .ok (.iconst 1, 1) := by decide +kernel
theorem dX4_readWords_31 : decode cX4_readWords 31 = .ok (.if_icmp .eq 9, 3) := by decide +kernel
theorem dX4_readWords_34 : decode cX4_readWords 34 = .ok (.aload_n 0, 1) := by decide +kernel
theorem dX4_readWords_35 : decode cX4_readWords 35 = .ok (.iconst 2, 1) := by decide +kernel
theorem dX4_readWords_36 : decode cX4_readWords 36 = .ok (.invokevirtual 65, 3) := by decide +kernel
theorem dX4_readWords_39 : decode cX4_readWords 39 = .ok (.ireturn, 1) := by decide +kernel
theorem dX4_readWords_40 : decode cX4_readWords 40 = .ok (.aload_n 0, 1) := by decide +kernel
theorem dX4_readWords_41 : decode cX4_readWords 41 = .ok (.getfield 110, 3) := by decide +kernel
theorem dX4_readWords_44 : decode cX4_readWords 44 = .ok (.bipush 6, 2) := by decide +kernel
theorem dX4_readWords_46 : decode cX4_readWords 46 = .ok (.if_icmp .le 9, 3) := by decide +kernel
theorem dX4_readWords_49 : decode cX4_readWords 49 = .ok (.aload_n 0, 1) := by decide +kernel
theorem dX4_readWords_50 : decode cX4_readWords 50 = .ok (.iconst 3, 1) := by decide +kernel
theorem dX4_readWords_51 : decode cX4_readWords 51 = .ok (.invokevirtual 65, 3) := by decide +kernel
theorem dX4_readWords_54 : decode cX4_readWords 54 = .ok (.ireturn, 1) := by decide +kernel
theorem dX4_readWords_55 : decode cX4_readWords 55 = .ok (.aload_n 0, 1) := by decide +kernel
theorem dX4_readWords_56 : decode cX4_readWords 56 = .ok (.getfield 19, 3) := by decide +kernel
theorem dX4_readWords_59 : decode cX4_readWords 59 = .ok (.getfield 133, 3) := by decide +kernel
theorem dX4_readWords_62 : decode cX4_readWords 62 = .ok (.bipush 80, 2) := by decide +kernel
theorem dX4_readWords_64 : decode cX4_readWords 64 = .ok (.if_icmp .lt 9, 3) := by decide +kernel
theorem dX4_readWords_67 : decode cX4_readWords 67 = .ok (.aload_n 0, 1) := by decide +kernel
theorem dX4_readWords_68 : decode cX4_readWords 68 = .ok (.iconst 5, 1) := by decide +kernel
theorem dX4_readWords_69 : decode cX4_readWords 69 = .ok (.invokevirtual 65, 3) := by decide +kernel
theorem dX4_readWords_72 : decode cX4_readWords 72 = .ok (.ireturn, 1) := by decide +kernel
theorem dX4_readWords_73 : decode cX4_readWords 73 = .ok (.aload_n 0, 1) := by decide +kernel
theorem dX4_readWords_74 : decode cX4_readWords 74 = .ok (.getfield 19, 3) := by decide +kernel
theorem dX4_readWords_77 : decode cX4_readWords 77 = .ok (.aload_n 0, 1) := by decide +kernel
theorem dX4_readWords_78 : decode cX4_readWords 78 = .ok (.invokevirtual 136, 3) := by decide +kernel
theorem dX4_readWords_81 : decode cX4_readWords 81 = .ok (.invokevirtual 139, 3) := by decide +kernel
theorem dX4_readWords_84 : decode cX4_readWords 84 = .ok (.iinc 1 1, 3) := by decide +kernel
theorem dX4_readWords_87 : decode cX4_readWords 87 = .ok (.goto (-85), 3) := by decide +kernel
theorem dX4_readWords_90 : decode cX4_readWords 90 = .ok (.aload_n 0, 1) := by decide +kernel
theorem dX4_readWords_91 : decode cX4_readWords 91 = .ok (.iconst 5, 1) := by decide +kernel
theorem dX4_readWords_92 : decode cX4_readWords 92 = .ok (.invokevirtual 65, 3) := by decide +kernel
theorem dX4_readWords_95 : decode cX4_readWords 95 = .ok (.ireturn, 1) := by decide +kernel
theorem dX4_readNumber_0 : decode cX4_readNumber 0 = .ok (.aload_n 0, 1) := by decide +kernel
theorem dX4_readNumber_1 : decode cX4_readNumber 1 = .ok (.invokevirtual 52, 3) := by decide +kernel
theorem dX4_readNumber_4 : decode cX4_readNumber 4 = .ok (.aload_n 0, 1) := by decide +kernel
theorem dX4_readNumber_5 : decode cX4_readNumber 5 = .ok (.getfield 55, 3) := by decide +kernel
theorem dX4_readNumber_8 : decode cX4_readNumber 8 = .ok (.iconst 2, 1) := by decide +kernel
theorem dX4_readNumber_9 : decode cX4_readNumber 9 = .ok (.if_icmp .eq 9, 3) := by decide +kernel
theorem dX4_readNumber_12 : decode cX4_readNumber 12 = .ok (.aload_n 0, 1) := by decide +kernel
theorem dX4_readNumber_13 : decode cX4_readNumber 13 = .ok (.iconst 2, 1) := by decide +kernel
theorem dX4_readNumber_14 : decode cX4_readNumber 14 = .ok (.invokevirtual 65, 3) := by decide +kernel
theorem dX4_readNumber_17 : decode cX4_readNumber 17 = .ok (.ireturn, 1) := by decide +kernel
theorem dX4_readNumber_18 : decode cX4_readNumber 18 = .ok (.aload_n 0, 1) := by decide +kernel
theorem dX4_readNumber_19 : decode cX4_readNumber 19 = .ok (.getfield 107, 3) := by decide +kernel
theorem dX4_readNumber_22 : decode cX4_readNumber 22 = .ok (.iload_n 1, 1) := by decide +kernel
theorem dX4_readNumber_23 : decode cX4_readNumber 23 = .ok (.if_icmp .lt 11, 3) := by decide +kernel
theorem dX4_readNumber_26 : decode cX4_readNumber 26 = .ok (.aload_n 0, 1) := by decide +kernel
theorem dX4_readNumber_27 : decode cX4_readNumber 27 = .ok (.getfield 107, 3) := by decide +kernel
theorem dX4_readNumber_30 : decode cX4_readNumber 30 = .ok (.iload_n 2, 1) := by decide +kernel
theorem dX4_readNumber_31 : decode cX4_readNumber 31 = .ok (.if_icmp .le 11, 3) := by decide +kernel
theorem dX4_readNumber_34 : decode cX4_readNumber 34 = .ok (.aload_n 0, 1) := by decide +kernel
theorem dX4_readNumber_35 : decode cX4_readNumber 35 = .ok (.iconst 3, 1) := by decide +kernel
theorem dX4_readNumber_36 : decode cX4_readNumber 36 = .ok (.invokevirtual 65, 3) := by decide +kernel
theorem dX4_readNumber_39 : decode cX4_readNumber 39 = .ok (.ifCond .eq 7, 3) := by decide +kernel
theorem dX4_readNumber_42 : decode cX4_readNumber 42 = .ok (.iconst 1, 1) := by decide +kernel
theorem dX4_readNumber_43 : decode cX4_readNumber 43 = .ok (.goto 4, 3) := by decide +kernel
theorem dX4_readNumber_46 : decode cX4_readNumber 46 = .ok (.iconst 0, 1) := by decide +kernel
theorem dX4_readNumber_47 : decode cX4_readNumber 47 = .ok (.ireturn, 1) := by decide +kernel
theorem dX4_refuse_0 : decode cX4_refuse 0 = .ok (.aload_n 0, 1) := by decide +kernel
theorem dX4_refuse_1 : decode cX4_refuse 1 = .ok (.aload_n 0, 1) := by decide +kernel
theorem dX4_refuse_2 : decode cX4_refuse 2 = .ok (.getfield 55, 3) := by decide +kernel
theorem dX4_refuse_5 : decode cX4_refuse 5 = .ok (.ifCond .ne 7, 3) := by decide +kernel
theorem dX4_refuse_8 : decode cX4_refuse 8 = .ok (.iconst 1, 1) := by decide +kernel
theorem dX4_refuse_9 : decode cX4_refuse 9 = .ok (.goto 4, 3) := by decide +kernel
theorem dX4_refuse_12 : decode cX4_refuse 12 = .ok (.iload_n 1, 1) := by decide +kernel
theorem dX4_refuse_13 : decode cX4_refuse 13 = .ok (.putfield 23, 3) := by decide +kernel
theorem dX4_refuse_16 : decode cX4_refuse 16 = .ok (.iconst 0, 1) := by decide +kernel
theorem dX4_refuse_17 : decode cX4_refuse 17 = .ok (.ireturn, 1) := by decide +kernel
theorem dX4_advance_0 : decode cX4_advance 0 = .ok (.aload_n 0, 1) := by decide +kernel
theorem dX4_advance_1 : decode cX4_advance 1 = .ok (.getfield 36, 3) := by decide +kernel
theorem dX4_advance_4 : decode cX4_advance 4 = .ok (.aload_n 0, 1) := by decide +kernel
theorem dX4_advance_5 : decode cX4_advance 5 = .ok (.getfield 33, 3) := by decide +kernel
theorem dX4_advance_8 : decode cX4_advance 8 = .ok (.if_icmp .ge 30, 3) := by decide +kernel
theorem dX4_advance_11 : decode cX4_advance 11 = .ok (.aload_n 0, 1) := by decide +kernel
theorem dX4_advance_12 : decode cX4_advance 12 = .ok (.getfield 9, 3) := by decide +kernel
theorem dX4_advance_15 : decode cX4_advance 15 = .ok (.aload_n 0, 1) := by decide +kernel
theorem dX4_advance_16 : decode cX4_advance 16 = .ok (.getfield 36, 3) := by decide +kernel
theorem dX4_advance_19 : decode cX4_advance 19 = .ok (.baload, 1) := by decide +kernel
theorem dX4_advance_20 : decode cX4_advance 20 = .ok (.bipush 32, 2) := by decide +kernel
theorem dX4_advance_22 : decode cX4_advance 22 = .ok (.if_icmp .ne 16, 3) := by decide +kernel
theorem dX4_advance_25 : decode cX4_advance 25 = .ok (.aload_n 0, 1) := by decide +kernel
theorem dX4_advance_26 : decode cX4_advance 26 = .ok (.dup, 1) := by decide +kernel
theorem dX4_advance_27 : decode cX4_advance 27 = .ok (.getfield 36, 3) := by decide +kernel
theorem dX4_advance_30 : decode cX4_advance 30 = .ok (.iconst 1, 1) := by decide +kernel
theorem dX4_advance_31 : decode cX4_advance 31 = .ok (.iadd, 1) := by decide +kernel
theorem dX4_advance_32 : decode cX4_advance 32 = .ok (.putfield 36, 3) := by decide +kernel
theorem dX4_advance_35 : decode cX4_advance 35 = .ok (.goto (-35), 3) := by decide +kernel
theorem dX4_advance_38 : decode cX4_advance 38 = .ok (.aload_n 0, 1) := by decide +kernel
theorem dX4_advance_39 : decode cX4_advance 39 = .ok (.aload_n 0, 1) := by decide +kernel
theorem dX4_advance_40 : decode cX4_advance 40 = .ok (.getfield 36, 3) := by decide +kernel
theorem dX4_advance_43 : decode cX4_advance 43 = .ok (.putfield 62, 3) := by decide +kernel
theorem dX4_advance_46 : decode cX4_advance 46 = .ok (.aload_n 0, 1) := by decide +kernel
theorem dX4_advance_47 : decode cX4_advance 47 = .ok (.iconst 0, 1) := by decide +kernel
theorem dX4_advance_48 : decode cX4_advance 48 = .ok (.putfield 107, 3) := by decide +kernel
theorem dX4_advance_51 : decode cX4_advance 51 = .ok (.aload_n 0, 1) := by decide +kernel
theorem dX4_advance_52 : decode cX4_advance 52 = .ok (.getfield 36, 3) := by decide +kernel
theorem dX4_advance_55 : decode cX4_advance 55 = .ok (.aload_n 0, 1) := by decide +kernel
theorem dX4_advance_56 : decode cX4_advance 56 = .ok (.getfield 33, 3) := by decide +kernel
theorem dX4_advance_59 : decode cX4_advance 59 = .ok (.if_icmp .lt 11, 3) := by decide +kernel
theorem dX4_advance_62 : decode cX4_advance 62 = .ok (.aload_n 0, 1) := by decide +kernel
theorem dX4_advance_63 : decode cX4_advance 63 = .ok (.iconst 5, 1) := by decide +kernel
theorem dX4_advance_64 : decode cX4_advance 64 = .ok (.putfield 55, 3) := by decide +kernel
theorem dX4_advance_67 : decode cX4_advance 67 = .ok (.goto 140, 3) := by decide +kernel
theorem dX4_advance_70 : decode cX4_advance 70 = .ok (.aload_n 0, 1) := by decide +kernel
theorem dX4_advance_71 : decode cX4_advance 71 = .ok (.aload_n 0, 1) := by decide +kernel
theorem dX4_advance_72 : decode cX4_advance 72 = .ok (.getfield 36, 3) := by decide +kernel
theorem dX4_advance_75 : decode cX4_advance 75 = .ok (.invokevirtual 143, 3) := by decide +kernel
theorem dX4_advance_78 : decode cX4_advance 78 = .ok (.ifCond .eq 43, 3) := by decide +kernel
theorem dX4_advance_81 : decode cX4_advance 81 = .ok (.aload_n 0, 1) := by decide +kernel
theorem dX4_advance_82 : decode cX4_advance 82 = .ok (.iconst 1, 1) := by decide +kernel
theorem dX4_advance_83 : decode cX4_advance 83 = .ok (.putfield 55, 3) := by decide +kernel
theorem dX4_advance_86 : decode cX4_advance 86 = .ok (.aload_n 0, 1) := by decide +kernel
theorem dX4_advance_87 : decode cX4_advance 87 = .ok (.getfield 36, 3) := by decide +kernel
theorem dX4_advance_90 : decode cX4_advance 90 = .ok (.aload_n 0, 1) := by decide +kernel
theorem dX4_advance_91 : decode cX4_advance 91 = .ok (.getfield 33, 3) := by decide +kernel
theorem dX4_advance_94 : decode cX4_advance 94 = .ok (.if_icmp .ge 113, 3) := by decide +kernel
theorem dX4_advance_97 : decode cX4_advance 97 = .ok (.aload_n 0, 1) := by decide +kernel
theorem dX4_advance_98 : decode cX4_advance 98 = .ok (.aload_n 0, 1) := by decide +kernel
theorem dX4_advance_99 : decode cX4_advance 99 = .ok (.getfield 36, 3) := by decide +kernel
theorem dX4_advance_102 : decode cX4_advance 102 = .ok (.invokevirtual 143, 3) := by decide +kernel
theorem dX4_advance_105 : decode cX4_advance 105 = .ok (.ifCond .eq 102, 3) := by decide +kernel
theorem dX4_advance_108 : decode cX4_advance 108 = .ok (.aload_n 0, 1) := by decide +kernel
theorem dX4_advance_109 : decode cX4_advance 109 = .ok (.dup, 1) := by decide +kernel
theorem dX4_advance_110 : decode cX4_advance 110 = .ok (.getfield 36, 3) := by decide +kernel
theorem dX4_advance_113 : decode cX4_advance 113 = .ok (.iconst 1, 1) := by decide +kernel
theorem dX4_advance_114 : decode cX4_advance 114 = .ok (.iadd, 1) := by decide +kernel
theorem dX4_advance_115 : decode cX4_advance 115 = .ok (.putfield 36, 3) := by decide +kernel
theorem dX4_advance_118 : decode cX4_advance 118 = .ok (.goto (-32), 3) := by decide +kernel
theorem dX4_advance_121 : decode cX4_advance 121 = .ok (.aload_n 0, 1) := by decide +kernel
theorem dX4_advance_122 : decode cX4_advance 122 = .ok (.getfield 9, 3) := by decide +kernel
theorem dX4_advance_125 : decode cX4_advance 125 = .ok (.aload_n 0, 1) := by decide +kernel
theorem dX4_advance_126 : decode cX4_advance 126 = .ok (.getfield 36, 3) := by decide +kernel
theorem dX4_advance_129 : decode cX4_advance 129 = .ok (.baload, 1) := by decide +kernel
theorem dX4_advance_130 : decode cX4_advance 130 = .ok (.bipush 48, 2) := by decide +kernel
theorem dX4_advance_132 : decode cX4_advance 132 = .ok (.if_icmp .lt 24, 3) := by decide +kernel
theorem dX4_advance_135 : decode cX4_advance 135 = .ok (.aload_n 0, 1) := by decide +kernel
theorem dX4_advance_136 : decode cX4_advance 136 = .ok (.getfield 9, 3) := by decide +kernel
theorem dX4_advance_139 : decode cX4_advance 139 = .ok (.aload_n 0, 1) := by decide +kernel
theorem dX4_advance_140 : decode cX4_advance 140 = .ok (.getfield 36, 3) := by decide +kernel
theorem dX4_advance_143 : decode cX4_advance 143 = .ok (.baload, 1) := by decide +kernel
theorem dX4_advance_144 : decode cX4_advance 144 = .ok (.bipush 57, 2) := by decide +kernel
theorem dX4_advance_146 : decode cX4_advance 146 = .ok (.if_icmp .gt 10, 3) := by decide +kernel
theorem dX4_advance_149 : decode cX4_advance 149 = .ok (.aload_n 0, 1) := by decide +kernel
theorem dX4_advance_150 : decode cX4_advance 150 = .ok (.invokevirtual 146, 3) := by decide +kernel
theorem dX4_advance_153 : decode cX4_advance 153 = .ok (.goto 54, 3) := by decide +kernel
theorem dX4_advance_156 : decode cX4_advance 156 = .ok (.aload_n 0, 1) := by decide +kernel
theorem dX4_advance_157 : decode cX4_advance 157 = .ok (.aload_n 0, 1) := by decide +kernel
theorem dX4_advance_158 : decode cX4_advance 158 = .ok (.getfield 9, 3) := by decide +kernel
theorem dX4_advance_161 : decode cX4_advance 161 = .ok (.aload_n 0, 1) := by decide +kernel
theorem dX4_advance_162 : decode cX4_advance 162 = .ok (.getfield 36, 3) := by decide +kernel
theorem dX4_advance_165 : decode cX4_advance 165 = .ok (.baload, 1) := by decide +kernel
theorem dX4_advance_166 : decode cX4_advance 166 = .ok (.bipush 58, 2) := by decide +kernel
theorem dX4_advance_168 : decode cX4_advance 168 = .ok (.if_icmp .ne 7, 3) := by decide +kernel
theorem dX4_advance_171 : decode cX4_advance 171 = .ok (.iconst 3, 1) := by decide +kernel
theorem dX4_advance_172 : decode cX4_advance 172 = .ok (.goto 22, 3) := by decide +kernel
theorem dX4_advance_175 : decode cX4_advance 175 = .ok (.aload_n 0, 1) := by decide +kernel
theorem dX4_advance_176 : decode cX4_advance 176 = .ok (.getfield 9, 3) := by decide +kernel
theorem dX4_advance_179 : decode cX4_advance 179 = .ok (.aload_n 0, 1) := by decide +kernel
theorem dX4_advance_180 : decode cX4_advance 180 = .ok (.getfield 36, 3) := by decide +kernel
theorem dX4_advance_183 : decode cX4_advance 183 = .ok (.baload, 1) := by decide +kernel
theorem dX4_advance_184 : decode cX4_advance 184 = .ok (.bipush 59, 2) := by decide +kernel
theorem dX4_advance_186 : decode cX4_advance 186 = .ok (.if_icmp .ne 7, 3) := by decide +kernel
theorem dX4_advance_189 : decode cX4_advance 189 = .ok (.iconst 4, 1) := by decide +kernel
theorem dX4_advance_190 : decode cX4_advance 190 = .ok (.goto 4, 3) := by decide +kernel
theorem dX4_advance_193 : decode cX4_advance 193 = .ok (.iconst 0, 1) := by decide +kernel
theorem dX4_advance_194 : decode cX4_advance 194 = .ok (.putfield 55, 3) := by decide +kernel
theorem dX4_advance_197 : decode cX4_advance 197 = .ok (.aload_n 0, 1) := by decide +kernel
theorem dX4_advance_198 : decode cX4_advance 198 = .ok (.dup, 1) := by decide +kernel
theorem dX4_advance_199 : decode cX4_advance 199 = .ok (.getfield 36, 3) := by decide +kernel
theorem dX4_advance_202 : decode cX4_advance 202 = .ok (.iconst 1, 1) := by decide +kernel
theorem dX4_advance_203 : decode cX4_advance 203 = .ok (.iadd, 1) := by decide +kernel
theorem dX4_advance_204 : decode cX4_advance 204 = .ok (.putfield 36, 3) := by decide +kernel
theorem dX4_advance_207 : decode cX4_advance 207 = .ok (.aload_n 0, 1) := by decide +kernel
theorem dX4_advance_208 : decode cX4_advance 208 = .ok (.aload_n 0, 1) := by decide +kernel
theorem dX4_advance_209 : decode cX4_advance 209 = .ok (.getfield 36, 3) := by decide +kernel
theorem dX4_advance_212 : decode cX4_advance 212 = .ok (.aload_n 0, 1) := by decide +kernel
theorem dX4_advance_213 : decode cX4_advance 213 = .ok (.getfield 62, 3) := by decide +kernel
theorem dX4_advance_216 : decode cX4_advance 216 = .ok (.isub, 1) := by decide +kernel
theorem dX4_advance_217 : decode cX4_advance 217 = .ok (.putfield 110, 3) := by decide +kernel
theorem dX4_advance_220 : decode cX4_advance 220 = .ok (.return_, 1) := by decide +kernel
theorem dX4_takeFigures_0 : decode cX4_takeFigures 0 = .ok (.aload_n 0, 1) := by decide +kernel
theorem dX4_takeFigures_1 : decode cX4_takeFigures 1 = .ok (.getfield 36, 3) := by decide +kernel
theorem dX4_takeFigures_4 : decode cX4_takeFigures 4 = .ok (.aload_n 0, 1) := by decide +kernel
theorem dX4_takeFigures_5 : decode cX4_takeFigures 5 = .ok (.getfield 33, 3) := by decide +kernel
theorem dX4_takeFigures_8 : decode cX4_takeFigures 8 = .ok (.if_icmp .ge 81, 3) := by decide +kernel
theorem dX4_takeFigures_11 : decode cX4_takeFigures 11 = .ok (.aload_n 0, 1) := by decide +kernel
theorem dX4_takeFigures_12 : decode cX4_takeFigures 12 = .ok (.getfield 9, 3) := by decide +kernel
theorem dX4_takeFigures_15 : decode cX4_takeFigures 15 = .ok (.aload_n 0, 1) := by decide +kernel
theorem dX4_takeFigures_16 : decode cX4_takeFigures 16 = .ok (.getfield 36, 3) := by decide +kernel
theorem dX4_takeFigures_19 : decode cX4_takeFigures 19 = .ok (.baload, 1) := by decide +kernel
theorem dX4_takeFigures_20 : decode cX4_takeFigures 20 = .ok (.bipush 48, 2) := by decide +kernel
theorem dX4_takeFigures_22 : decode cX4_takeFigures 22 = .ok (.if_icmp .lt 67, 3) := by decide +kernel
theorem dX4_takeFigures_25 : decode cX4_takeFigures 25 = .ok (.aload_n 0, 1) := by decide +kernel
theorem dX4_takeFigures_26 : decode cX4_takeFigures 26 = .ok (.getfield 9, 3) := by decide +kernel
theorem dX4_takeFigures_29 : decode cX4_takeFigures 29 = .ok (.aload_n 0, 1) := by decide +kernel
theorem dX4_takeFigures_30 : decode cX4_takeFigures 30 = .ok (.getfield 36, 3) := by decide +kernel
theorem dX4_takeFigures_33 : decode cX4_takeFigures 33 = .ok (.baload, 1) := by decide +kernel
theorem dX4_takeFigures_34 : decode cX4_takeFigures 34 = .ok (.bipush 57, 2) := by decide +kernel
theorem dX4_takeFigures_36 : decode cX4_takeFigures 36 = .ok (.if_icmp .gt 53, 3) := by decide +kernel
theorem dX4_takeFigures_39 : decode cX4_takeFigures 39 = .ok (.aload_n 0, 1) := by decide +kernel
theorem dX4_takeFigures_40 : decode cX4_takeFigures 40 = .ok (.getfield 36, 3) := by decide +kernel
theorem dX4_takeFigures_43 : decode cX4_takeFigures 43 = .ok (.aload_n 0, 1) := by decide +kernel
theorem dX4_takeFigures_44 : decode cX4_takeFigures 44 = .ok (.getfield 62, 3) := by decide +kernel
theorem dX4_takeFigures_47 : decode cX4_takeFigures 47 = .ok (.isub, 1) := by decide +kernel
theorem dX4_takeFigures_48 : decode cX4_takeFigures 48 = .ok (.iconst 2, 1) := by decide +kernel
theorem dX4_takeFigures_49 : decode cX4_takeFigures 49 = .ok (.if_icmp .ge 27, 3) := by decide +kernel
theorem dX4_takeFigures_52 : decode cX4_takeFigures 52 = .ok (.aload_n 0, 1) := by decide +kernel
theorem dX4_takeFigures_53 : decode cX4_takeFigures 53 = .ok (.aload_n 0, 1) := by decide +kernel
theorem dX4_takeFigures_54 : decode cX4_takeFigures 54 = .ok (.getfield 107, 3) := by decide +kernel
theorem dX4_takeFigures_57 : decode cX4_takeFigures 57 = .ok (.bipush 10, 2) := by decide +kernel
theorem dX4_takeFigures_59 : decode cX4_takeFigures 59 = .ok (.imul, 1) := by decide +kernel
theorem dX4_takeFigures_60 : decode cX4_takeFigures 60 = .ok (.aload_n 0, 1) := by decide +kernel
theorem dX4_takeFigures_61 : decode cX4_takeFigures 61 = .ok (.getfield 9, 3) := by decide +kernel
theorem dX4_takeFigures_64 : decode cX4_takeFigures 64 = .ok (.aload_n 0, 1) := by decide +kernel
theorem dX4_takeFigures_65 : decode cX4_takeFigures 65 = .ok (.getfield 36, 3) := by decide +kernel
theorem dX4_takeFigures_68 : decode cX4_takeFigures 68 = .ok (.baload, 1) := by decide +kernel
theorem dX4_takeFigures_69 : decode cX4_takeFigures 69 = .ok (.iadd, 1) := by decide +kernel
theorem dX4_takeFigures_70 : decode cX4_takeFigures 70 = .ok (.bipush 48, 2) := by decide +kernel
theorem dX4_takeFigures_72 : decode cX4_takeFigures 72 = .ok (.isub, 1) := by decide +kernel
theorem dX4_takeFigures_73 : decode cX4_takeFigures 73 = .ok (.putfield 107, 3) := by decide +kernel
theorem dX4_takeFigures_76 : decode cX4_takeFigures 76 = .ok (.aload_n 0, 1) := by decide +kernel
theorem dX4_takeFigures_77 : decode cX4_takeFigures 77 = .ok (.dup, 1) := by decide +kernel
theorem dX4_takeFigures_78 : decode cX4_takeFigures 78 = .ok (.getfield 36, 3) := by decide +kernel
theorem dX4_takeFigures_81 : decode cX4_takeFigures 81 = .ok (.iconst 1, 1) := by decide +kernel
theorem dX4_takeFigures_82 : decode cX4_takeFigures 82 = .ok (.iadd, 1) := by decide +kernel
theorem dX4_takeFigures_83 : decode cX4_takeFigures 83 = .ok (.putfield 36, 3) := by decide +kernel
theorem dX4_takeFigures_86 : decode cX4_takeFigures 86 = .ok (.goto (-86), 3) := by decide +kernel
theorem dX4_takeFigures_89 : decode cX4_takeFigures 89 = .ok (.aload_n 0, 1) := by decide +kernel
theorem dX4_takeFigures_90 : decode cX4_takeFigures 90 = .ok (.aload_n 0, 1) := by decide +kernel
theorem dX4_takeFigures_91 : decode cX4_takeFigures 91 = .ok (.getfield 36, 3) := by decide +kernel
theorem dX4_takeFigures_94 : decode cX4_takeFigures 94 = .ok (.aload_n 0, 1) := by decide +kernel
theorem dX4_takeFigures_95 : decode cX4_takeFigures 95 = .ok (.getfield 62, 3) := by decide +kernel
theorem dX4_takeFigures_98 : decode cX4_takeFigures 98 = .ok (.isub, 1) := by decide +kernel
theorem dX4_takeFigures_99 : decode cX4_takeFigures 99 = .ok (.iconst 2, 1) := by decide +kernel
theorem dX4_takeFigures_100 : decode cX4_takeFigures 100 = .ok (.if_icmp .le 7, 3) := by decide +kernel
theorem dX4_takeFigures_103 : decode cX4_takeFigures 103 = .ok (.iconst 0, 1) := by decide +kernel
theorem dX4_takeFigures_104 : decode cX4_takeFigures 104 = .ok (.goto 4, 3) := by decide +kernel
theorem dX4_takeFigures_107 : decode cX4_takeFigures 107 = .ok (.iconst 2, 1) := by decide +kernel
theorem dX4_takeFigures_108 : decode cX4_takeFigures 108 = .ok (.putfield 55, 3) := by decide +kernel
theorem dX4_takeFigures_111 : decode cX4_takeFigures 111 = .ok (.return_, 1) := by decide +kernel
theorem dX4_isLetter_0 : decode cX4_isLetter 0 = .ok (.aload_n 0, 1) := by decide +kernel
theorem dX4_isLetter_1 : decode cX4_isLetter 1 = .ok (.getfield 9, 3) := by decide +kernel
theorem dX4_isLetter_4 : decode cX4_isLetter 4 = .ok (.iload_n 1, 1) := by decide +kernel
theorem dX4_isLetter_5 : decode cX4_isLetter 5 = .ok (.baload, 1) := by decide +kernel
theorem dX4_isLetter_6 : decode cX4_isLetter 6 = .ok (.bipush 97, 2) := by decide +kernel
theorem dX4_isLetter_8 : decode cX4_isLetter 8 = .ok (.if_icmp .lt 18, 3) := by decide +kernel
theorem dX4_isLetter_11 : decode cX4_isLetter 11 = .ok (.aload_n 0, 1) := by decide +kernel
theorem dX4_isLetter_12 : decode cX4_isLetter 12 = .ok (.getfield 9, 3) := by decide +kernel
theorem dX4_isLetter_15 : decode cX4_isLetter 15 = .ok (.iload_n 1, 1) := by decide +kernel
theorem dX4_isLetter_16 : decode cX4_isLetter 16 = .ok (.baload, 1) := by decide +kernel
theorem dX4_isLetter_17 : decode cX4_isLetter 17 = .ok (.bipush 122, 2) := by decide +kernel
theorem dX4_isLetter_19 : decode cX4_isLetter 19 = .ok (.if_icmp .gt 7, 3) := by decide +kernel
theorem dX4_isLetter_22 : decode cX4_isLetter 22 = .ok (.iconst 1, 1) := by decide +kernel
theorem dX4_isLetter_23 : decode cX4_isLetter 23 = .ok (.goto 4, 3) := by decide +kernel
theorem dX4_isLetter_26 : decode cX4_isLetter 26 = .ok (.iconst 0, 1) := by decide +kernel
theorem dX4_isLetter_27 : decode cX4_isLetter 27 = .ok (.ireturn, 1) := by decide +kernel
theorem dX4_letterAt_0 : decode cX4_letterAt 0 = .ok (.iload_n 1, 1) := by decide +kernel
theorem dX4_letterAt_1 : decode cX4_letterAt 1 = .ok (.ifCond .lt 25, 3) := by decide +kernel
theorem dX4_letterAt_4 : decode cX4_letterAt 4 = .ok (.iload_n 1, 1) := by decide +kernel
theorem dX4_letterAt_5 : decode cX4_letterAt 5 = .ok (.aload_n 0, 1) := by decide +kernel
theorem dX4_letterAt_6 : decode cX4_letterAt 6 = .ok (.getfield 33, 3) := by decide +kernel
theorem dX4_letterAt_9 : decode cX4_letterAt 9 = .ok (.if_icmp .ge 17, 3) := by decide +kernel
theorem dX4_letterAt_12 : decode cX4_letterAt 12 = .ok (.aload_n 0, 1) := by decide +kernel
theorem dX4_letterAt_13 : decode cX4_letterAt 13 = .ok (.getfield 9, 3) := by decide +kernel
theorem dX4_letterAt_16 : decode cX4_letterAt 16 = .ok (.iload_n 1, 1) := by decide +kernel
theorem dX4_letterAt_17 : decode cX4_letterAt 17 = .ok (.baload, 1) := by decide +kernel
theorem dX4_letterAt_18 : decode cX4_letterAt 18 = .ok (.bipush 97, 2) := by decide +kernel
theorem dX4_letterAt_20 : decode cX4_letterAt 20 = .ok (.isub, 1) := by decide +kernel
theorem dX4_letterAt_21 : decode cX4_letterAt 21 = .ok (.iconst 1, 1) := by decide +kernel
theorem dX4_letterAt_22 : decode cX4_letterAt 22 = .ok (.iadd, 1) := by decide +kernel
theorem dX4_letterAt_23 : decode cX4_letterAt 23 = .ok (.goto 4, 3) := by decide +kernel
theorem dX4_letterAt_26 : decode cX4_letterAt 26 = .ok (.iconst 0, 1) := by decide +kernel
theorem dX4_letterAt_27 : decode cX4_letterAt 27 = .ok (.ireturn, 1) := by decide +kernel
theorem dX4_wordAtHand_0 : decode cX4_wordAtHand 0 = .ok (.iconst 0, 1) := by decide +kernel
theorem dX4_wordAtHand_1 : decode cX4_wordAtHand 1 = .ok (.istore_n 1, 1) := by decide +kernel
theorem dX4_wordAtHand_2 : decode cX4_wordAtHand 2 = .ok (.iconst 0, 1) := by decide +kernel
theorem dX4_wordAtHand_3 : decode cX4_wordAtHand 3 = .ok (.istore_n 2, 1) := by decide +kernel
theorem dX4_wordAtHand_4 : decode cX4_wordAtHand 4 = .ok (.iload_n 2, 1) := by decide +kernel
theorem dX4_wordAtHand_5 : decode cX4_wordAtHand 5 = .ok (.aload_n 0, 1) := by decide +kernel
theorem dX4_wordAtHand_6 : decode cX4_wordAtHand 6 = .ok (.getfield 110, 3) := by decide +kernel
theorem dX4_wordAtHand_9 : decode cX4_wordAtHand 9 = .ok (.if_icmp .ge 32, 3) := by decide +kernel
theorem dX4_wordAtHand_12 : decode cX4_wordAtHand 12 = .ok (.iload_n 2, 1) := by decide +kernel
theorem dX4_wordAtHand_13 : decode cX4_wordAtHand 13 = .ok (.bipush 6, 2) := by decide +kernel
theorem dX4_wordAtHand_15 : decode cX4_wordAtHand 15 = .ok (.if_icmp .ge 26, 3) := by decide +kernel
theorem dX4_wordAtHand_18 : decode cX4_wordAtHand 18 = .ok (.iload_n 1, 1) := by decide +kernel
theorem dX4_wordAtHand_19 : decode cX4_wordAtHand 19 = .ok (.aload_n 0, 1) := by decide +kernel
theorem dX4_wordAtHand_20 : decode cX4_wordAtHand 20 = .ok (.aload_n 0, 1) := by decide +kernel
theorem dX4_wordAtHand_21 : decode cX4_wordAtHand 21 = .ok (.getfield 62, 3) := by decide +kernel
theorem dX4_wordAtHand_24 : decode cX4_wordAtHand 24 = .ok (.iload_n 2, 1) := by decide +kernel
theorem dX4_wordAtHand_25 : decode cX4_wordAtHand 25 = .ok (.iadd, 1) := by decide +kernel
theorem dX4_wordAtHand_26 : decode cX4_wordAtHand 26 = .ok (.invokevirtual 113, 3) := by decide +kernel
theorem dX4_wordAtHand_29 : decode cX4_wordAtHand 29 = .ok (.iconst 5, 1) := by decide +kernel
theorem dX4_wordAtHand_30 : decode cX4_wordAtHand 30 = .ok (.iload_n 2, 1) := by decide +kernel
theorem dX4_wordAtHand_31 : decode cX4_wordAtHand 31 = .ok (.imul, 1) := by decide +kernel
theorem dX4_wordAtHand_32 : decode cX4_wordAtHand 32 = .ok (.ishl, 1) := by decide +kernel
theorem dX4_wordAtHand_33 : decode cX4_wordAtHand 33 = .ok (.ior, 1) := by decide +kernel
theorem dX4_wordAtHand_34 : decode cX4_wordAtHand 34 = .ok (.istore_n 1, 1) := by decide +kernel
theorem dX4_wordAtHand_35 : decode cX4_wordAtHand 35 = .ok (.iinc 2 1, 3) := by decide +kernel
theorem dX4_wordAtHand_38 : decode cX4_wordAtHand 38 = .ok (.goto (-34), 3) := by decide +kernel
theorem dX4_wordAtHand_41 : decode cX4_wordAtHand 41 = .ok (.iload_n 1, 1) := by decide +kernel
theorem dX4_wordAtHand_42 : decode cX4_wordAtHand 42 = .ok (.ireturn, 1) := by decide +kernel
theorem dX4_isNamed_0 : decode cX4_isNamed 0 = .ok (.aload_n 0, 1) := by decide +kernel
theorem dX4_isNamed_1 : decode cX4_isNamed 1 = .ok (.getfield 110, 3) := by decide +kernel
theorem dX4_isNamed_4 : decode cX4_isNamed 4 = .ok (.aload_n 1, 1) := by decide +kernel
theorem dX4_isNamed_5 : decode cX4_isNamed 5 = .ok (.invokevirtual 149, 3) := by decide +kernel
theorem dX4_isNamed_8 : decode cX4_isNamed 8 = .ok (.if_icmp .eq 5, 3) := by decide +kernel
theorem dX4_isNamed_11 : decode cX4_isNamed 11 = .ok (.iconst 0, 1) := by decide +kernel
theorem dX4_isNamed_12 : decode cX4_isNamed 12 = .ok (.ireturn, 1) := by decide +kernel
theorem dX4_isNamed_13 : decode cX4_isNamed 13 = .ok (.iconst 0, 1) := by decide +kernel
theorem dX4_isNamed_14 : decode cX4_isNamed 14 = .ok (.istore_n 2, 1) := by decide +kernel
theorem dX4_isNamed_15 : decode cX4_isNamed 15 = .ok (.iload_n 2, 1) := by decide +kernel
theorem dX4_isNamed_16 : decode cX4_isNamed 16 = .ok (.aload_n 0, 1) := by decide +kernel
theorem dX4_isNamed_17 : decode cX4_isNamed 17 = .ok (.getfield 110, 3) := by decide +kernel
theorem dX4_isNamed_20 : decode cX4_isNamed 20 = .ok (.if_icmp .ge 30, 3) := by decide +kernel
theorem dX4_isNamed_23 : decode cX4_isNamed 23 = .ok (.aload_n 0, 1) := by decide +kernel
theorem dX4_isNamed_24 : decode cX4_isNamed 24 = .ok (.getfield 9, 3) := by decide +kernel
theorem dX4_isNamed_27 : decode cX4_isNamed 27 = .ok (.aload_n 0, 1) := by decide +kernel
theorem dX4_isNamed_28 : decode cX4_isNamed 28 = .ok (.getfield 62, 3) := by decide +kernel
theorem dX4_isNamed_31 : decode cX4_isNamed 31 = .ok (.iload_n 2, 1) := by decide +kernel
theorem dX4_isNamed_32 : decode cX4_isNamed 32 = .ok (.iadd, 1) := by decide +kernel
theorem dX4_isNamed_33 : decode cX4_isNamed 33 = .ok (.baload, 1) := by decide +kernel
theorem dX4_isNamed_34 : decode cX4_isNamed 34 = .ok (.aload_n 1, 1) := by decide +kernel
theorem dX4_isNamed_35 : decode cX4_isNamed 35 = .ok (.iload_n 2, 1) := by decide +kernel
theorem dX4_isNamed_36 : decode cX4_isNamed 36 = .ok (.invokevirtual 153, 3) := by decide +kernel
theorem dX4_isNamed_39 : decode cX4_isNamed 39 = .ok (.if_icmp .eq 5, 3) := by decide +kernel
theorem dX4_isNamed_42 : decode cX4_isNamed 42 = .ok (.iconst 0, 1) := by decide +kernel
theorem dX4_isNamed_43 : decode cX4_isNamed 43 = .ok (.ireturn, 1) := by decide +kernel
theorem dX4_isNamed_44 : decode cX4_isNamed 44 = .ok (.iinc 2 1, 3) := by decide +kernel
theorem dX4_isNamed_47 : decode cX4_isNamed 47 = .ok (.goto (-32), 3) := by decide +kernel
theorem dX4_isNamed_50 : decode cX4_isNamed 50 = .ok (.iconst 1, 1) := by decide +kernel
theorem dX4_isNamed_51 : decode cX4_isNamed 51 = .ok (.ireturn, 1) := by decide +kernel
theorem dX4_settingNamed_0 : decode cX4_settingNamed 0 = .ok (.aload_n 0, 1) := by decide +kernel
theorem dX4_settingNamed_1 : decode cX4_settingNamed 1 = .ok (.ldc 157, 2) := by decide +kernel
theorem dX4_settingNamed_3 : decode cX4_settingNamed 3 = .ok (.invokevirtual 71, 3) := by decide +kernel
theorem dX4_settingNamed_6 : decode cX4_settingNamed 6 = .ok (.ifCond .eq 5, 3) := by decide +kernel
theorem dX4_settingNamed_9 : decode cX4_settingNamed 9 = .ok (.iconst 0, 1) := by decide +kernel
theorem dX4_settingNamed_10 : decode cX4_settingNamed 10 = .ok (.ireturn, 1) := by decide +kernel
theorem dX4_settingNamed_11 : decode cX4_settingNamed 11 = .ok (.aload_n 0, 1) := by decide +kernel
theorem dX4_settingNamed_12 : decode cX4_settingNamed 12 = .ok (.ldc 159, 2) := by decide +kernel
theorem dX4_settingNamed_14 : decode cX4_settingNamed 14 = .ok (.invokevirtual 71, 3) := by decide +kernel
theorem dX4_settingNamed_17 : decode cX4_settingNamed 17 = .ok (.ifCond .eq 5, 3) := by decide +kernel
theorem dX4_settingNamed_20 : decode cX4_settingNamed 20 = .ok (.iconst 1, 1) := by decide +kernel
theorem dX4_settingNamed_21 : decode cX4_settingNamed 21 = .ok (.ireturn, 1) := by decide +kernel
theorem dX4_settingNamed_22 : decode cX4_settingNamed 22 = .ok (.aload_n 0, 1) := by decide +kernel
theorem dX4_settingNamed_23 : decode cX4_settingNamed 23 = .ok (.ldc 161, 2) := by decide +kernel
theorem dX4_settingNamed_25 : decode cX4_settingNamed 25 = .ok (.invokevirtual 71, 3) := by decide +kernel
theorem dX4_settingNamed_28 : decode cX4_settingNamed 28 = .ok (.ifCond .eq 5, 3) := by decide +kernel
theorem dX4_settingNamed_31 : decode cX4_settingNamed 31 = .ok (.iconst 2, 1) := by decide +kernel
theorem dX4_settingNamed_32 : decode cX4_settingNamed 32 = .ok (.ireturn, 1) := by decide +kernel
theorem dX4_settingNamed_33 : decode cX4_settingNamed 33 = .ok (.aload_n 0, 1) := by decide +kernel
theorem dX4_settingNamed_34 : decode cX4_settingNamed 34 = .ok (.ldc 163, 2) := by decide +kernel
theorem dX4_settingNamed_36 : decode cX4_settingNamed 36 = .ok (.invokevirtual 71, 3) := by decide +kernel
theorem dX4_settingNamed_39 : decode cX4_settingNamed 39 = .ok (.ifCond .eq 5, 3) := by decide +kernel
theorem dX4_settingNamed_42 : decode cX4_settingNamed 42 = .ok (.iconst 3, 1) := by decide +kernel
theorem dX4_settingNamed_43 : decode cX4_settingNamed 43 = .ok (.ireturn, 1) := by decide +kernel
theorem dX4_settingNamed_44 : decode cX4_settingNamed 44 = .ok (.aload_n 0, 1) := by decide +kernel
theorem dX4_settingNamed_45 : decode cX4_settingNamed 45 = .ok (.ldc 165, 2) := by decide +kernel
theorem dX4_settingNamed_47 : decode cX4_settingNamed 47 = .ok (.invokevirtual 71, 3) := by decide +kernel
theorem dX4_settingNamed_50 : decode cX4_settingNamed 50 = .ok (.ifCond .eq 5, 3) := by decide +kernel
theorem dX4_settingNamed_53 : decode cX4_settingNamed 53 = .ok (.iconst 4, 1) := by decide +kernel
theorem dX4_settingNamed_54 : decode cX4_settingNamed 54 = .ok (.ireturn, 1) := by decide +kernel
theorem dX4_settingNamed_55 : decode cX4_settingNamed 55 = .ok (.aload_n 0, 1) := by decide +kernel
theorem dX4_settingNamed_56 : decode cX4_settingNamed 56 = .ok (.ldc 167, 2) := by decide +kernel
theorem dX4_settingNamed_58 : decode cX4_settingNamed 58 = .ok (.invokevirtual 71, 3) := by decide +kernel
theorem dX4_settingNamed_61 : decode cX4_settingNamed 61 = .ok (.ifCond .eq 7, 3) := by decide +kernel
theorem dX4_settingNamed_64 : decode cX4_settingNamed 64 = .ok (.iconst 5, 1) := by decide +kernel
theorem dX4_settingNamed_65 : decode cX4_settingNamed 65 = .ok (.goto 5, 3) := by decide +kernel
theorem dX4_settingNamed_68 : decode cX4_settingNamed 68 = .ok (.bipush (-4), 2) := by decide +kernel
theorem dX4_settingNamed_70 : decode cX4_settingNamed 70 = .ok (.ireturn, 1) := by decide +kernel
theorem dX5_init_0 : decode cX5_init 0 = .ok (.aload_n 0, 1) := by decide +kernel
theorem dX5_init_1 : decode cX5_init 1 = .ok (.invokespecial 3, 3) := by decide +kernel
theorem dX5_init_4 : decode cX5_init 4 = .ok (.aload_n 0, 1) := by decide +kernel
theorem dX5_init_5 : decode cX5_init 5 = .ok (.bipush 6, 2) := by decide +kernel
theorem dX5_init_7 : decode cX5_init 7 = .ok (.newarray .int, 2) := by decide +kernel
theorem dX5_init_9 : decode cX5_init 9 = .ok (.putfield 9, 3) := by decide +kernel
theorem dX5_init_12 : decode cX5_init 12 = .ok (.aload_n 0, 1) := by decide +kernel
theorem dX5_init_13 : decode cX5_init 13 = .ok (.bipush 6, 2) := by decide +kernel
theorem dX5_init_15 : decode cX5_init 15 = .ok (.newarray .int, 2) := by decide +kernel
theorem dX5_init_17 : decode cX5_init 17 = .ok (.putfield 15, 3) := by decide +kernel
theorem dX5_init_20 : decode cX5_init 20 = .ok (.aload_n 0, 1) := by decide +kernel
theorem dX5_init_21 : decode cX5_init 21 = .ok (.bipush 6, 2) := by decide +kernel
theorem dX5_init_23 : decode cX5_init 23 = .ok (.newarray .int, 2) := by decide +kernel
theorem dX5_init_25 : decode cX5_init 25 = .ok (.putfield 18, 3) := by decide +kernel
theorem dX5_init_28 : decode cX5_init 28 = .ok (.aload_n 0, 1) := by decide +kernel
theorem dX5_init_29 : decode cX5_init 29 = .ok (.bipush 48, 2) := by decide +kernel
theorem dX5_init_31 : decode cX5_init 31 = .ok (.newarray .int, 2) := by decide +kernel
theorem dX5_init_33 : decode cX5_init 33 = .ok (.putfield 21, 3) := by decide +kernel
theorem dX5_init_36 : decode cX5_init 36 = .ok (.aload_n 0, 1) := by decide +kernel
theorem dX5_init_37 : decode cX5_init 37 = .ok (.bipush 48, 2) := by decide +kernel
theorem dX5_init_39 : decode cX5_init 39 = .ok (.newarray .int, 2) := by decide +kernel
theorem dX5_init_41 : decode cX5_init 41 = .ok (.putfield 24, 3) := by decide +kernel
theorem dX5_init_44 : decode cX5_init 44 = .ok (.return_, 1) := by decide +kernel
theorem dX5_copyFrom_0 : decode cX5_copyFrom 0 = .ok (.aload_n 0, 1) := by decide +kernel
theorem dX5_copyFrom_1 : decode cX5_copyFrom 1 = .ok (.aload_n 1, 1) := by decide +kernel
theorem dX5_copyFrom_2 : decode cX5_copyFrom 2 = .ok (.getfield 27, 3) := by decide +kernel
theorem dX5_copyFrom_5 : decode cX5_copyFrom 5 = .ok (.putfield 27, 3) := by decide +kernel
theorem dX5_copyFrom_8 : decode cX5_copyFrom 8 = .ok (.aload_n 1, 1) := by decide +kernel
theorem dX5_copyFrom_9 : decode cX5_copyFrom 9 = .ok (.getfield 9, 3) := by decide +kernel
theorem dX5_copyFrom_12 : decode cX5_copyFrom 12 = .ok (.iconst 0, 1) := by decide +kernel
theorem dX5_copyFrom_13 : decode cX5_copyFrom 13 = .ok (.aload_n 0, 1) := by decide +kernel
theorem dX5_copyFrom_14 : decode cX5_copyFrom 14 = .ok (.getfield 9, 3) := by decide +kernel
theorem dX5_copyFrom_17 : decode cX5_copyFrom 17 = .ok (.iconst 0, 1) := by decide +kernel
theorem dX5_copyFrom_18 : decode cX5_copyFrom 18 = .ok (.bipush 6, 2) := by decide +kernel
theorem dX5_copyFrom_20 : decode cX5_copyFrom 20 = .ok (.invokestatic 31, 3) := by decide +kernel
theorem dX5_copyFrom_23 : decode cX5_copyFrom 23 = .ok (.aload_n 1, 1) := by decide +kernel
theorem dX5_copyFrom_24 : decode cX5_copyFrom 24 = .ok (.getfield 15, 3) := by decide +kernel
theorem dX5_copyFrom_27 : decode cX5_copyFrom 27 = .ok (.iconst 0, 1) := by decide +kernel
theorem dX5_copyFrom_28 : decode cX5_copyFrom 28 = .ok (.aload_n 0, 1) := by decide +kernel
theorem dX5_copyFrom_29 : decode cX5_copyFrom 29 = .ok (.getfield 15, 3) := by decide +kernel
theorem dX5_copyFrom_32 : decode cX5_copyFrom 32 = .ok (.iconst 0, 1) := by decide +kernel
theorem dX5_copyFrom_33 : decode cX5_copyFrom 33 = .ok (.bipush 6, 2) := by decide +kernel
theorem dX5_copyFrom_35 : decode cX5_copyFrom 35 = .ok (.invokestatic 31, 3) := by decide +kernel
theorem dX5_copyFrom_38 : decode cX5_copyFrom 38 = .ok (.aload_n 1, 1) := by decide +kernel
theorem dX5_copyFrom_39 : decode cX5_copyFrom 39 = .ok (.getfield 18, 3) := by decide +kernel
theorem dX5_copyFrom_42 : decode cX5_copyFrom 42 = .ok (.iconst 0, 1) := by decide +kernel
theorem dX5_copyFrom_43 : decode cX5_copyFrom 43 = .ok (.aload_n 0, 1) := by decide +kernel
theorem dX5_copyFrom_44 : decode cX5_copyFrom 44 = .ok (.getfield 18, 3) := by decide +kernel
theorem dX5_copyFrom_47 : decode cX5_copyFrom 47 = .ok (.iconst 0, 1) := by decide +kernel
theorem dX5_copyFrom_48 : decode cX5_copyFrom 48 = .ok (.bipush 6, 2) := by decide +kernel
theorem dX5_copyFrom_50 : decode cX5_copyFrom 50 = .ok (.invokestatic 31, 3) := by decide +kernel
theorem dX5_copyFrom_53 : decode cX5_copyFrom 53 = .ok (.aload_n 1, 1) := by decide +kernel
theorem dX5_copyFrom_54 : decode cX5_copyFrom 54 = .ok (.getfield 21, 3) := by decide +kernel
theorem dX5_copyFrom_57 : decode cX5_copyFrom 57 = .ok (.iconst 0, 1) := by decide +kernel
theorem dX5_copyFrom_58 : decode cX5_copyFrom 58 = .ok (.aload_n 0, 1) := by decide +kernel
theorem dX5_copyFrom_59 : decode cX5_copyFrom 59 = .ok (.getfield 21, 3) := by decide +kernel
theorem dX5_copyFrom_62 : decode cX5_copyFrom 62 = .ok (.iconst 0, 1) := by decide +kernel
theorem dX5_copyFrom_63 : decode cX5_copyFrom 63 = .ok (.bipush 48, 2) := by decide +kernel
theorem dX5_copyFrom_65 : decode cX5_copyFrom 65 = .ok (.invokestatic 31, 3) := by decide +kernel
theorem dX5_copyFrom_68 : decode cX5_copyFrom 68 = .ok (.aload_n 1, 1) := by decide +kernel
theorem dX5_copyFrom_69 : decode cX5_copyFrom 69 = .ok (.getfield 24, 3) := by decide +kernel
theorem dX5_copyFrom_72 : decode cX5_copyFrom 72 = .ok (.iconst 0, 1) := by decide +kernel
theorem dX5_copyFrom_73 : decode cX5_copyFrom 73 = .ok (.aload_n 0, 1) := by decide +kernel
theorem dX5_copyFrom_74 : decode cX5_copyFrom 74 = .ok (.getfield 24, 3) := by decide +kernel
theorem dX5_copyFrom_77 : decode cX5_copyFrom 77 = .ok (.iconst 0, 1) := by decide +kernel
theorem dX5_copyFrom_78 : decode cX5_copyFrom 78 = .ok (.bipush 48, 2) := by decide +kernel
theorem dX5_copyFrom_80 : decode cX5_copyFrom 80 = .ok (.invokestatic 31, 3) := by decide +kernel
theorem dX5_copyFrom_83 : decode cX5_copyFrom 83 = .ok (.return_, 1) := by decide +kernel
theorem dX5_withSign_0 : decode cX5_withSign 0 = .ok (.iconst 0, 1) := by decide +kernel
theorem dX5_withSign_1 : decode cX5_withSign 1 = .ok (.istore_n 2, 1) := by decide +kernel
theorem dX5_withSign_2 : decode cX5_withSign 2 = .ok (.iload_n 2, 1) := by decide +kernel
theorem dX5_withSign_3 : decode cX5_withSign 3 = .ok (.aload_n 0, 1) := by decide +kernel
theorem dX5_withSign_4 : decode cX5_withSign 4 = .ok (.getfield 27, 3) := by decide +kernel
theorem dX5_withSign_7 : decode cX5_withSign 7 = .ok (.if_icmp .ge 21, 3) := by decide +kernel
theorem dX5_withSign_10 : decode cX5_withSign 10 = .ok (.aload_n 0, 1) := by decide +kernel
theorem dX5_withSign_11 : decode cX5_withSign 11 = .ok (.getfield 9, 3) := by decide +kernel
theorem dX5_withSign_14 : decode cX5_withSign 14 = .ok (.iload_n 2, 1) := by decide +kernel
theorem dX5_withSign_15 : decode cX5_withSign 15 = .ok (.iaload, 1) := by decide +kernel
theorem dX5_withSign_16 : decode cX5_withSign 16 = .ok (.iload_n 1, 1) := by decide +kernel
theorem dX5_withSign_17 : decode cX5_withSign 17 = .ok (.if_icmp .ne 5, 3) := by decide +kernel
theorem dX5_withSign_20 : decode cX5_withSign 20 = .ok (.iload_n 2, 1) := by decide +kernel
theorem dX5_withSign_21 : decode cX5_withSign 21 = .ok (.ireturn, 1) := by decide +kernel
theorem dX5_withSign_22 : decode cX5_withSign 22 = .ok (.iinc 2 1, 3) := by decide +kernel
theorem dX5_withSign_25 : decode cX5_withSign 25 = .ok (.goto (-23), 3) := by decide +kernel
theorem dX5_withSign_28 : decode cX5_withSign 28 = .ok (.bipush (-4), 2) := by decide +kernel
theorem dX5_withSign_30 : decode cX5_withSign 30 = .ok (.ireturn, 1) := by decide +kernel
theorem dX5_addShape_0 : decode cX5_addShape 0 = .ok (.aload_n 0, 1) := by decide +kernel
theorem dX5_addShape_1 : decode cX5_addShape 1 = .ok (.getfield 27, 3) := by decide +kernel
theorem dX5_addShape_4 : decode cX5_addShape 4 = .ok (.bipush 6, 2) := by decide +kernel
theorem dX5_addShape_6 : decode cX5_addShape 6 = .ok (.if_icmp .ge 43, 3) := by decide +kernel
theorem dX5_addShape_9 : decode cX5_addShape 9 = .ok (.aload_n 0, 1) := by decide +kernel
theorem dX5_addShape_10 : decode cX5_addShape 10 = .ok (.getfield 9, 3) := by decide +kernel
theorem dX5_addShape_13 : decode cX5_addShape 13 = .ok (.aload_n 0, 1) := by decide +kernel
theorem dX5_addShape_14 : decode cX5_addShape 14 = .ok (.getfield 27, 3) := by decide +kernel
theorem dX5_addShape_17 : decode cX5_addShape 17 = .ok (.iload_n 1, 1) := by decide +kernel
theorem dX5_addShape_18 : decode cX5_addShape 18 = .ok (.iastore, 1) := by decide +kernel
theorem dX5_addShape_19 : decode cX5_addShape 19 = .ok (.aload_n 0, 1) := by decide +kernel
theorem dX5_addShape_20 : decode cX5_addShape 20 = .ok (.getfield 15, 3) := by decide +kernel
theorem dX5_addShape_23 : decode cX5_addShape 23 = .ok (.aload_n 0, 1) := by decide +kernel
theorem dX5_addShape_24 : decode cX5_addShape 24 = .ok (.getfield 27, 3) := by decide +kernel
theorem dX5_addShape_27 : decode cX5_addShape 27 = .ok (.iload_n 2, 1) := by decide +kernel
theorem dX5_addShape_28 : decode cX5_addShape 28 = .ok (.iastore, 1) := by decide +kernel
theorem dX5_addShape_29 : decode cX5_addShape 29 = .ok (.aload_n 0, 1) := by decide +kernel
theorem dX5_addShape_30 : decode cX5_addShape 30 = .ok (.getfield 18, 3) := by decide +kernel
theorem dX5_addShape_33 : decode cX5_addShape 33 = .ok (.aload_n 0, 1) := by decide +kernel
theorem dX5_addShape_34 : decode cX5_addShape 34 = .ok (.getfield 27, 3) := by decide +kernel
theorem dX5_addShape_37 : decode cX5_addShape 37 = .ok (.iconst 0, 1) := by decide +kernel
theorem dX5_addShape_38 : decode cX5_addShape 38 = .ok (.iastore, 1) := by decide +kernel
theorem dX5_addShape_39 : decode cX5_addShape 39 = .ok (.aload_n 0, 1) := by decide +kernel
theorem dX5_addShape_40 : decode cX5_addShape 40 = .ok (.dup, 1) := by decide +kernel
theorem dX5_addShape_41 : decode cX5_addShape 41 = .ok (.getfield 27, 3) := by decide +kernel
theorem dX5_addShape_44 : decode cX5_addShape 44 = .ok (.iconst 1, 1) := by decide +kernel
theorem dX5_addShape_45 : decode cX5_addShape 45 = .ok (.iadd, 1) := by decide +kernel
theorem dX5_addShape_46 : decode cX5_addShape 46 = .ok (.putfield 27, 3) := by decide +kernel
theorem dX5_addShape_49 : decode cX5_addShape 49 = .ok (.return_, 1) := by decide +kernel
theorem dX5_addStep_0 : decode cX5_addStep 0 = .ok (.aload_n 0, 1) := by decide +kernel
theorem dX5_addStep_1 : decode cX5_addStep 1 = .ok (.getfield 27, 3) := by decide +kernel
theorem dX5_addStep_4 : decode cX5_addStep 4 = .ok (.iconst 1, 1) := by decide +kernel
theorem dX5_addStep_5 : decode cX5_addStep 5 = .ok (.isub, 1) := by decide +kernel
theorem dX5_addStep_6 : decode cX5_addStep 6 = .ok (.istore_n 3, 1) := by decide +kernel
theorem dX5_addStep_7 : decode cX5_addStep 7 = .ok (.iload_n 3, 1) := by decide +kernel
theorem dX5_addStep_8 : decode cX5_addStep 8 = .ok (.ifCond .lt 53, 3) := by decide +kernel
theorem dX5_addStep_11 : decode cX5_addStep 11 = .ok (.aload_n 0, 1) := by decide +kernel
theorem dX5_addStep_12 : decode cX5_addStep 12 = .ok (.getfield 18, 3) := by decide +kernel
theorem dX5_addStep_15 : decode cX5_addStep 15 = .ok (.iload_n 3, 1) := by decide +kernel
theorem dX5_addStep_16 : decode cX5_addStep 16 = .ok (.iaload, 1) := by decide +kernel
theorem dX5_addStep_17 : decode cX5_addStep 17 = .ok (.bipush 8, 2) := by decide +kernel
theorem dX5_addStep_19 : decode cX5_addStep 19 = .ok (.if_icmp .ge 42, 3) := by decide +kernel
theorem dX5_addStep_22 : decode cX5_addStep 22 = .ok (.iload_n 3, 1) := by decide +kernel
theorem dX5_addStep_23 : decode cX5_addStep 23 = .ok (.bipush 8, 2) := by decide +kernel
theorem dX5_addStep_25 : decode cX5_addStep 25 = .ok (.imul, 1) := by decide +kernel
theorem dX5_addStep_26 : decode cX5_addStep 26 = .ok (.aload_n 0, 1) := by decide +kernel
theorem dX5_addStep_27 : decode cX5_addStep 27 = .ok (.getfield 18, 3) := by decide +kernel
theorem dX5_addStep_30 : decode cX5_addStep 30 = .ok (.iload_n 3, 1) := by decide +kernel
theorem dX5_addStep_31 : decode cX5_addStep 31 = .ok (.iaload, 1) := by decide +kernel
theorem dX5_addStep_32 : decode cX5_addStep 32 = .ok (.iadd, 1) := by decide +kernel
theorem dX5_addStep_33 : decode cX5_addStep 33 = .ok (.istore 4, 2) := by decide +kernel
theorem dX5_addStep_35 : decode cX5_addStep 35 = .ok (.aload_n 0, 1) := by decide +kernel
theorem dX5_addStep_36 : decode cX5_addStep 36 = .ok (.getfield 21, 3) := by decide +kernel
theorem dX5_addStep_39 : decode cX5_addStep 39 = .ok (.iload 4, 2) := by decide +kernel
theorem dX5_addStep_41 : decode cX5_addStep 41 = .ok (.iload_n 1, 1) := by decide +kernel
theorem dX5_addStep_42 : decode cX5_addStep 42 = .ok (.iastore, 1) := by decide +kernel
theorem dX5_addStep_43 : decode cX5_addStep 43 = .ok (.aload_n 0, 1) := by decide +kernel
theorem dX5_addStep_44 : decode cX5_addStep 44 = .ok (.getfield 24, 3) := by decide +kernel
theorem dX5_addStep_47 : decode cX5_addStep 47 = .ok (.iload 4, 2) := by decide +kernel
theorem dX5_addStep_49 : decode cX5_addStep 49 = .ok (.iload_n 2, 1) := by decide +kernel
theorem dX5_addStep_50 : decode cX5_addStep 50 = .ok (.iastore, 1) := by decide +kernel
theorem dX5_addStep_51 : decode cX5_addStep 51 = .ok (.aload_n 0, 1) := by decide +kernel
theorem dX5_addStep_52 : decode cX5_addStep 52 = .ok (.getfield 18, 3) := by decide +kernel
theorem dX5_addStep_55 : decode cX5_addStep 55 = .ok (.iload_n 3, 1) := by decide +kernel
theorem dX5_addStep_56 : decode cX5_addStep 56 = .ok (.dup2, 1) := by decide +kernel
theorem dX5_addStep_57 : decode cX5_addStep 57 = .ok (.iaload, 1) := by decide +kernel
theorem dX5_addStep_58 : decode cX5_addStep 58 = .ok (.iconst 1, 1) := by decide +kernel
theorem dX5_addStep_59 : decode cX5_addStep 59 = .ok (.iadd, 1) := by decide +kernel
theorem dX5_addStep_60 : decode cX5_addStep 60 = .ok (.iastore, 1) := by decide +kernel
theorem dX5_addStep_61 : decode cX5_addStep 61 = .ok (.return_, 1) := by decide +kernel
theorem dX5_depthOf_0 : decode cX5_depthOf 0 = .ok (.aload_n 0, 1) := by decide +kernel
theorem dX5_depthOf_1 : decode cX5_depthOf 1 = .ok (.getfield 21, 3) := by decide +kernel
theorem dX5_depthOf_4 : decode cX5_depthOf 4 = .ok (.iload_n 1, 1) := by decide +kernel
theorem dX5_depthOf_5 : decode cX5_depthOf 5 = .ok (.bipush 8, 2) := by decide +kernel
theorem dX5_depthOf_7 : decode cX5_depthOf 7 = .ok (.imul, 1) := by decide +kernel
theorem dX5_depthOf_8 : decode cX5_depthOf 8 = .ok (.iload_n 2, 1) := by decide +kernel
theorem dX5_depthOf_9 : decode cX5_depthOf 9 = .ok (.iadd, 1) := by decide +kernel
theorem dX5_depthOf_10 : decode cX5_depthOf 10 = .ok (.iaload, 1) := by decide +kernel
theorem dX5_depthOf_11 : decode cX5_depthOf 11 = .ok (.ireturn, 1) := by decide +kernel
theorem dX5_extentOf_0 : decode cX5_extentOf 0 = .ok (.aload_n 0, 1) := by decide +kernel
theorem dX5_extentOf_1 : decode cX5_extentOf 1 = .ok (.getfield 24, 3) := by decide +kernel
theorem dX5_extentOf_4 : decode cX5_extentOf 4 = .ok (.iload_n 1, 1) := by decide +kernel
theorem dX5_extentOf_5 : decode cX5_extentOf 5 = .ok (.bipush 8, 2) := by decide +kernel
theorem dX5_extentOf_7 : decode cX5_extentOf 7 = .ok (.imul, 1) := by decide +kernel
theorem dX5_extentOf_8 : decode cX5_extentOf 8 = .ok (.iload_n 2, 1) := by decide +kernel
theorem dX5_extentOf_9 : decode cX5_extentOf 9 = .ok (.iadd, 1) := by decide +kernel
theorem dX5_extentOf_10 : decode cX5_extentOf 10 = .ok (.iaload, 1) := by decide +kernel
theorem dX5_extentOf_11 : decode cX5_extentOf 11 = .ok (.ireturn, 1) := by decide +kernel
theorem dX5_greatestExtent_0 : decode cX5_greatestExtent 0 = .ok (.iconst 0, 1) := by decide +kernel
theorem dX5_greatestExtent_1 : decode cX5_greatestExtent 1 = .ok (.istore_n 2, 1) := by decide +kernel
theorem dX5_greatestExtent_2 : decode cX5_greatestExtent 2 = .ok (.iconst 0, 1) := by decide +kernel
theorem dX5_greatestExtent_3 : decode cX5_greatestExtent 3 = .ok (.istore_n 3, 1) := by decide +kernel
theorem dX5_greatestExtent_4 : decode cX5_greatestExtent 4 = .ok (.iload_n 3, 1) := by decide +kernel
theorem dX5_greatestExtent_5 : decode cX5_greatestExtent 5 = .ok (.aload_n 0, 1) := by decide +kernel
theorem dX5_greatestExtent_6 : decode cX5_greatestExtent 6 = .ok (.getfield 18, 3) := by decide +kernel
theorem dX5_greatestExtent_9 : decode cX5_greatestExtent 9 = .ok (.iload_n 1, 1) := by decide +kernel
theorem dX5_greatestExtent_10 : decode cX5_greatestExtent 10 = .ok (.iaload, 1) := by decide +kernel
theorem dX5_greatestExtent_11 : decode cX5_greatestExtent 11 = .ok (.if_icmp .ge 20, 3) := by decide +kernel
theorem dX5_greatestExtent_14 : decode cX5_greatestExtent 14 = .ok (.iload_n 2, 1) := by decide +kernel
theorem dX5_greatestExtent_15 : decode cX5_greatestExtent 15 = .ok (.aload_n 0, 1) := by decide +kernel
theorem dX5_greatestExtent_16 : decode cX5_greatestExtent 16 = .ok (.iload_n 1, 1) := by decide +kernel
theorem dX5_greatestExtent_17 : decode cX5_greatestExtent 17 = .ok (.iload_n 3, 1) := by decide +kernel
theorem dX5_greatestExtent_18 : decode cX5_greatestExtent 18 = .ok (.invokevirtual 37, 3) := by decide +kernel
theorem dX5_greatestExtent_21 : decode cX5_greatestExtent 21 = .ok (.invokestatic 41, 3) := by decide +kernel
theorem dX5_greatestExtent_24 : decode cX5_greatestExtent 24 = .ok (.istore_n 2, 1) := by decide +kernel
theorem dX5_greatestExtent_25 : decode cX5_greatestExtent 25 = .ok (.iinc 3 1, 3) := by decide +kernel
theorem dX5_greatestExtent_28 : decode cX5_greatestExtent 28 = .ok (.goto (-24), 3) := by decide +kernel
theorem dX5_greatestExtent_31 : decode cX5_greatestExtent 31 = .ok (.iload_n 2, 1) := by decide +kernel
theorem dX5_greatestExtent_32 : decode cX5_greatestExtent 32 = .ok (.ireturn, 1) := by decide +kernel
theorem dX6_init_0 : decode cX6_init 0 = .ok (.aload_n 0, 1) := by decide +kernel
theorem dX6_init_1 : decode cX6_init 1 = .ok (.invokespecial 3, 3) := by decide +kernel
theorem dX6_init_4 : decode cX6_init 4 = .ok (.aload_n 0, 1) := by decide +kernel
theorem dX6_init_5 : decode cX6_init 5 = .ok (.sipush 400, 3) := by decide +kernel
theorem dX6_init_8 : decode cX6_init 8 = .ok (.newarray .byte, 2) := by decide +kernel
theorem dX6_init_10 : decode cX6_init 10 = .ok (.putfield 9, 3) := by decide +kernel
theorem dX6_init_13 : decode cX6_init 13 = .ok (.aload_n 0, 1) := by decide +kernel
theorem dX6_init_14 : decode cX6_init 14 = .ok (.new 13, 3) := by decide +kernel
theorem dX6_init_17 : decode cX6_init 17 = .ok (.dup, 1) := by decide +kernel
theorem dX6_init_18 : decode cX6_init 18 = .ok (.invokespecial 15, 3) := by decide +kernel
theorem dX6_init_21 : decode cX6_init 21 = .ok (.putfield 16, 3) := by decide +kernel
theorem dX6_init_24 : decode cX6_init 24 = .ok (.aload_n 0, 1) := by decide +kernel
theorem dX6_init_25 : decode cX6_init 25 = .ok (.new 20, 3) := by decide +kernel
theorem dX6_init_28 : decode cX6_init 28 = .ok (.dup, 1) := by decide +kernel
theorem dX6_init_29 : decode cX6_init 29 = .ok (.invokespecial 22, 3) := by decide +kernel
theorem dX6_init_32 : decode cX6_init 32 = .ok (.putfield 23, 3) := by decide +kernel
theorem dX6_init_35 : decode cX6_init 35 = .ok (.aload_n 0, 1) := by decide +kernel
theorem dX6_init_36 : decode cX6_init 36 = .ok (.new 13, 3) := by decide +kernel
theorem dX6_init_39 : decode cX6_init 39 = .ok (.dup, 1) := by decide +kernel
theorem dX6_init_40 : decode cX6_init 40 = .ok (.invokespecial 15, 3) := by decide +kernel
theorem dX6_init_43 : decode cX6_init 43 = .ok (.putfield 27, 3) := by decide +kernel
theorem dX6_init_46 : decode cX6_init 46 = .ok (.aload_n 0, 1) := by decide +kernel
theorem dX6_init_47 : decode cX6_init 47 = .ok (.new 20, 3) := by decide +kernel
theorem dX6_init_50 : decode cX6_init 50 = .ok (.dup, 1) := by decide +kernel
theorem dX6_init_51 : decode cX6_init 51 = .ok (.invokespecial 22, 3) := by decide +kernel
theorem dX6_init_54 : decode cX6_init 54 = .ok (.putfield 30, 3) := by decide +kernel
theorem dX6_init_57 : decode cX6_init 57 = .ok (.aload_n 0, 1) := by decide +kernel
theorem dX6_init_58 : decode cX6_init 58 = .ok (.new 33, 3) := by decide +kernel
theorem dX6_init_61 : decode cX6_init 61 = .ok (.dup, 1) := by decide +kernel
theorem dX6_init_62 : decode cX6_init 62 = .ok (.aload_n 0, 1) := by decide +kernel
theorem dX6_init_63 : decode cX6_init 63 = .ok (.getfield 9, 3) := by decide +kernel
theorem dX6_init_66 : decode cX6_init 66 = .ok (.aload_n 0, 1) := by decide +kernel
theorem dX6_init_67 : decode cX6_init 67 = .ok (.getfield 27, 3) := by decide +kernel
theorem dX6_init_70 : decode cX6_init 70 = .ok (.aload_n 0, 1) := by decide +kernel
theorem dX6_init_71 : decode cX6_init 71 = .ok (.getfield 30, 3) := by decide +kernel
theorem dX6_init_74 : decode cX6_init 74 = .ok (.invokespecial 35, 3) := by decide +kernel
theorem dX6_init_77 : decode cX6_init 77 = .ok (.putfield 38, 3) := by decide +kernel
theorem dX6_init_80 : decode cX6_init 80 = .ok (.aload_n 0, 1) := by decide +kernel
theorem dX6_init_81 : decode cX6_init 81 = .ok (.new 42, 3) := by decide +kernel
theorem dX6_init_84 : decode cX6_init 84 = .ok (.dup, 1) := by decide +kernel
theorem dX6_init_85 : decode cX6_init 85 = .ok (.aload_n 0, 1) := by decide +kernel
theorem dX6_init_86 : decode cX6_init 86 = .ok (.getfield 16, 3) := by decide +kernel
theorem dX6_init_89 : decode cX6_init 89 = .ok (.aload_n 0, 1) := by decide +kernel
theorem dX6_init_90 : decode cX6_init 90 = .ok (.getfield 23, 3) := by decide +kernel
theorem dX6_init_93 : decode cX6_init 93 = .ok (.invokespecial 44, 3) := by decide +kernel
theorem dX6_init_96 : decode cX6_init 96 = .ok (.putfield 47, 3) := by decide +kernel
theorem dX6_init_99 : decode cX6_init 99 = .ok (.aload_n 0, 1) := by decide +kernel
theorem dX6_init_100 : decode cX6_init 100 = .ok (.new 51, 3) := by decide +kernel
theorem dX6_init_103 : decode cX6_init 103 = .ok (.dup, 1) := by decide +kernel
theorem dX6_init_104 : decode cX6_init 104 = .ok (.invokespecial 53, 3) := by decide +kernel
theorem dX6_init_107 : decode cX6_init 107 = .ok (.putfield 54, 3) := by decide +kernel
theorem dX6_init_110 : decode cX6_init 110 = .ok (.aload_n 0, 1) := by decide +kernel
theorem dX6_init_111 : decode cX6_init 111 = .ok (.new 58, 3) := by decide +kernel
theorem dX6_init_114 : decode cX6_init 114 = .ok (.dup, 1) := by decide +kernel
theorem dX6_init_115 : decode cX6_init 115 = .ok (.aload_n 0, 1) := by decide +kernel
theorem dX6_init_116 : decode cX6_init 116 = .ok (.getfield 23, 3) := by decide +kernel
theorem dX6_init_119 : decode cX6_init 119 = .ok (.aload_n 0, 1) := by decide +kernel
theorem dX6_init_120 : decode cX6_init 120 = .ok (.getfield 47, 3) := by decide +kernel
theorem dX6_init_123 : decode cX6_init 123 = .ok (.aload_n 0, 1) := by decide +kernel
theorem dX6_init_124 : decode cX6_init 124 = .ok (.getfield 54, 3) := by decide +kernel
theorem dX6_init_127 : decode cX6_init 127 = .ok (.invokespecial 60, 3) := by decide +kernel
theorem dX6_init_130 : decode cX6_init 130 = .ok (.putfield 63, 3) := by decide +kernel
theorem dX6_init_133 : decode cX6_init 133 = .ok (.aload_n 0, 1) := by decide +kernel
theorem dX6_init_134 : decode cX6_init 134 = .ok (.new 58, 3) := by decide +kernel
theorem dX6_init_137 : decode cX6_init 137 = .ok (.dup, 1) := by decide +kernel
theorem dX6_init_138 : decode cX6_init 138 = .ok (.aload_n 0, 1) := by decide +kernel
theorem dX6_init_139 : decode cX6_init 139 = .ok (.getfield 23, 3) := by decide +kernel
theorem dX6_init_142 : decode cX6_init 142 = .ok (.aload_n 0, 1) := by decide +kernel
theorem dX6_init_143 : decode cX6_init 143 = .ok (.getfield 47, 3) := by decide +kernel
theorem dX6_init_146 : decode cX6_init 146 = .ok (.aload_n 0, 1) := by decide +kernel
theorem dX6_init_147 : decode cX6_init 147 = .ok (.getfield 54, 3) := by decide +kernel
theorem dX6_init_150 : decode cX6_init 150 = .ok (.invokespecial 60, 3) := by decide +kernel
theorem dX6_init_153 : decode cX6_init 153 = .ok (.putfield 67, 3) := by decide +kernel
theorem dX6_init_156 : decode cX6_init 156 = .ok (.aload_n 0, 1) := by decide +kernel
theorem dX6_init_157 : decode cX6_init 157 = .ok (.iconst 1, 1) := by decide +kernel
theorem dX6_init_158 : decode cX6_init 158 = .ok (.putfield 70, 3) := by decide +kernel
theorem dX6_init_161 : decode cX6_init 161 = .ok (.aload_n 0, 1) := by decide +kernel
theorem dX6_init_162 : decode cX6_init 162 = .ok (.new 20, 3) := by decide +kernel
theorem dX6_init_165 : decode cX6_init 165 = .ok (.dup, 1) := by decide +kernel
theorem dX6_init_166 : decode cX6_init 166 = .ok (.invokespecial 22, 3) := by decide +kernel
theorem dX6_init_169 : decode cX6_init 169 = .ok (.putfield 74, 3) := by decide +kernel
theorem dX6_init_172 : decode cX6_init 172 = .ok (.aload_n 0, 1) := by decide +kernel
theorem dX6_init_173 : decode cX6_init 173 = .ok (.new 20, 3) := by decide +kernel
theorem dX6_init_176 : decode cX6_init 176 = .ok (.dup, 1) := by decide +kernel
theorem dX6_init_177 : decode cX6_init 177 = .ok (.invokespecial 22, 3) := by decide +kernel
theorem dX6_init_180 : decode cX6_init 180 = .ok (.putfield 77, 3) := by decide +kernel
theorem dX6_init_183 : decode cX6_init 183 = .ok (.return_, 1) := by decide +kernel
theorem dX6_feed_0 : decode cX6_feed 0 = .ok (.iload_n 1, 1) := by decide +kernel
theorem dX6_feed_1 : decode cX6_feed 1 = .ok (.ifCond .lt 9, 3) := by decide +kernel
theorem dX6_feed_4 : decode cX6_feed 4 = .ok (.iload_n 1, 1) := by decide +kernel
theorem dX6_feed_5 : decode cX6_feed 5 = .ok (.bipush 127, 2) := by decide +kernel
theorem dX6_feed_7 : decode cX6_feed 7 = .ok (.if_icmp .le 5, 3) := by decide +kernel
theorem dX6_feed_10 : decode cX6_feed 10 = .ok (.iconst (-1), 1) := by decide +kernel
theorem dX6_feed_11 : decode cX6_feed 11 = .ok (.ireturn, 1) := by decide +kernel
theorem dX6_feed_12 : decode cX6_feed 12 = .ok (.aload_n 0, 1) := by decide +kernel
theorem dX6_feed_13 : decode cX6_feed 13 = .ok (.getfield 80, 3) := by decide +kernel
theorem dX6_feed_16 : decode cX6_feed 16 = .ok (.sipush 400, 3) := by decide +kernel
theorem dX6_feed_19 : decode cX6_feed 19 = .ok (.if_icmp .lt 6, 3) := by decide +kernel
theorem dX6_feed_22 : decode cX6_feed 22 = .ok (.bipush (-3), 2) := by decide +kernel
theorem dX6_feed_24 : decode cX6_feed 24 = .ok (.ireturn, 1) := by decide +kernel
theorem dX6_feed_25 : decode cX6_feed 25 = .ok (.aload_n 0, 1) := by decide +kernel
theorem dX6_feed_26 : decode cX6_feed 26 = .ok (.getfield 9, 3) := by decide +kernel
theorem dX6_feed_29 : decode cX6_feed 29 = .ok (.aload_n 0, 1) := by decide +kernel
theorem dX6_feed_30 : decode cX6_feed 30 = .ok (.getfield 80, 3) := by decide +kernel
theorem dX6_feed_33 : decode cX6_feed 33 = .ok (.iload_n 1, 1) := by decide +kernel
theorem dX6_feed_34 : decode cX6_feed 34 = .ok (.i2b, 1) := by decide +kernel
theorem dX6_feed_35 : decode cX6_feed 35 = .ok (.bastore, 1) := by decide +kernel
theorem dX6_feed_36 : decode cX6_feed 36 = .ok (.aload_n 0, 1) := by decide +kernel
theorem dX6_feed_37 : decode cX6_feed 37 = .ok (.dup, 1) := by decide +kernel
theorem dX6_feed_38 : decode cX6_feed 38 = .ok (.getfield 80, 3) := by decide +kernel
theorem dX6_feed_41 : decode cX6_feed 41 = .ok (.iconst 1, 1) := by decide +kernel
theorem dX6_feed_42 : decode cX6_feed 42 = .ok (.iadd, 1) := by decide +kernel
theorem dX6_feed_43 : decode cX6_feed 43 = .ok (.putfield 80, 3) := by decide +kernel
theorem dX6_feed_46 : decode cX6_feed 46 = .ok (.aload_n 0, 1) := by decide +kernel
theorem dX6_feed_47 : decode cX6_feed 47 = .ok (.getfield 80, 3) := by decide +kernel
theorem dX6_feed_50 : decode cX6_feed 50 = .ok (.ireturn, 1) := by decide +kernel
theorem dX6_end_0 : decode cX6_end 0 = .ok (.iload_n 1, 1) := by decide +kernel
theorem dX6_end_1 : decode cX6_end 1 = .ok (.ifCond .lt 11, 3) := by decide +kernel
theorem dX6_end_4 : decode cX6_end 4 = .ok (.iload_n 1, 1) := by decide +kernel
theorem dX6_end_5 : decode cX6_end 5 = .ok (.aload_n 0, 1) := by decide +kernel
theorem dX6_end_6 : decode cX6_end 6 = .ok (.getfield 80, 3) := by decide +kernel
theorem dX6_end_9 : decode cX6_end 9 = .ok (.if_icmp .le 5, 3) := by decide +kernel
theorem dX6_end_12 : decode cX6_end 12 = .ok (.iconst (-1), 1) := by decide +kernel
theorem dX6_end_13 : decode cX6_end 13 = .ok (.ireturn, 1) := by decide +kernel
theorem dX6_end_14 : decode cX6_end 14 = .ok (.aload_n 0, 1) := by decide +kernel
theorem dX6_end_15 : decode cX6_end 15 = .ok (.getfield 80, 3) := by decide +kernel
theorem dX6_end_18 : decode cX6_end 18 = .ok (.istore_n 2, 1) := by decide +kernel
theorem dX6_end_19 : decode cX6_end 19 = .ok (.aload_n 0, 1) := by decide +kernel
theorem dX6_end_20 : decode cX6_end 20 = .ok (.iload_n 1, 1) := by decide +kernel
theorem dX6_end_21 : decode cX6_end 21 = .ok (.putfield 80, 3) := by decide +kernel
theorem dX6_end_24 : decode cX6_end 24 = .ok (.iload_n 2, 1) := by decide +kernel
theorem dX6_end_25 : decode cX6_end 25 = .ok (.ireturn, 1) := by decide +kernel
theorem dX6_text_0 : decode cX6_text 0 = .ok (.aload_n 0, 1) := by decide +kernel
theorem dX6_text_1 : decode cX6_text 1 = .ok (.getfield 30, 3) := by decide +kernel
theorem dX6_text_4 : decode cX6_text 4 = .ok (.aload_n 0, 1) := by decide +kernel
theorem dX6_text_5 : decode cX6_text 5 = .ok (.getfield 23, 3) := by decide +kernel
theorem dX6_text_8 : decode cX6_text 8 = .ok (.invokevirtual 84, 3) := by decide +kernel
theorem dX6_text_11 : decode cX6_text 11 = .ok (.aload_n 0, 1) := by decide +kernel
theorem dX6_text_12 : decode cX6_text 12 = .ok (.getfield 38, 3) := by decide +kernel
theorem dX6_text_15 : decode cX6_text 15 = .ok (.aload_n 0, 1) := by decide +kernel
theorem dX6_text_16 : decode cX6_text 16 = .ok (.getfield 80, 3) := by decide +kernel
theorem dX6_text_19 : decode cX6_text 19 = .ok (.invokevirtual 88, 3) := by decide +kernel
theorem dX6_text_22 : decode cX6_text 22 = .ok (.istore_n 1, 1) := by decide +kernel
theorem dX6_text_23 : decode cX6_text 23 = .ok (.aload_n 0, 1) := by decide +kernel
theorem dX6_text_24 : decode cX6_text 24 = .ok (.iconst 0, 1) := by decide +kernel
theorem dX6_text_25 : decode cX6_text 25 = .ok (.putfield 80, 3) := by decide +kernel
theorem dX6_text_28 : decode cX6_text 28 = .ok (.aload_n 0, 1) := by decide +kernel
theorem dX6_text_29 : decode cX6_text 29 = .ok (.getfield 38, 3) := by decide +kernel
theorem dX6_text_32 : decode cX6_text 32 = .ok (.invokevirtual 92, 3) := by decide +kernel
theorem dX6_text_35 : decode cX6_text 35 = .ok (.ifCond .ne 40, 3) := by decide +kernel
theorem dX6_text_38 : decode cX6_text 38 = .ok (.aload_n 0, 1) := by decide +kernel
theorem dX6_text_39 : decode cX6_text 39 = .ok (.getfield 16, 3) := by decide +kernel
theorem dX6_text_42 : decode cX6_text 42 = .ok (.aload_n 0, 1) := by decide +kernel
theorem dX6_text_43 : decode cX6_text 43 = .ok (.getfield 27, 3) := by decide +kernel
theorem dX6_text_46 : decode cX6_text 46 = .ok (.invokevirtual 96, 3) := by decide +kernel
theorem dX6_text_49 : decode cX6_text 49 = .ok (.aload_n 0, 1) := by decide +kernel
theorem dX6_text_50 : decode cX6_text 50 = .ok (.getfield 23, 3) := by decide +kernel
theorem dX6_text_53 : decode cX6_text 53 = .ok (.aload_n 0, 1) := by decide +kernel
theorem dX6_text_54 : decode cX6_text 54 = .ok (.getfield 30, 3) := by decide +kernel
theorem dX6_text_57 : decode cX6_text 57 = .ok (.invokevirtual 100, 3) := by decide +kernel
theorem dX6_text_60 : decode cX6_text 60 = .ok (.aload_n 0, 1) := by decide +kernel
theorem dX6_text_61 : decode cX6_text 61 = .ok (.iconst 0, 1) := by decide +kernel
theorem dX6_text_62 : decode cX6_text 62 = .ok (.putfield 102, 3) := by decide +kernel
theorem dX6_text_65 : decode cX6_text 65 = .ok (.aload_n 0, 1) := by decide +kernel
theorem dX6_text_66 : decode cX6_text 66 = .ok (.iconst 0, 1) := by decide +kernel
theorem dX6_text_67 : decode cX6_text 67 = .ok (.putfield 105, 3) := by decide +kernel
theorem dX6_text_70 : decode cX6_text 70 = .ok (.aload_n 0, 1) := by decide +kernel
theorem dX6_text_71 : decode cX6_text 71 = .ok (.iconst 1, 1) := by decide +kernel
theorem dX6_text_72 : decode cX6_text 72 = .ok (.putfield 70, 3) := by decide +kernel
theorem dX6_text_75 : decode cX6_text 75 = .ok (.iload_n 1, 1) := by decide +kernel
theorem dX6_text_76 : decode cX6_text 76 = .ok (.ireturn, 1) := by decide +kernel
theorem dX6_fault_0 : decode cX6_fault 0 = .ok (.aload_n 0, 1) := by decide +kernel
theorem dX6_fault_1 : decode cX6_fault 1 = .ok (.getfield 38, 3) := by decide +kernel
theorem dX6_fault_4 : decode cX6_fault 4 = .ok (.invokevirtual 92, 3) := by decide +kernel
theorem dX6_fault_7 : decode cX6_fault 7 = .ok (.ireturn, 1) := by decide +kernel
theorem dX6_rule_0 : decode cX6_rule 0 = .ok (.iload_n 1, 1) := by decide +kernel
theorem dX6_rule_1 : decode cX6_rule 1 = .ok (.bipush 8, 2) := by decide +kernel
theorem dX6_rule_3 : decode cX6_rule 3 = .ok (.if_icmp .lt 22, 3) := by decide +kernel
theorem dX6_rule_6 : decode cX6_rule 6 = .ok (.iload_n 1, 1) := by decide +kernel
theorem dX6_rule_7 : decode cX6_rule 7 = .ok (.bipush 14, 2) := by decide +kernel
theorem dX6_rule_9 : decode cX6_rule 9 = .ok (.if_icmp .ge 16, 3) := by decide +kernel
theorem dX6_rule_12 : decode cX6_rule 12 = .ok (.aload_n 0, 1) := by decide +kernel
theorem dX6_rule_13 : decode cX6_rule 13 = .ok (.getfield 23, 3) := by decide +kernel
theorem dX6_rule_16 : decode cX6_rule 16 = .ok (.getfield 108, 3) := by decide +kernel
theorem dX6_rule_19 : decode cX6_rule 19 = .ok (.iload_n 1, 1) := by decide +kernel
theorem dX6_rule_20 : decode cX6_rule 20 = .ok (.bipush 8, 2) := by decide +kernel
theorem dX6_rule_22 : decode cX6_rule 22 = .ok (.isub, 1) := by decide +kernel
theorem dX6_rule_23 : decode cX6_rule 23 = .ok (.iaload, 1) := by decide +kernel
theorem dX6_rule_24 : decode cX6_rule 24 = .ok (.ireturn, 1) := by decide +kernel
theorem dX6_rule_25 : decode cX6_rule 25 = .ok (.iload_n 1, 1) := by decide +kernel
theorem dX6_rule_26 : decode cX6_rule 26 = .ok (.tableswitch 181 0 15 #[78, 86, 94, 102, 110, 118, 126, 138, 181, 181, 181, 181, 181, 181, 150, 155], 78) := by decide +kernel
theorem dX6_rule_104 : decode cX6_rule 104 = .ok (.aload_n 0, 1) := by decide +kernel
theorem dX6_rule_105 : decode cX6_rule 105 = .ok (.getfield 16, 3) := by decide +kernel
theorem dX6_rule_108 : decode cX6_rule 108 = .ok (.getfield 112, 3) := by decide +kernel
theorem dX6_rule_111 : decode cX6_rule 111 = .ok (.ireturn, 1) := by decide +kernel
theorem dX6_rule_112 : decode cX6_rule 112 = .ok (.aload_n 0, 1) := by decide +kernel
theorem dX6_rule_113 : decode cX6_rule 113 = .ok (.getfield 23, 3) := by decide +kernel
theorem dX6_rule_116 : decode cX6_rule 116 = .ok (.getfield 115, 3) := by decide +kernel
theorem dX6_rule_119 : decode cX6_rule 119 = .ok (.ireturn, 1) := by decide +kernel
theorem dX6_rule_120 : decode cX6_rule 120 = .ok (.aload_n 0, 1) := by decide +kernel
theorem dX6_rule_121 : decode cX6_rule 121 = .ok (.getfield 23, 3) := by decide +kernel
theorem dX6_rule_124 : decode cX6_rule 124 = .ok (.getfield 116, 3) := by decide +kernel
theorem dX6_rule_127 : decode cX6_rule 127 = .ok (.ireturn, 1) := by decide +kernel
theorem dX6_rule_128 : decode cX6_rule 128 = .ok (.aload_n 0, 1) := by decide +kernel
theorem dX6_rule_129 : decode cX6_rule 129 = .ok (.getfield 23, 3) := by decide +kernel
theorem dX6_rule_132 : decode cX6_rule 132 = .ok (.invokevirtual 119, 3) := by decide +kernel
theorem dX6_rule_135 : decode cX6_rule 135 = .ok (.ireturn, 1) := by decide +kernel
theorem dX6_rule_136 : decode cX6_rule 136 = .ok (.aload_n 0, 1) := by decide +kernel
theorem dX6_rule_137 : decode cX6_rule 137 = .ok (.invokevirtual 122, 3) := by decide +kernel
theorem dX6_rule_140 : decode cX6_rule 140 = .ok (.getfield 126, 3) := by decide +kernel
theorem dX6_rule_143 : decode cX6_rule 143 = .ok (.ireturn, 1) := by decide +kernel
theorem dX6_rule_144 : decode cX6_rule 144 = .ok (.aload_n 0, 1) := by decide +kernel
theorem dX6_rule_145 : decode cX6_rule 145 = .ok (.invokevirtual 122, 3) := by decide +kernel
theorem dX6_rule_148 : decode cX6_rule 148 = .ok (.invokevirtual 129, 3) := by decide +kernel
theorem dX6_rule_151 : decode cX6_rule 151 = .ok (.ireturn, 1) := by decide +kernel
theorem dX6_rule_152 : decode cX6_rule 152 = .ok (.aload_n 0, 1) := by decide +kernel
theorem dX6_rule_153 : decode cX6_rule 153 = .ok (.invokevirtual 122, 3) := by decide +kernel
theorem dX6_rule_156 : decode cX6_rule 156 = .ok (.iconst 0, 1) := by decide +kernel
theorem dX6_rule_157 : decode cX6_rule 157 = .ok (.sipush 152, 3) := by decide +kernel
theorem dX6_rule_160 : decode cX6_rule 160 = .ok (.invokevirtual 132, 3) := by decide +kernel
theorem dX6_rule_163 : decode cX6_rule 163 = .ok (.ireturn, 1) := by decide +kernel
theorem dX6_rule_164 : decode cX6_rule 164 = .ok (.aload_n 0, 1) := by decide +kernel
theorem dX6_rule_165 : decode cX6_rule 165 = .ok (.invokevirtual 122, 3) := by decide +kernel
theorem dX6_rule_168 : decode cX6_rule 168 = .ok (.iconst 0, 1) := by decide +kernel
theorem dX6_rule_169 : decode cX6_rule 169 = .ok (.sipush 152, 3) := by decide +kernel
theorem dX6_rule_172 : decode cX6_rule 172 = .ok (.invokevirtual 136, 3) := by decide +kernel
theorem dX6_rule_175 : decode cX6_rule 175 = .ok (.ireturn, 1) := by decide +kernel
theorem dX6_rule_176 : decode cX6_rule 176 = .ok (.aload_n 0, 1) := by decide +kernel
theorem dX6_rule_177 : decode cX6_rule 177 = .ok (.getfield 80, 3) := by decide +kernel
theorem dX6_rule_180 : decode cX6_rule 180 = .ok (.ireturn, 1) := by decide +kernel
theorem dX6_rule_181 : decode cX6_rule 181 = .ok (.aload_n 0, 1) := by decide +kernel
theorem dX6_rule_182 : decode cX6_rule 182 = .ok (.getfield 102, 3) := by decide +kernel
theorem dX6_rule_185 : decode cX6_rule 185 = .ok (.ifCond .eq 7, 3) := by decide +kernel
theorem dX6_rule_188 : decode cX6_rule 188 = .ok (.iconst 1, 1) := by decide +kernel
theorem dX6_rule_189 : decode cX6_rule 189 = .ok (.goto 4, 3) := by decide +kernel
theorem dX6_rule_192 : decode cX6_rule 192 = .ok (.iconst 0, 1) := by decide +kernel
theorem dX6_rule_193 : decode cX6_rule 193 = .ok (.aload_n 0, 1) := by decide +kernel
theorem dX6_rule_194 : decode cX6_rule 194 = .ok (.getfield 105, 3) := by decide +kernel
theorem dX6_rule_197 : decode cX6_rule 197 = .ok (.ifCond .eq 7, 3) := by decide +kernel
theorem dX6_rule_200 : decode cX6_rule 200 = .ok (.iconst 1, 1) := by decide +kernel
theorem dX6_rule_201 : decode cX6_rule 201 = .ok (.goto 4, 3) := by decide +kernel
theorem dX6_rule_204 : decode cX6_rule 204 = .ok (.iconst 0, 1) := by decide +kernel
theorem dX6_rule_205 : decode cX6_rule 205 = .ok (.iadd, 1) := by decide +kernel
theorem dX6_rule_206 : decode cX6_rule 206 = .ok (.ireturn, 1) := by decide +kernel
theorem dX6_rule_207 : decode cX6_rule 207 = .ok (.iconst (-1), 1) := by decide +kernel
theorem dX6_rule_208 : decode cX6_rule 208 = .ok (.ireturn, 1) := by decide +kernel
theorem dX6_shape_0 : decode cX6_shape 0 = .ok (.aload_n 0, 1) := by decide +kernel
theorem dX6_shape_1 : decode cX6_shape 1 = .ok (.iload_n 1, 1) := by decide +kernel
theorem dX6_shape_2 : decode cX6_shape 2 = .ok (.invokevirtual 139, 3) := by decide +kernel
theorem dX6_shape_5 : decode cX6_shape 5 = .ok (.ifCond .ne 5, 3) := by decide +kernel
theorem dX6_shape_8 : decode cX6_shape 8 = .ok (.iconst (-1), 1) := by decide +kernel
theorem dX6_shape_9 : decode cX6_shape 9 = .ok (.ireturn, 1) := by decide +kernel
theorem dX6_shape_10 : decode cX6_shape 10 = .ok (.iload_n 2, 1) := by decide +kernel
theorem dX6_shape_11 : decode cX6_shape 11 = .ok (.tableswitch 68 0 3 #[29, 39, 49, 59], 29) := by decide +kernel
theorem dX6_shape_40 : decode cX6_shape 40 = .ok (.aload_n 0, 1) := by decide +kernel
theorem dX6_shape_41 : decode cX6_shape 41 = .ok (.getfield 16, 3) := by decide +kernel
theorem dX6_shape_44 : decode cX6_shape 44 = .ok (.getfield 143, 3) := by decide +kernel
theorem dX6_shape_47 : decode cX6_shape 47 = .ok (.iload_n 1, 1) := by decide +kernel
theorem dX6_shape_48 : decode cX6_shape 48 = .ok (.iaload, 1) := by decide +kernel
theorem dX6_shape_49 : decode cX6_shape 49 = .ok (.ireturn, 1) := by decide +kernel
theorem dX6_shape_50 : decode cX6_shape 50 = .ok (.aload_n 0, 1) := by decide +kernel
theorem dX6_shape_51 : decode cX6_shape 51 = .ok (.getfield 16, 3) := by decide +kernel
theorem dX6_shape_54 : decode cX6_shape 54 = .ok (.getfield 146, 3) := by decide +kernel
theorem dX6_shape_57 : decode cX6_shape 57 = .ok (.iload_n 1, 1) := by decide +kernel
theorem dX6_shape_58 : decode cX6_shape 58 = .ok (.iaload, 1) := by decide +kernel
theorem dX6_shape_59 : decode cX6_shape 59 = .ok (.ireturn, 1) := by decide +kernel
theorem dX6_shape_60 : decode cX6_shape 60 = .ok (.aload_n 0, 1) := by decide +kernel
theorem dX6_shape_61 : decode cX6_shape 61 = .ok (.getfield 16, 3) := by decide +kernel
theorem dX6_shape_64 : decode cX6_shape 64 = .ok (.getfield 149, 3) := by decide +kernel
theorem dX6_shape_67 : decode cX6_shape 67 = .ok (.iload_n 1, 1) := by decide +kernel
theorem dX6_shape_68 : decode cX6_shape 68 = .ok (.iaload, 1) := by decide +kernel
theorem dX6_shape_69 : decode cX6_shape 69 = .ok (.ireturn, 1) := by decide +kernel
theorem dX6_shape_70 : decode cX6_shape 70 = .ok (.aload_n 0, 1) := by decide +kernel
theorem dX6_shape_71 : decode cX6_shape 71 = .ok (.getfield 16, 3) := by decide +kernel
theorem dX6_shape_74 : decode cX6_shape 74 = .ok (.iload_n 1, 1) := by decide +kernel
theorem dX6_shape_75 : decode cX6_shape 75 = .ok (.invokevirtual 152, 3) := by decide +kernel
theorem dX6_shape_78 : decode cX6_shape 78 = .ok (.ireturn, 1) := by decide +kernel
theorem dX6_shape_79 : decode cX6_shape 79 = .ok (.iconst (-1), 1) := by decide +kernel
theorem dX6_shape_80 : decode cX6_shape 80 = .ok (.ireturn, 1) := by decide +kernel
theorem dX6_step_0 : decode cX6_step 0 = .ok (.aload_n 0, 1) := by decide +kernel
theorem dX6_step_1 : decode cX6_step 1 = .ok (.iload_n 1, 1) := by decide +kernel
theorem dX6_step_2 : decode cX6_step 2 = .ok (.invokevirtual 139, 3) := by decide +kernel
theorem dX6_step_5 : decode cX6_step 5 = .ok (.ifCond .eq 16, 3) := by decide +kernel
theorem dX6_step_8 : decode cX6_step 8 = .ok (.iload_n 2, 1) := by decide +kernel
theorem dX6_step_9 : decode cX6_step 9 = .ok (.ifCond .lt 12, 3) := by decide +kernel
theorem dX6_step_12 : decode cX6_step 12 = .ok (.iload_n 3, 1) := by decide +kernel
theorem dX6_step_13 : decode cX6_step 13 = .ok (.ifCond .lt 8, 3) := by decide +kernel
theorem dX6_step_16 : decode cX6_step 16 = .ok (.iload_n 3, 1) := by decide +kernel
theorem dX6_step_17 : decode cX6_step 17 = .ok (.iconst 1, 1) := by decide +kernel
theorem dX6_step_18 : decode cX6_step 18 = .ok (.if_icmp .le 5, 3) := by decide +kernel
theorem dX6_step_21 : decode cX6_step 21 = .ok (.iconst (-1), 1) := by decide +kernel
theorem dX6_step_22 : decode cX6_step 22 = .ok (.ireturn, 1) := by decide +kernel
theorem dX6_step_23 : decode cX6_step 23 = .ok (.iload_n 2, 1) := by decide +kernel
theorem dX6_step_24 : decode cX6_step 24 = .ok (.aload_n 0, 1) := by decide +kernel
theorem dX6_step_25 : decode cX6_step 25 = .ok (.getfield 16, 3) := by decide +kernel
theorem dX6_step_28 : decode cX6_step 28 = .ok (.getfield 149, 3) := by decide +kernel
theorem dX6_step_31 : decode cX6_step 31 = .ok (.iload_n 1, 1) := by decide +kernel
theorem dX6_step_32 : decode cX6_step 32 = .ok (.iaload, 1) := by decide +kernel
theorem dX6_step_33 : decode cX6_step 33 = .ok (.if_icmp .lt 6, 3) := by decide +kernel
theorem dX6_step_36 : decode cX6_step 36 = .ok (.bipush (-4), 2) := by decide +kernel
theorem dX6_step_38 : decode cX6_step 38 = .ok (.ireturn, 1) := by decide +kernel
theorem dX6_step_39 : decode cX6_step 39 = .ok (.iload_n 3, 1) := by decide +kernel
theorem dX6_step_40 : decode cX6_step 40 = .ok (.ifCond .ne 15, 3) := by decide +kernel
theorem dX6_step_43 : decode cX6_step 43 = .ok (.aload_n 0, 1) := by decide +kernel
theorem dX6_step_44 : decode cX6_step 44 = .ok (.getfield 16, 3) := by decide +kernel
theorem dX6_step_47 : decode cX6_step 47 = .ok (.iload_n 1, 1) := by decide +kernel
theorem dX6_step_48 : decode cX6_step 48 = .ok (.iload_n 2, 1) := by decide +kernel
theorem dX6_step_49 : decode cX6_step 49 = .ok (.invokevirtual 155, 3) := by decide +kernel
theorem dX6_step_52 : decode cX6_step 52 = .ok (.goto 12, 3) := by decide +kernel
theorem dX6_step_55 : decode cX6_step 55 = .ok (.aload_n 0, 1) := by decide +kernel
theorem dX6_step_56 : decode cX6_step 56 = .ok (.getfield 16, 3) := by decide +kernel
theorem dX6_step_59 : decode cX6_step 59 = .ok (.iload_n 1, 1) := by decide +kernel
theorem dX6_step_60 : decode cX6_step 60 = .ok (.iload_n 2, 1) := by decide +kernel
theorem dX6_step_61 : decode cX6_step 61 = .ok (.invokevirtual 158, 3) := by decide +kernel
theorem dX6_step_64 : decode cX6_step 64 = .ok (.ireturn, 1) := by decide +kernel
theorem dX6_par_0 : decode cX6_par 0 = .ok (.aload_n 0, 1) := by decide +kernel
theorem dX6_par_1 : decode cX6_par 1 = .ok (.iload_n 1, 1) := by decide +kernel
theorem dX6_par_2 : decode cX6_par 2 = .ok (.invokevirtual 161, 3) := by decide +kernel
theorem dX6_par_5 : decode cX6_par 5 = .ok (.ifCond .ne 5, 3) := by decide +kernel
theorem dX6_par_8 : decode cX6_par 8 = .ok (.iconst (-1), 1) := by decide +kernel
theorem dX6_par_9 : decode cX6_par 9 = .ok (.ireturn, 1) := by decide +kernel
theorem dX6_par_10 : decode cX6_par 10 = .ok (.iload_n 2, 1) := by decide +kernel
theorem dX6_par_11 : decode cX6_par 11 = .ok (.tableswitch 65 0 3 #[29, 39, 49, 59], 29) := by decide +kernel
theorem dX6_par_40 : decode cX6_par 40 = .ok (.aload_n 0, 1) := by decide +kernel
theorem dX6_par_41 : decode cX6_par 41 = .ok (.getfield 23, 3) := by decide +kernel
theorem dX6_par_44 : decode cX6_par 44 = .ok (.getfield 164, 3) := by decide +kernel
theorem dX6_par_47 : decode cX6_par 47 = .ok (.iload_n 1, 1) := by decide +kernel
theorem dX6_par_48 : decode cX6_par 48 = .ok (.iaload, 1) := by decide +kernel
theorem dX6_par_49 : decode cX6_par 49 = .ok (.ireturn, 1) := by decide +kernel
theorem dX6_par_50 : decode cX6_par 50 = .ok (.aload_n 0, 1) := by decide +kernel
theorem dX6_par_51 : decode cX6_par 51 = .ok (.getfield 23, 3) := by decide +kernel
theorem dX6_par_54 : decode cX6_par 54 = .ok (.getfield 167, 3) := by decide +kernel
theorem dX6_par_57 : decode cX6_par 57 = .ok (.iload_n 1, 1) := by decide +kernel
theorem dX6_par_58 : decode cX6_par 58 = .ok (.iaload, 1) := by decide +kernel
theorem dX6_par_59 : decode cX6_par 59 = .ok (.ireturn, 1) := by decide +kernel
theorem dX6_par_60 : decode cX6_par 60 = .ok (.aload_n 0, 1) := by decide +kernel
theorem dX6_par_61 : decode cX6_par 61 = .ok (.getfield 23, 3) := by decide +kernel
theorem dX6_par_64 : decode cX6_par 64 = .ok (.getfield 170, 3) := by decide +kernel
theorem dX6_par_67 : decode cX6_par 67 = .ok (.iload_n 1, 1) := by decide +kernel
theorem dX6_par_68 : decode cX6_par 68 = .ok (.iaload, 1) := by decide +kernel
theorem dX6_par_69 : decode cX6_par 69 = .ok (.ireturn, 1) := by decide +kernel
theorem dX6_par_70 : decode cX6_par 70 = .ok (.aload_n 0, 1) := by decide +kernel
theorem dX6_par_71 : decode cX6_par 71 = .ok (.iload_n 1, 1) := by decide +kernel
theorem dX6_par_72 : decode cX6_par 72 = .ok (.invokevirtual 173, 3) := by decide +kernel
theorem dX6_par_75 : decode cX6_par 75 = .ok (.ireturn, 1) := by decide +kernel
theorem dX6_par_76 : decode cX6_par 76 = .ok (.aload_n 0, 1) := by decide +kernel
theorem dX6_par_77 : decode cX6_par 77 = .ok (.iload_n 1, 1) := by decide +kernel
theorem dX6_par_78 : decode cX6_par 78 = .ok (.iload_n 2, 1) := by decide +kernel
theorem dX6_par_79 : decode cX6_par 79 = .ok (.invokevirtual 176, 3) := by decide +kernel
theorem dX6_par_82 : decode cX6_par 82 = .ok (.ireturn, 1) := by decide +kernel
theorem dX6_word_0 : decode cX6_word 0 = .ok (.aload_n 0, 1) := by decide +kernel
theorem dX6_word_1 : decode cX6_word 1 = .ok (.iload_n 1, 1) := by decide +kernel
theorem dX6_word_2 : decode cX6_word 2 = .ok (.invokevirtual 161, 3) := by decide +kernel
theorem dX6_word_5 : decode cX6_word 5 = .ok (.ifCond .eq 16, 3) := by decide +kernel
theorem dX6_word_8 : decode cX6_word 8 = .ok (.iload_n 2, 1) := by decide +kernel
theorem dX6_word_9 : decode cX6_word 9 = .ok (.ifCond .lt 12, 3) := by decide +kernel
theorem dX6_word_12 : decode cX6_word 12 = .ok (.iload_n 3, 1) := by decide +kernel
theorem dX6_word_13 : decode cX6_word 13 = .ok (.ifCond .lt 8, 3) := by decide +kernel
theorem dX6_word_16 : decode cX6_word 16 = .ok (.iload_n 3, 1) := by decide +kernel
theorem dX6_word_17 : decode cX6_word 17 = .ok (.iconst 4, 1) := by decide +kernel
theorem dX6_word_18 : decode cX6_word 18 = .ok (.if_icmp .le 5, 3) := by decide +kernel
theorem dX6_word_21 : decode cX6_word 21 = .ok (.iconst (-1), 1) := by decide +kernel
theorem dX6_word_22 : decode cX6_word 22 = .ok (.ireturn, 1) := by decide +kernel
theorem dX6_word_23 : decode cX6_word 23 = .ok (.iload_n 2, 1) := by decide +kernel
theorem dX6_word_24 : decode cX6_word 24 = .ok (.aload_n 0, 1) := by decide +kernel
theorem dX6_word_25 : decode cX6_word 25 = .ok (.getfield 23, 3) := by decide +kernel
theorem dX6_word_28 : decode cX6_word 28 = .ok (.getfield 164, 3) := by decide +kernel
theorem dX6_word_31 : decode cX6_word 31 = .ok (.iload_n 1, 1) := by decide +kernel
theorem dX6_word_32 : decode cX6_word 32 = .ok (.iaload, 1) := by decide +kernel
theorem dX6_word_33 : decode cX6_word 33 = .ok (.if_icmp .lt 6, 3) := by decide +kernel
theorem dX6_word_36 : decode cX6_word 36 = .ok (.bipush (-4), 2) := by decide +kernel
theorem dX6_word_38 : decode cX6_word 38 = .ok (.ireturn, 1) := by decide +kernel
theorem dX6_word_39 : decode cX6_word 39 = .ok (.aload_n 0, 1) := by decide +kernel
theorem dX6_word_40 : decode cX6_word 40 = .ok (.getfield 23, 3) := by decide +kernel
theorem dX6_word_43 : decode cX6_word 43 = .ok (.iload_n 1, 1) := by decide +kernel
theorem dX6_word_44 : decode cX6_word 44 = .ok (.iload_n 2, 1) := by decide +kernel
theorem dX6_word_45 : decode cX6_word 45 = .ok (.invokevirtual 179, 3) := by decide +kernel
theorem dX6_word_48 : decode cX6_word 48 = .ok (.istore 4, 2) := by decide +kernel
theorem dX6_word_50 : decode cX6_word 50 = .ok (.iload_n 3, 1) := by decide +kernel
theorem dX6_word_51 : decode cX6_word 51 = .ok (.tableswitch 61 0 3 #[29, 35, 41, 51], 29) := by decide +kernel
theorem dX6_word_80 : decode cX6_word 80 = .ok (.iload 4, 2) := by decide +kernel
theorem dX6_word_82 : decode cX6_word 82 = .ok (.invokestatic 182, 3) := by decide +kernel
theorem dX6_word_85 : decode cX6_word 85 = .ok (.ireturn, 1) := by decide +kernel
theorem dX6_word_86 : decode cX6_word 86 = .ok (.iload 4, 2) := by decide +kernel
theorem dX6_word_88 : decode cX6_word 88 = .ok (.invokestatic 185, 3) := by decide +kernel
theorem dX6_word_91 : decode cX6_word 91 = .ok (.ireturn, 1) := by decide +kernel
theorem dX6_word_92 : decode cX6_word 92 = .ok (.aload_n 0, 1) := by decide +kernel
theorem dX6_word_93 : decode cX6_word 93 = .ok (.getfield 23, 3) := by decide +kernel
theorem dX6_word_96 : decode cX6_word 96 = .ok (.iload 4, 2) := by decide +kernel
theorem dX6_word_98 : decode cX6_word 98 = .ok (.invokevirtual 188, 3) := by decide +kernel
theorem dX6_word_101 : decode cX6_word 101 = .ok (.ireturn, 1) := by decide +kernel
theorem dX6_word_102 : decode cX6_word 102 = .ok (.aload_n 0, 1) := by decide +kernel
theorem dX6_word_103 : decode cX6_word 103 = .ok (.invokevirtual 122, 3) := by decide +kernel
theorem dX6_word_106 : decode cX6_word 106 = .ok (.iload_n 1, 1) := by decide +kernel
theorem dX6_word_107 : decode cX6_word 107 = .ok (.iload_n 2, 1) := by decide +kernel
theorem dX6_word_108 : decode cX6_word 108 = .ok (.invokevirtual 191, 3) := by decide +kernel
theorem dX6_word_111 : decode cX6_word 111 = .ok (.ireturn, 1) := by decide +kernel
theorem dX6_word_112 : decode cX6_word 112 = .ok (.aload_n 0, 1) := by decide +kernel
theorem dX6_word_113 : decode cX6_word 113 = .ok (.invokevirtual 122, 3) := by decide +kernel
theorem dX6_word_116 : decode cX6_word 116 = .ok (.iload_n 1, 1) := by decide +kernel
theorem dX6_word_117 : decode cX6_word 117 = .ok (.iload_n 2, 1) := by decide +kernel
theorem dX6_word_118 : decode cX6_word 118 = .ok (.invokevirtual 194, 3) := by decide +kernel
theorem dX6_word_121 : decode cX6_word 121 = .ok (.ireturn, 1) := by decide +kernel
theorem dX6_letter_0 : decode cX6_letter 0 = .ok (.aload_n 0, 1) := by decide +kernel
theorem dX6_letter_1 : decode cX6_letter 1 = .ok (.iload_n 1, 1) := by decide +kernel
theorem dX6_letter_2 : decode cX6_letter 2 = .ok (.invokevirtual 161, 3) := by decide +kernel
theorem dX6_letter_5 : decode cX6_letter 5 = .ok (.ifCond .eq 11, 3) := by decide +kernel
theorem dX6_letter_8 : decode cX6_letter 8 = .ok (.iload_n 2, 1) := by decide +kernel
theorem dX6_letter_9 : decode cX6_letter 9 = .ok (.ifCond .lt 7, 3) := by decide +kernel
theorem dX6_letter_12 : decode cX6_letter 12 = .ok (.iload_n 3, 1) := by decide +kernel
theorem dX6_letter_13 : decode cX6_letter 13 = .ok (.ifCond .ge 5, 3) := by decide +kernel
theorem dX6_letter_16 : decode cX6_letter 16 = .ok (.iconst (-1), 1) := by decide +kernel
theorem dX6_letter_17 : decode cX6_letter 17 = .ok (.ireturn, 1) := by decide +kernel
theorem dX6_letter_18 : decode cX6_letter 18 = .ok (.iload_n 2, 1) := by decide +kernel
theorem dX6_letter_19 : decode cX6_letter 19 = .ok (.aload_n 0, 1) := by decide +kernel
theorem dX6_letter_20 : decode cX6_letter 20 = .ok (.getfield 23, 3) := by decide +kernel
theorem dX6_letter_23 : decode cX6_letter 23 = .ok (.getfield 164, 3) := by decide +kernel
theorem dX6_letter_26 : decode cX6_letter 26 = .ok (.iload_n 1, 1) := by decide +kernel
theorem dX6_letter_27 : decode cX6_letter 27 = .ok (.iaload, 1) := by decide +kernel
theorem dX6_letter_28 : decode cX6_letter 28 = .ok (.if_icmp .lt 6, 3) := by decide +kernel
theorem dX6_letter_31 : decode cX6_letter 31 = .ok (.bipush (-4), 2) := by decide +kernel
theorem dX6_letter_33 : decode cX6_letter 33 = .ok (.ireturn, 1) := by decide +kernel
theorem dX6_letter_34 : decode cX6_letter 34 = .ok (.aload_n 0, 1) := by decide +kernel
theorem dX6_letter_35 : decode cX6_letter 35 = .ok (.getfield 23, 3) := by decide +kernel
theorem dX6_letter_38 : decode cX6_letter 38 = .ok (.iload_n 1, 1) := by decide +kernel
theorem dX6_letter_39 : decode cX6_letter 39 = .ok (.iload_n 2, 1) := by decide +kernel
theorem dX6_letter_40 : decode cX6_letter 40 = .ok (.invokevirtual 179, 3) := by decide +kernel
theorem dX6_letter_43 : decode cX6_letter 43 = .ok (.istore 4, 2) := by decide +kernel
theorem dX6_letter_45 : decode cX6_letter 45 = .ok (.iload_n 3, 1) := by decide +kernel
theorem dX6_letter_46 : decode cX6_letter 46 = .ok (.iload 4, 2) := by decide +kernel
theorem dX6_letter_48 : decode cX6_letter 48 = .ok (.invokestatic 182, 3) := by decide +kernel
theorem dX6_letter_51 : decode cX6_letter 51 = .ok (.if_icmp .lt 8, 3) := by decide +kernel
theorem dX6_letter_54 : decode cX6_letter 54 = .ok (.bipush (-4), 2) := by decide +kernel
theorem dX6_letter_56 : decode cX6_letter 56 = .ok (.goto 9, 3) := by decide +kernel
theorem dX6_letter_59 : decode cX6_letter 59 = .ok (.iload 4, 2) := by decide +kernel
theorem dX6_letter_61 : decode cX6_letter 61 = .ok (.iload_n 3, 1) := by decide +kernel
theorem dX6_letter_62 : decode cX6_letter 62 = .ok (.invokestatic 197, 3) := by decide +kernel
theorem dX6_letter_65 : decode cX6_letter 65 = .ok (.ireturn, 1) := by decide +kernel
theorem dX6_drawn_0 : decode cX6_drawn 0 = .ok (.aload_n 0, 1) := by decide +kernel
theorem dX6_drawn_1 : decode cX6_drawn 1 = .ok (.iload_n 1, 1) := by decide +kernel
theorem dX6_drawn_2 : decode cX6_drawn 2 = .ok (.invokevirtual 161, 3) := by decide +kernel
theorem dX6_drawn_5 : decode cX6_drawn 5 = .ok (.ifCond .eq 16, 3) := by decide +kernel
theorem dX6_drawn_8 : decode cX6_drawn 8 = .ok (.iload_n 2, 1) := by decide +kernel
theorem dX6_drawn_9 : decode cX6_drawn 9 = .ok (.ifCond .lt 12, 3) := by decide +kernel
theorem dX6_drawn_12 : decode cX6_drawn 12 = .ok (.iload_n 3, 1) := by decide +kernel
theorem dX6_drawn_13 : decode cX6_drawn 13 = .ok (.ifCond .lt 8, 3) := by decide +kernel
theorem dX6_drawn_16 : decode cX6_drawn 16 = .ok (.iload_n 3, 1) := by decide +kernel
theorem dX6_drawn_17 : decode cX6_drawn 17 = .ok (.iconst 2, 1) := by decide +kernel
theorem dX6_drawn_18 : decode cX6_drawn 18 = .ok (.if_icmp .le 5, 3) := by decide +kernel
theorem dX6_drawn_21 : decode cX6_drawn 21 = .ok (.iconst (-1), 1) := by decide +kernel
theorem dX6_drawn_22 : decode cX6_drawn 22 = .ok (.ireturn, 1) := by decide +kernel
theorem dX6_drawn_23 : decode cX6_drawn 23 = .ok (.aload_n 0, 1) := by decide +kernel
theorem dX6_drawn_24 : decode cX6_drawn 24 = .ok (.getfield 47, 3) := by decide +kernel
theorem dX6_drawn_27 : decode cX6_drawn 27 = .ok (.iload_n 1, 1) := by decide +kernel
theorem dX6_drawn_28 : decode cX6_drawn 28 = .ok (.invokevirtual 200, 3) := by decide +kernel
theorem dX6_drawn_31 : decode cX6_drawn 31 = .ok (.iload_n 2, 1) := by decide +kernel
theorem dX6_drawn_32 : decode cX6_drawn 32 = .ok (.aload_n 0, 1) := by decide +kernel
theorem dX6_drawn_33 : decode cX6_drawn 33 = .ok (.getfield 47, 3) := by decide +kernel
theorem dX6_drawn_36 : decode cX6_drawn 36 = .ok (.getfield 204, 3) := by decide +kernel
theorem dX6_drawn_39 : decode cX6_drawn 39 = .ok (.if_icmp .lt 6, 3) := by decide +kernel
theorem dX6_drawn_42 : decode cX6_drawn 42 = .ok (.bipush (-4), 2) := by decide +kernel
theorem dX6_drawn_44 : decode cX6_drawn 44 = .ok (.ireturn, 1) := by decide +kernel
theorem dX6_drawn_45 : decode cX6_drawn 45 = .ok (.iload_n 3, 1) := by decide +kernel
theorem dX6_drawn_46 : decode cX6_drawn 46 = .ok (.lookupswitch 46 #[(0, 26), (1, 36)], 26) := by decide +kernel
theorem dX6_drawn_72 : decode cX6_drawn 72 = .ok (.aload_n 0, 1) := by decide +kernel
theorem dX6_drawn_73 : decode cX6_drawn 73 = .ok (.getfield 47, 3) := by decide +kernel
theorem dX6_drawn_76 : decode cX6_drawn 76 = .ok (.getfield 206, 3) := by decide +kernel
theorem dX6_drawn_79 : decode cX6_drawn 79 = .ok (.iload_n 2, 1) := by decide +kernel
theorem dX6_drawn_80 : decode cX6_drawn 80 = .ok (.iaload, 1) := by decide +kernel
theorem dX6_drawn_81 : decode cX6_drawn 81 = .ok (.ireturn, 1) := by decide +kernel
theorem dX6_drawn_82 : decode cX6_drawn 82 = .ok (.aload_n 0, 1) := by decide +kernel
theorem dX6_drawn_83 : decode cX6_drawn 83 = .ok (.getfield 47, 3) := by decide +kernel
theorem dX6_drawn_86 : decode cX6_drawn 86 = .ok (.getfield 209, 3) := by decide +kernel
theorem dX6_drawn_89 : decode cX6_drawn 89 = .ok (.iload_n 2, 1) := by decide +kernel
theorem dX6_drawn_90 : decode cX6_drawn 90 = .ok (.iaload, 1) := by decide +kernel
theorem dX6_drawn_91 : decode cX6_drawn 91 = .ok (.ireturn, 1) := by decide +kernel
theorem dX6_drawn_92 : decode cX6_drawn 92 = .ok (.aload_n 0, 1) := by decide +kernel
theorem dX6_drawn_93 : decode cX6_drawn 93 = .ok (.getfield 47, 3) := by decide +kernel
theorem dX6_drawn_96 : decode cX6_drawn 96 = .ok (.getfield 212, 3) := by decide +kernel
theorem dX6_drawn_99 : decode cX6_drawn 99 = .ok (.iload_n 2, 1) := by decide +kernel
theorem dX6_drawn_100 : decode cX6_drawn 100 = .ok (.iaload, 1) := by decide +kernel
theorem dX6_drawn_101 : decode cX6_drawn 101 = .ok (.ireturn, 1) := by decide +kernel
theorem dX6_reach_0 : decode cX6_reach 0 = .ok (.aload_n 0, 1) := by decide +kernel
theorem dX6_reach_1 : decode cX6_reach 1 = .ok (.iload_n 1, 1) := by decide +kernel
theorem dX6_reach_2 : decode cX6_reach 2 = .ok (.invokevirtual 161, 3) := by decide +kernel
theorem dX6_reach_5 : decode cX6_reach 5 = .ok (.ifCond .eq 7, 3) := by decide +kernel
theorem dX6_reach_8 : decode cX6_reach 8 = .ok (.iload_n 2, 1) := by decide +kernel
theorem dX6_reach_9 : decode cX6_reach 9 = .ok (.ifCond .ge 5, 3) := by decide +kernel
theorem dX6_reach_12 : decode cX6_reach 12 = .ok (.iconst (-1), 1) := by decide +kernel
theorem dX6_reach_13 : decode cX6_reach 13 = .ok (.ireturn, 1) := by decide +kernel
theorem dX6_reach_14 : decode cX6_reach 14 = .ok (.aload_n 0, 1) := by decide +kernel
theorem dX6_reach_15 : decode cX6_reach 15 = .ok (.getfield 23, 3) := by decide +kernel
theorem dX6_reach_18 : decode cX6_reach 18 = .ok (.iload_n 1, 1) := by decide +kernel
theorem dX6_reach_19 : decode cX6_reach 19 = .ok (.invokevirtual 215, 3) := by decide +kernel
theorem dX6_reach_22 : decode cX6_reach 22 = .ok (.ifCond .ne 6, 3) := by decide +kernel
theorem dX6_reach_25 : decode cX6_reach 25 = .ok (.bipush (-4), 2) := by decide +kernel
theorem dX6_reach_27 : decode cX6_reach 27 = .ok (.ireturn, 1) := by decide +kernel
theorem dX6_reach_28 : decode cX6_reach 28 = .ok (.aload_n 0, 1) := by decide +kernel
theorem dX6_reach_29 : decode cX6_reach 29 = .ok (.getfield 47, 3) := by decide +kernel
theorem dX6_reach_32 : decode cX6_reach 32 = .ok (.iload_n 1, 1) := by decide +kernel
theorem dX6_reach_33 : decode cX6_reach 33 = .ok (.invokevirtual 200, 3) := by decide +kernel
theorem dX6_reach_36 : decode cX6_reach 36 = .ok (.aload_n 0, 1) := by decide +kernel
theorem dX6_reach_37 : decode cX6_reach 37 = .ok (.getfield 47, 3) := by decide +kernel
theorem dX6_reach_40 : decode cX6_reach 40 = .ok (.iload_n 2, 1) := by decide +kernel
theorem dX6_reach_41 : decode cX6_reach 41 = .ok (.invokevirtual 218, 3) := by decide +kernel
theorem dX6_reach_44 : decode cX6_reach 44 = .ok (.ireturn, 1) := by decide +kernel
theorem dX6_line_0 : decode cX6_line 0 = .ok (.aload_n 0, 1) := by decide +kernel
theorem dX6_line_1 : decode cX6_line 1 = .ok (.invokevirtual 122, 3) := by decide +kernel
theorem dX6_line_4 : decode cX6_line 4 = .ok (.astore_n 3, 1) := by decide +kernel
theorem dX6_line_5 : decode cX6_line 5 = .ok (.iload_n 1, 1) := by decide +kernel
theorem dX6_line_6 : decode cX6_line 6 = .ok (.ifCond .lt 21, 3) := by decide +kernel
theorem dX6_line_9 : decode cX6_line 9 = .ok (.iload_n 1, 1) := by decide +kernel
theorem dX6_line_10 : decode cX6_line 10 = .ok (.aload_n 3, 1) := by decide +kernel
theorem dX6_line_11 : decode cX6_line 11 = .ok (.getfield 126, 3) := by decide +kernel
theorem dX6_line_14 : decode cX6_line 14 = .ok (.if_icmp .ge 13, 3) := by decide +kernel
theorem dX6_line_17 : decode cX6_line 17 = .ok (.iload_n 2, 1) := by decide +kernel
theorem dX6_line_18 : decode cX6_line 18 = .ok (.ifCond .lt 9, 3) := by decide +kernel
theorem dX6_line_21 : decode cX6_line 21 = .ok (.iload_n 2, 1) := by decide +kernel
theorem dX6_line_22 : decode cX6_line 22 = .ok (.bipush 7, 2) := by decide +kernel
theorem dX6_line_24 : decode cX6_line 24 = .ok (.if_icmp .le 5, 3) := by decide +kernel
theorem dX6_line_27 : decode cX6_line 27 = .ok (.iconst (-1), 1) := by decide +kernel
theorem dX6_line_28 : decode cX6_line 28 = .ok (.ireturn, 1) := by decide +kernel
theorem dX6_line_29 : decode cX6_line 29 = .ok (.aload_n 3, 1) := by decide +kernel
theorem dX6_line_30 : decode cX6_line 30 = .ok (.getfield 221, 3) := by decide +kernel
theorem dX6_line_33 : decode cX6_line 33 = .ok (.iload_n 1, 1) := by decide +kernel
theorem dX6_line_34 : decode cX6_line 34 = .ok (.iaload, 1) := by decide +kernel
theorem dX6_line_35 : decode cX6_line 35 = .ok (.ifCond .ge 6, 3) := by decide +kernel
theorem dX6_line_38 : decode cX6_line 38 = .ok (.bipush (-4), 2) := by decide +kernel
theorem dX6_line_40 : decode cX6_line 40 = .ok (.ireturn, 1) := by decide +kernel
theorem dX6_line_41 : decode cX6_line 41 = .ok (.iload_n 2, 1) := by decide +kernel
theorem dX6_line_42 : decode cX6_line 42 = .ok (.tableswitch 98 0 6 #[42, 49, 56, 63, 70, 77, 84], 42) := by decide +kernel
theorem dX6_line_84 : decode cX6_line 84 = .ok (.aload_n 3, 1) := by decide +kernel
theorem dX6_line_85 : decode cX6_line 85 = .ok (.getfield 221, 3) := by decide +kernel
theorem dX6_line_88 : decode cX6_line 88 = .ok (.iload_n 1, 1) := by decide +kernel
theorem dX6_line_89 : decode cX6_line 89 = .ok (.iaload, 1) := by decide +kernel
theorem dX6_line_90 : decode cX6_line 90 = .ok (.ireturn, 1) := by decide +kernel
theorem dX6_line_91 : decode cX6_line 91 = .ok (.aload_n 3, 1) := by decide +kernel
theorem dX6_line_92 : decode cX6_line 92 = .ok (.getfield 224, 3) := by decide +kernel
theorem dX6_line_95 : decode cX6_line 95 = .ok (.iload_n 1, 1) := by decide +kernel
theorem dX6_line_96 : decode cX6_line 96 = .ok (.iaload, 1) := by decide +kernel
theorem dX6_line_97 : decode cX6_line 97 = .ok (.ireturn, 1) := by decide +kernel
theorem dX6_line_98 : decode cX6_line 98 = .ok (.aload_n 3, 1) := by decide +kernel
theorem dX6_line_99 : decode cX6_line 99 = .ok (.getfield 227, 3) := by decide +kernel
theorem dX6_line_102 : decode cX6_line 102 = .ok (.iload_n 1, 1) := by decide +kernel
theorem dX6_line_103 : decode cX6_line 103 = .ok (.iaload, 1) := by decide +kernel
theorem dX6_line_104 : decode cX6_line 104 = .ok (.ireturn, 1) := by decide +kernel
theorem dX6_line_105 : decode cX6_line 105 = .ok (.aload_n 3, 1) := by decide +kernel
theorem dX6_line_106 : decode cX6_line 106 = .ok (.getfield 230, 3) := by decide +kernel
theorem dX6_line_109 : decode cX6_line 109 = .ok (.iload_n 1, 1) := by decide +kernel
theorem dX6_line_110 : decode cX6_line 110 = .ok (.iaload, 1) := by decide +kernel
theorem dX6_line_111 : decode cX6_line 111 = .ok (.ireturn, 1) := by decide +kernel
theorem dX6_line_112 : decode cX6_line 112 = .ok (.aload_n 3, 1) := by decide +kernel
theorem dX6_line_113 : decode cX6_line 113 = .ok (.getfield 233, 3) := by decide +kernel
theorem dX6_line_116 : decode cX6_line 116 = .ok (.iload_n 1, 1) := by decide +kernel
theorem dX6_line_117 : decode cX6_line 117 = .ok (.iaload, 1) := by decide +kernel
theorem dX6_line_118 : decode cX6_line 118 = .ok (.ireturn, 1) := by decide +kernel
theorem dX6_line_119 : decode cX6_line 119 = .ok (.aload_n 3, 1) := by decide +kernel
theorem dX6_line_120 : decode cX6_line 120 = .ok (.getfield 236, 3) := by decide +kernel
theorem dX6_line_123 : decode cX6_line 123 = .ok (.iload_n 1, 1) := by decide +kernel
theorem dX6_line_124 : decode cX6_line 124 = .ok (.iaload, 1) := by decide +kernel
theorem dX6_line_125 : decode cX6_line 125 = .ok (.ireturn, 1) := by decide +kernel
theorem dX6_line_126 : decode cX6_line 126 = .ok (.aload_n 3, 1) := by decide +kernel
theorem dX6_line_127 : decode cX6_line 127 = .ok (.iload_n 1, 1) := by decide +kernel
theorem dX6_line_128 : decode cX6_line 128 = .ok (.invokevirtual 239, 3) := by decide +kernel
theorem dX6_line_131 : decode cX6_line 131 = .ok (.ifCond .eq 7, 3) := by decide +kernel
theorem dX6_line_134 : decode cX6_line 134 = .ok (.iconst 1, 1) := by decide +kernel
theorem dX6_line_135 : decode cX6_line 135 = .ok (.goto 4, 3) := by decide +kernel
theorem dX6_line_138 : decode cX6_line 138 = .ok (.iconst 0, 1) := by decide +kernel
theorem dX6_line_139 : decode cX6_line 139 = .ok (.ireturn, 1) := by decide +kernel
theorem dX6_line_140 : decode cX6_line 140 = .ok (.aload_n 3, 1) := by decide +kernel
theorem dX6_line_141 : decode cX6_line 141 = .ok (.getfield 242, 3) := by decide +kernel
theorem dX6_line_144 : decode cX6_line 144 = .ok (.iload_n 1, 1) := by decide +kernel
theorem dX6_line_145 : decode cX6_line 145 = .ok (.baload, 1) := by decide +kernel
theorem dX6_line_146 : decode cX6_line 146 = .ok (.ifCond .eq 7, 3) := by decide +kernel
theorem dX6_line_149 : decode cX6_line 149 = .ok (.iconst 1, 1) := by decide +kernel
theorem dX6_line_150 : decode cX6_line 150 = .ok (.goto 4, 3) := by decide +kernel
theorem dX6_line_153 : decode cX6_line 153 = .ok (.iconst 0, 1) := by decide +kernel
theorem dX6_line_154 : decode cX6_line 154 = .ok (.ireturn, 1) := by decide +kernel
theorem dX6_sign_0 : decode cX6_sign 0 = .ok (.aload_n 0, 1) := by decide +kernel
theorem dX6_sign_1 : decode cX6_sign 1 = .ok (.invokevirtual 122, 3) := by decide +kernel
theorem dX6_sign_4 : decode cX6_sign 4 = .ok (.astore_n 3, 1) := by decide +kernel
theorem dX6_sign_5 : decode cX6_sign 5 = .ok (.iload_n 1, 1) := by decide +kernel
theorem dX6_sign_6 : decode cX6_sign 6 = .ok (.ifCond .lt 15, 3) := by decide +kernel
theorem dX6_sign_9 : decode cX6_sign 9 = .ok (.iload_n 1, 1) := by decide +kernel
theorem dX6_sign_10 : decode cX6_sign 10 = .ok (.aload_n 3, 1) := by decide +kernel
theorem dX6_sign_11 : decode cX6_sign 11 = .ok (.getfield 126, 3) := by decide +kernel
theorem dX6_sign_14 : decode cX6_sign 14 = .ok (.if_icmp .ge 7, 3) := by decide +kernel
theorem dX6_sign_17 : decode cX6_sign 17 = .ok (.iload_n 2, 1) := by decide +kernel
theorem dX6_sign_18 : decode cX6_sign 18 = .ok (.ifCond .ge 5, 3) := by decide +kernel
theorem dX6_sign_21 : decode cX6_sign 21 = .ok (.iconst (-1), 1) := by decide +kernel
theorem dX6_sign_22 : decode cX6_sign 22 = .ok (.ireturn, 1) := by decide +kernel
theorem dX6_sign_23 : decode cX6_sign 23 = .ok (.aload_n 3, 1) := by decide +kernel
theorem dX6_sign_24 : decode cX6_sign 24 = .ok (.getfield 221, 3) := by decide +kernel
theorem dX6_sign_27 : decode cX6_sign 27 = .ok (.iload_n 1, 1) := by decide +kernel
theorem dX6_sign_28 : decode cX6_sign 28 = .ok (.iaload, 1) := by decide +kernel
theorem dX6_sign_29 : decode cX6_sign 29 = .ok (.istore 4, 2) := by decide +kernel
theorem dX6_sign_31 : decode cX6_sign 31 = .ok (.iload 4, 2) := by decide +kernel
theorem dX6_sign_33 : decode cX6_sign 33 = .ok (.ifCond .ge 6, 3) := by decide +kernel
theorem dX6_sign_36 : decode cX6_sign 36 = .ok (.bipush (-4), 2) := by decide +kernel
theorem dX6_sign_38 : decode cX6_sign 38 = .ok (.ireturn, 1) := by decide +kernel
theorem dX6_sign_39 : decode cX6_sign 39 = .ok (.iload_n 2, 1) := by decide +kernel
theorem dX6_sign_40 : decode cX6_sign 40 = .ok (.istore 5, 2) := by decide +kernel
theorem dX6_sign_42 : decode cX6_sign 42 = .ok (.iconst 0, 1) := by decide +kernel
theorem dX6_sign_43 : decode cX6_sign 43 = .ok (.istore 6, 2) := by decide +kernel
theorem dX6_sign_45 : decode cX6_sign 45 = .ok (.iload 6, 2) := by decide +kernel
theorem dX6_sign_47 : decode cX6_sign 47 = .ok (.aload_n 3, 1) := by decide +kernel
theorem dX6_sign_48 : decode cX6_sign 48 = .ok (.getfield 227, 3) := by decide +kernel
theorem dX6_sign_51 : decode cX6_sign 51 = .ok (.iload_n 1, 1) := by decide +kernel
theorem dX6_sign_52 : decode cX6_sign 52 = .ok (.iaload, 1) := by decide +kernel
theorem dX6_sign_53 : decode cX6_sign 53 = .ok (.if_icmp .ge 102, 3) := by decide +kernel
theorem dX6_sign_56 : decode cX6_sign 56 = .ok (.aload_n 0, 1) := by decide +kernel
theorem dX6_sign_57 : decode cX6_sign 57 = .ok (.getfield 23, 3) := by decide +kernel
theorem dX6_sign_60 : decode cX6_sign 60 = .ok (.iload 4, 2) := by decide +kernel
theorem dX6_sign_62 : decode cX6_sign 62 = .ok (.aload_n 3, 1) := by decide +kernel
theorem dX6_sign_63 : decode cX6_sign 63 = .ok (.getfield 224, 3) := by decide +kernel
theorem dX6_sign_66 : decode cX6_sign 66 = .ok (.iload_n 1, 1) := by decide +kernel
theorem dX6_sign_67 : decode cX6_sign 67 = .ok (.iaload, 1) := by decide +kernel
theorem dX6_sign_68 : decode cX6_sign 68 = .ok (.iload 6, 2) := by decide +kernel
theorem dX6_sign_70 : decode cX6_sign 70 = .ok (.iadd, 1) := by decide +kernel
theorem dX6_sign_71 : decode cX6_sign 71 = .ok (.invokevirtual 179, 3) := by decide +kernel
theorem dX6_sign_74 : decode cX6_sign 74 = .ok (.istore 7, 2) := by decide +kernel
theorem dX6_sign_76 : decode cX6_sign 76 = .ok (.iload 7, 2) := by decide +kernel
theorem dX6_sign_78 : decode cX6_sign 78 = .ok (.invokestatic 182, 3) := by decide +kernel
theorem dX6_sign_81 : decode cX6_sign 81 = .ok (.istore 8, 2) := by decide +kernel
theorem dX6_sign_83 : decode cX6_sign 83 = .ok (.iload 5, 2) := by decide +kernel
theorem dX6_sign_85 : decode cX6_sign 85 = .ok (.iload 8, 2) := by decide +kernel
theorem dX6_sign_87 : decode cX6_sign 87 = .ok (.if_icmp .ge 11, 3) := by decide +kernel
theorem dX6_sign_90 : decode cX6_sign 90 = .ok (.iload 7, 2) := by decide +kernel
theorem dX6_sign_92 : decode cX6_sign 92 = .ok (.iload 5, 2) := by decide +kernel
theorem dX6_sign_94 : decode cX6_sign 94 = .ok (.invokestatic 197, 3) := by decide +kernel
theorem dX6_sign_97 : decode cX6_sign 97 = .ok (.ireturn, 1) := by decide +kernel
theorem dX6_sign_98 : decode cX6_sign 98 = .ok (.iload 6, 2) := by decide +kernel
theorem dX6_sign_100 : decode cX6_sign 100 = .ok (.aload_n 3, 1) := by decide +kernel
theorem dX6_sign_101 : decode cX6_sign 101 = .ok (.getfield 227, 3) := by decide +kernel
theorem dX6_sign_104 : decode cX6_sign 104 = .ok (.iload_n 1, 1) := by decide +kernel
theorem dX6_sign_105 : decode cX6_sign 105 = .ok (.iaload, 1) := by decide +kernel
theorem dX6_sign_106 : decode cX6_sign 106 = .ok (.iconst 1, 1) := by decide +kernel
theorem dX6_sign_107 : decode cX6_sign 107 = .ok (.isub, 1) := by decide +kernel
theorem dX6_sign_108 : decode cX6_sign 108 = .ok (.if_icmp .ne 7, 3) := by decide +kernel
theorem dX6_sign_111 : decode cX6_sign 111 = .ok (.iconst 1, 1) := by decide +kernel
theorem dX6_sign_112 : decode cX6_sign 112 = .ok (.goto 4, 3) := by decide +kernel
theorem dX6_sign_115 : decode cX6_sign 115 = .ok (.iconst 0, 1) := by decide +kernel
theorem dX6_sign_116 : decode cX6_sign 116 = .ok (.istore 9, 2) := by decide +kernel
theorem dX6_sign_118 : decode cX6_sign 118 = .ok (.iload 5, 2) := by decide +kernel
theorem dX6_sign_120 : decode cX6_sign 120 = .ok (.iload 8, 2) := by decide +kernel
theorem dX6_sign_122 : decode cX6_sign 122 = .ok (.if_icmp .ne 10, 3) := by decide +kernel
theorem dX6_sign_125 : decode cX6_sign 125 = .ok (.iload 9, 2) := by decide +kernel
theorem dX6_sign_127 : decode cX6_sign 127 = .ok (.ifCond .ne 5, 3) := by decide +kernel
theorem dX6_sign_130 : decode cX6_sign 130 = .ok (.iconst 0, 1) := by decide +kernel
theorem dX6_sign_131 : decode cX6_sign 131 = .ok (.ireturn, 1) := by decide +kernel
theorem dX6_sign_132 : decode cX6_sign 132 = .ok (.iload 5, 2) := by decide +kernel
theorem dX6_sign_134 : decode cX6_sign 134 = .ok (.iload 8, 2) := by decide +kernel
theorem dX6_sign_136 : decode cX6_sign 136 = .ok (.iconst 1, 1) := by decide +kernel
theorem dX6_sign_137 : decode cX6_sign 137 = .ok (.iadd, 1) := by decide +kernel
theorem dX6_sign_138 : decode cX6_sign 138 = .ok (.isub, 1) := by decide +kernel
theorem dX6_sign_139 : decode cX6_sign 139 = .ok (.istore 5, 2) := by decide +kernel
theorem dX6_sign_141 : decode cX6_sign 141 = .ok (.iload 5, 2) := by decide +kernel
theorem dX6_sign_143 : decode cX6_sign 143 = .ok (.ifCond .ge 6, 3) := by decide +kernel
theorem dX6_sign_146 : decode cX6_sign 146 = .ok (.bipush (-4), 2) := by decide +kernel
theorem dX6_sign_148 : decode cX6_sign 148 = .ok (.ireturn, 1) := by decide +kernel
theorem dX6_sign_149 : decode cX6_sign 149 = .ok (.iinc 6 1, 3) := by decide +kernel
theorem dX6_sign_152 : decode cX6_sign 152 = .ok (.goto (-107), 3) := by decide +kernel
theorem dX6_sign_155 : decode cX6_sign 155 = .ok (.bipush (-4), 2) := by decide +kernel
theorem dX6_sign_157 : decode cX6_sign 157 = .ok (.ireturn, 1) := by decide +kernel
theorem dX6_best_0 : decode cX6_best 0 = .ok (.aload_n 0, 1) := by decide +kernel
theorem dX6_best_1 : decode cX6_best 1 = .ok (.iload_n 1, 1) := by decide +kernel
theorem dX6_best_2 : decode cX6_best 2 = .ok (.invokevirtual 161, 3) := by decide +kernel
theorem dX6_best_5 : decode cX6_best 5 = .ok (.ifCond .ne 5, 3) := by decide +kernel
theorem dX6_best_8 : decode cX6_best 8 = .ok (.iconst (-1), 1) := by decide +kernel
theorem dX6_best_9 : decode cX6_best 9 = .ok (.ireturn, 1) := by decide +kernel
theorem dX6_best_10 : decode cX6_best 10 = .ok (.aload_n 0, 1) := by decide +kernel
theorem dX6_best_11 : decode cX6_best 11 = .ok (.getfield 23, 3) := by decide +kernel
theorem dX6_best_14 : decode cX6_best 14 = .ok (.iload_n 1, 1) := by decide +kernel
theorem dX6_best_15 : decode cX6_best 15 = .ok (.invokevirtual 215, 3) := by decide +kernel
theorem dX6_best_18 : decode cX6_best 18 = .ok (.ifCond .eq 11, 3) := by decide +kernel
theorem dX6_best_21 : decode cX6_best 21 = .ok (.aload_n 0, 1) := by decide +kernel
theorem dX6_best_22 : decode cX6_best 22 = .ok (.iload_n 1, 1) := by decide +kernel
theorem dX6_best_23 : decode cX6_best 23 = .ok (.invokevirtual 246, 3) := by decide +kernel
theorem dX6_best_26 : decode cX6_best 26 = .ok (.goto 5, 3) := by decide +kernel
theorem dX6_best_29 : decode cX6_best 29 = .ok (.bipush (-4), 2) := by decide +kernel
theorem dX6_best_31 : decode cX6_best 31 = .ok (.ireturn, 1) := by decide +kernel
theorem dX6_tried_0 : decode cX6_tried 0 = .ok (.aload_n 0, 1) := by decide +kernel
theorem dX6_tried_1 : decode cX6_tried 1 = .ok (.iload_n 1, 1) := by decide +kernel
theorem dX6_tried_2 : decode cX6_tried 2 = .ok (.invokevirtual 161, 3) := by decide +kernel
theorem dX6_tried_5 : decode cX6_tried 5 = .ok (.ifCond .eq 10, 3) := by decide +kernel
theorem dX6_tried_8 : decode cX6_tried 8 = .ok (.iload_n 2, 1) := by decide +kernel
theorem dX6_tried_9 : decode cX6_tried 9 = .ok (.invokestatic 249, 3) := by decide +kernel
theorem dX6_tried_12 : decode cX6_tried 12 = .ok (.ifCond .ne 5, 3) := by decide +kernel
theorem dX6_tried_15 : decode cX6_tried 15 = .ok (.iconst (-1), 1) := by decide +kernel
theorem dX6_tried_16 : decode cX6_tried 16 = .ok (.ireturn, 1) := by decide +kernel
theorem dX6_tried_17 : decode cX6_tried 17 = .ok (.aload_n 0, 1) := by decide +kernel
theorem dX6_tried_18 : decode cX6_tried 18 = .ok (.getfield 23, 3) := by decide +kernel
theorem dX6_tried_21 : decode cX6_tried 21 = .ok (.iload_n 1, 1) := by decide +kernel
theorem dX6_tried_22 : decode cX6_tried 22 = .ok (.invokevirtual 215, 3) := by decide +kernel
theorem dX6_tried_25 : decode cX6_tried 25 = .ok (.ifCond .ne 6, 3) := by decide +kernel
theorem dX6_tried_28 : decode cX6_tried 28 = .ok (.bipush (-4), 2) := by decide +kernel
theorem dX6_tried_30 : decode cX6_tried 30 = .ok (.ireturn, 1) := by decide +kernel
theorem dX6_tried_31 : decode cX6_tried 31 = .ok (.aload_n 0, 1) := by decide +kernel
theorem dX6_tried_32 : decode cX6_tried 32 = .ok (.iload_n 1, 1) := by decide +kernel
theorem dX6_tried_33 : decode cX6_tried 33 = .ok (.iload_n 2, 1) := by decide +kernel
theorem dX6_tried_34 : decode cX6_tried 34 = .ok (.invokevirtual 252, 3) := by decide +kernel
theorem dX6_tried_37 : decode cX6_tried 37 = .ok (.aload_n 0, 1) := by decide +kernel
theorem dX6_tried_38 : decode cX6_tried 38 = .ok (.getfield 67, 3) := by decide +kernel
theorem dX6_tried_41 : decode cX6_tried 41 = .ok (.getfield 126, 3) := by decide +kernel
theorem dX6_tried_44 : decode cX6_tried 44 = .ok (.ireturn, 1) := by decide +kernel
theorem dX6_set_0 : decode cX6_set 0 = .ok (.iload_n 1, 1) := by decide +kernel
theorem dX6_set_1 : decode cX6_set 1 = .ok (.bipush 8, 2) := by decide +kernel
theorem dX6_set_3 : decode cX6_set 3 = .ok (.if_icmp .lt 9, 3) := by decide +kernel
theorem dX6_set_6 : decode cX6_set 6 = .ok (.iload_n 1, 1) := by decide +kernel
theorem dX6_set_7 : decode cX6_set 7 = .ok (.bipush 14, 2) := by decide +kernel
theorem dX6_set_9 : decode cX6_set 9 = .ok (.if_icmp .lt 5, 3) := by decide +kernel
theorem dX6_set_12 : decode cX6_set 12 = .ok (.iconst (-1), 1) := by decide +kernel
theorem dX6_set_13 : decode cX6_set 13 = .ok (.ireturn, 1) := by decide +kernel
theorem dX6_set_14 : decode cX6_set 14 = .ok (.iload_n 1, 1) := by decide +kernel
theorem dX6_set_15 : decode cX6_set 15 = .ok (.bipush 8, 2) := by decide +kernel
theorem dX6_set_17 : decode cX6_set 17 = .ok (.isub, 1) := by decide +kernel
theorem dX6_set_18 : decode cX6_set 18 = .ok (.istore_n 3, 1) := by decide +kernel
theorem dX6_set_19 : decode cX6_set 19 = .ok (.iload_n 2, 1) := by decide +kernel
theorem dX6_set_20 : decode cX6_set 20 = .ok (.getstatic 256, 3) := by decide +kernel
theorem dX6_set_23 : decode cX6_set 23 = .ok (.iload_n 3, 1) := by decide +kernel
theorem dX6_set_24 : decode cX6_set 24 = .ok (.iaload, 1) := by decide +kernel
theorem dX6_set_25 : decode cX6_set 25 = .ok (.if_icmp .lt 12, 3) := by decide +kernel
theorem dX6_set_28 : decode cX6_set 28 = .ok (.iload_n 2, 1) := by decide +kernel
theorem dX6_set_29 : decode cX6_set 29 = .ok (.getstatic 259, 3) := by decide +kernel
theorem dX6_set_32 : decode cX6_set 32 = .ok (.iload_n 3, 1) := by decide +kernel
theorem dX6_set_33 : decode cX6_set 33 = .ok (.iaload, 1) := by decide +kernel
theorem dX6_set_34 : decode cX6_set 34 = .ok (.if_icmp .le 5, 3) := by decide +kernel
theorem dX6_set_37 : decode cX6_set 37 = .ok (.iconst (-1), 1) := by decide +kernel
theorem dX6_set_38 : decode cX6_set 38 = .ok (.ireturn, 1) := by decide +kernel
theorem dX6_set_39 : decode cX6_set 39 = .ok (.aload_n 0, 1) := by decide +kernel
theorem dX6_set_40 : decode cX6_set 40 = .ok (.getfield 23, 3) := by decide +kernel
theorem dX6_set_43 : decode cX6_set 43 = .ok (.getfield 108, 3) := by decide +kernel
theorem dX6_set_46 : decode cX6_set 46 = .ok (.iload_n 3, 1) := by decide +kernel
theorem dX6_set_47 : decode cX6_set 47 = .ok (.iaload, 1) := by decide +kernel
theorem dX6_set_48 : decode cX6_set 48 = .ok (.istore 4, 2) := by decide +kernel
theorem dX6_set_50 : decode cX6_set 50 = .ok (.aload_n 0, 1) := by decide +kernel
theorem dX6_set_51 : decode cX6_set 51 = .ok (.getfield 23, 3) := by decide +kernel
theorem dX6_set_54 : decode cX6_set 54 = .ok (.getfield 108, 3) := by decide +kernel
theorem dX6_set_57 : decode cX6_set 57 = .ok (.iload_n 3, 1) := by decide +kernel
theorem dX6_set_58 : decode cX6_set 58 = .ok (.iload_n 2, 1) := by decide +kernel
theorem dX6_set_59 : decode cX6_set 59 = .ok (.iastore, 1) := by decide +kernel
theorem dX6_set_60 : decode cX6_set 60 = .ok (.aload_n 0, 1) := by decide +kernel
theorem dX6_set_61 : decode cX6_set 61 = .ok (.iconst 1, 1) := by decide +kernel
theorem dX6_set_62 : decode cX6_set 62 = .ok (.putfield 70, 3) := by decide +kernel
theorem dX6_set_65 : decode cX6_set 65 = .ok (.iload 4, 2) := by decide +kernel
theorem dX6_set_67 : decode cX6_set 67 = .ok (.ireturn, 1) := by decide +kernel
theorem dX6_drop_0 : decode cX6_drop 0 = .ok (.aload_n 0, 1) := by decide +kernel
theorem dX6_drop_1 : decode cX6_drop 1 = .ok (.iload_n 1, 1) := by decide +kernel
theorem dX6_drop_2 : decode cX6_drop 2 = .ok (.invokevirtual 161, 3) := by decide +kernel
theorem dX6_drop_5 : decode cX6_drop 5 = .ok (.ifCond .ne 5, 3) := by decide +kernel
theorem dX6_drop_8 : decode cX6_drop 8 = .ok (.iconst (-1), 1) := by decide +kernel
theorem dX6_drop_9 : decode cX6_drop 9 = .ok (.ireturn, 1) := by decide +kernel
theorem dX6_drop_10 : decode cX6_drop 10 = .ok (.iload_n 2, 1) := by decide +kernel
theorem dX6_drop_11 : decode cX6_drop 11 = .ok (.bipush (-4), 2) := by decide +kernel
theorem dX6_drop_13 : decode cX6_drop 13 = .ok (.if_icmp .ne 11, 3) := by decide +kernel
theorem dX6_drop_16 : decode cX6_drop 16 = .ok (.iload_n 3, 1) := by decide +kernel
theorem dX6_drop_17 : decode cX6_drop 17 = .ok (.ifCond .ne 7, 3) := by decide +kernel
theorem dX6_drop_20 : decode cX6_drop 20 = .ok (.iconst 1, 1) := by decide +kernel
theorem dX6_drop_21 : decode cX6_drop 21 = .ok (.goto 4, 3) := by decide +kernel
theorem dX6_drop_24 : decode cX6_drop 24 = .ok (.iconst 0, 1) := by decide +kernel
theorem dX6_drop_25 : decode cX6_drop 25 = .ok (.istore 4, 2) := by decide +kernel
theorem dX6_drop_27 : decode cX6_drop 27 = .ok (.iload 4, 2) := by decide +kernel
theorem dX6_drop_29 : decode cX6_drop 29 = .ok (.ifCond .ne 20, 3) := by decide +kernel
theorem dX6_drop_32 : decode cX6_drop 32 = .ok (.aload_n 0, 1) := by decide +kernel
theorem dX6_drop_33 : decode cX6_drop 33 = .ok (.iload_n 2, 1) := by decide +kernel
theorem dX6_drop_34 : decode cX6_drop 34 = .ok (.invokevirtual 139, 3) := by decide +kernel
theorem dX6_drop_37 : decode cX6_drop 37 = .ok (.ifCond .eq 10, 3) := by decide +kernel
theorem dX6_drop_40 : decode cX6_drop 40 = .ok (.iload_n 3, 1) := by decide +kernel
theorem dX6_drop_41 : decode cX6_drop 41 = .ok (.invokestatic 249, 3) := by decide +kernel
theorem dX6_drop_44 : decode cX6_drop 44 = .ok (.ifCond .ne 5, 3) := by decide +kernel
theorem dX6_drop_47 : decode cX6_drop 47 = .ok (.iconst (-1), 1) := by decide +kernel
theorem dX6_drop_48 : decode cX6_drop 48 = .ok (.ireturn, 1) := by decide +kernel
theorem dX6_drop_49 : decode cX6_drop 49 = .ok (.aload_n 0, 1) := by decide +kernel
theorem dX6_drop_50 : decode cX6_drop 50 = .ok (.getfield 23, 3) := by decide +kernel
theorem dX6_drop_53 : decode cX6_drop 53 = .ok (.getfield 170, 3) := by decide +kernel
theorem dX6_drop_56 : decode cX6_drop 56 = .ok (.iload_n 1, 1) := by decide +kernel
theorem dX6_drop_57 : decode cX6_drop 57 = .ok (.iaload, 1) := by decide +kernel
theorem dX6_drop_58 : decode cX6_drop 58 = .ok (.istore 5, 2) := by decide +kernel
theorem dX6_drop_60 : decode cX6_drop 60 = .ok (.aload_n 0, 1) := by decide +kernel
theorem dX6_drop_61 : decode cX6_drop 61 = .ok (.getfield 23, 3) := by decide +kernel
theorem dX6_drop_64 : decode cX6_drop 64 = .ok (.getfield 167, 3) := by decide +kernel
theorem dX6_drop_67 : decode cX6_drop 67 = .ok (.iload_n 1, 1) := by decide +kernel
theorem dX6_drop_68 : decode cX6_drop 68 = .ok (.iload_n 2, 1) := by decide +kernel
theorem dX6_drop_69 : decode cX6_drop 69 = .ok (.iastore, 1) := by decide +kernel
theorem dX6_drop_70 : decode cX6_drop 70 = .ok (.aload_n 0, 1) := by decide +kernel
theorem dX6_drop_71 : decode cX6_drop 71 = .ok (.getfield 23, 3) := by decide +kernel
theorem dX6_drop_74 : decode cX6_drop 74 = .ok (.getfield 170, 3) := by decide +kernel
theorem dX6_drop_77 : decode cX6_drop 77 = .ok (.iload_n 1, 1) := by decide +kernel
theorem dX6_drop_78 : decode cX6_drop 78 = .ok (.iload_n 3, 1) := by decide +kernel
theorem dX6_drop_79 : decode cX6_drop 79 = .ok (.iastore, 1) := by decide +kernel
theorem dX6_drop_80 : decode cX6_drop 80 = .ok (.aload_n 0, 1) := by decide +kernel
theorem dX6_drop_81 : decode cX6_drop 81 = .ok (.iconst 1, 1) := by decide +kernel
theorem dX6_drop_82 : decode cX6_drop 82 = .ok (.putfield 70, 3) := by decide +kernel
theorem dX6_drop_85 : decode cX6_drop 85 = .ok (.iload 5, 2) := by decide +kernel
theorem dX6_drop_87 : decode cX6_drop 87 = .ok (.ireturn, 1) := by decide +kernel
theorem dX6_fit_0 : decode cX6_fit 0 = .ok (.iconst 0, 1) := by decide +kernel
theorem dX6_fit_1 : decode cX6_fit 1 = .ok (.istore_n 1, 1) := by decide +kernel
theorem dX6_fit_2 : decode cX6_fit 2 = .ok (.iconst 0, 1) := by decide +kernel
theorem dX6_fit_3 : decode cX6_fit 3 = .ok (.istore_n 2, 1) := by decide +kernel
theorem dX6_fit_4 : decode cX6_fit 4 = .ok (.iload_n 2, 1) := by decide +kernel
theorem dX6_fit_5 : decode cX6_fit 5 = .ok (.aload_n 0, 1) := by decide +kernel
theorem dX6_fit_6 : decode cX6_fit 6 = .ok (.getfield 23, 3) := by decide +kernel
theorem dX6_fit_9 : decode cX6_fit 9 = .ok (.getfield 115, 3) := by decide +kernel
theorem dX6_fit_12 : decode cX6_fit 12 = .ok (.if_icmp .ge 52, 3) := by decide +kernel
theorem dX6_fit_15 : decode cX6_fit 15 = .ok (.aload_n 0, 1) := by decide +kernel
theorem dX6_fit_16 : decode cX6_fit 16 = .ok (.getfield 23, 3) := by decide +kernel
theorem dX6_fit_19 : decode cX6_fit 19 = .ok (.iload_n 2, 1) := by decide +kernel
theorem dX6_fit_20 : decode cX6_fit 20 = .ok (.invokevirtual 215, 3) := by decide +kernel
theorem dX6_fit_23 : decode cX6_fit 23 = .ok (.ifCond .eq 35, 3) := by decide +kernel
theorem dX6_fit_26 : decode cX6_fit 26 = .ok (.aload_n 0, 1) := by decide +kernel
theorem dX6_fit_27 : decode cX6_fit 27 = .ok (.iload_n 2, 1) := by decide +kernel
theorem dX6_fit_28 : decode cX6_fit 28 = .ok (.invokevirtual 246, 3) := by decide +kernel
theorem dX6_fit_31 : decode cX6_fit 31 = .ok (.istore_n 3, 1) := by decide +kernel
theorem dX6_fit_32 : decode cX6_fit 32 = .ok (.iload_n 3, 1) := by decide +kernel
theorem dX6_fit_33 : decode cX6_fit 33 = .ok (.aload_n 0, 1) := by decide +kernel
theorem dX6_fit_34 : decode cX6_fit 34 = .ok (.getfield 23, 3) := by decide +kernel
theorem dX6_fit_37 : decode cX6_fit 37 = .ok (.getfield 170, 3) := by decide +kernel
theorem dX6_fit_40 : decode cX6_fit 40 = .ok (.iload_n 2, 1) := by decide +kernel
theorem dX6_fit_41 : decode cX6_fit 41 = .ok (.iaload, 1) := by decide +kernel
theorem dX6_fit_42 : decode cX6_fit 42 = .ok (.if_icmp .eq 16, 3) := by decide +kernel
theorem dX6_fit_45 : decode cX6_fit 45 = .ok (.aload_n 0, 1) := by decide +kernel
theorem dX6_fit_46 : decode cX6_fit 46 = .ok (.getfield 23, 3) := by decide +kernel
theorem dX6_fit_49 : decode cX6_fit 49 = .ok (.getfield 170, 3) := by decide +kernel
theorem dX6_fit_52 : decode cX6_fit 52 = .ok (.iload_n 2, 1) := by decide +kernel
theorem dX6_fit_53 : decode cX6_fit 53 = .ok (.iload_n 3, 1) := by decide +kernel
theorem dX6_fit_54 : decode cX6_fit 54 = .ok (.iastore, 1) := by decide +kernel
theorem dX6_fit_55 : decode cX6_fit 55 = .ok (.iinc 1 1, 3) := by decide +kernel
theorem dX6_fit_58 : decode cX6_fit 58 = .ok (.iinc 2 1, 3) := by decide +kernel
theorem dX6_fit_61 : decode cX6_fit 61 = .ok (.goto (-57), 3) := by decide +kernel
theorem dX6_fit_64 : decode cX6_fit 64 = .ok (.aload_n 0, 1) := by decide +kernel
theorem dX6_fit_65 : decode cX6_fit 65 = .ok (.iconst 1, 1) := by decide +kernel
theorem dX6_fit_66 : decode cX6_fit 66 = .ok (.putfield 70, 3) := by decide +kernel
theorem dX6_fit_69 : decode cX6_fit 69 = .ok (.iload_n 1, 1) := by decide +kernel
theorem dX6_fit_70 : decode cX6_fit 70 = .ok (.ireturn, 1) := by decide +kernel
theorem dX6_cut_0 : decode cX6_cut 0 = .ok (.aload_n 0, 1) := by decide +kernel
theorem dX6_cut_1 : decode cX6_cut 1 = .ok (.iload_n 1, 1) := by decide +kernel
theorem dX6_cut_2 : decode cX6_cut 2 = .ok (.invokevirtual 161, 3) := by decide +kernel
theorem dX6_cut_5 : decode cX6_cut 5 = .ok (.ifCond .eq 20, 3) := by decide +kernel
theorem dX6_cut_8 : decode cX6_cut 8 = .ok (.iload_n 2, 1) := by decide +kernel
theorem dX6_cut_9 : decode cX6_cut 9 = .ok (.ifCond .le 16, 3) := by decide +kernel
theorem dX6_cut_12 : decode cX6_cut 12 = .ok (.iload_n 2, 1) := by decide +kernel
theorem dX6_cut_13 : decode cX6_cut 13 = .ok (.aload_n 0, 1) := by decide +kernel
theorem dX6_cut_14 : decode cX6_cut 14 = .ok (.getfield 23, 3) := by decide +kernel
theorem dX6_cut_17 : decode cX6_cut 17 = .ok (.getfield 164, 3) := by decide +kernel
theorem dX6_cut_20 : decode cX6_cut 20 = .ok (.iload_n 1, 1) := by decide +kernel
theorem dX6_cut_21 : decode cX6_cut 21 = .ok (.iaload, 1) := by decide +kernel
theorem dX6_cut_22 : decode cX6_cut 22 = .ok (.if_icmp .lt 5, 3) := by decide +kernel
theorem dX6_cut_25 : decode cX6_cut 25 = .ok (.iconst (-1), 1) := by decide +kernel
theorem dX6_cut_26 : decode cX6_cut 26 = .ok (.ireturn, 1) := by decide +kernel
theorem dX6_cut_27 : decode cX6_cut 27 = .ok (.aload_n 0, 1) := by decide +kernel
theorem dX6_cut_28 : decode cX6_cut 28 = .ok (.getfield 23, 3) := by decide +kernel
theorem dX6_cut_31 : decode cX6_cut 31 = .ok (.getfield 115, 3) := by decide +kernel
theorem dX6_cut_34 : decode cX6_cut 34 = .ok (.bipush 8, 2) := by decide +kernel
theorem dX6_cut_36 : decode cX6_cut 36 = .ok (.if_icmp .lt 6, 3) := by decide +kernel
theorem dX6_cut_39 : decode cX6_cut 39 = .ok (.bipush (-3), 2) := by decide +kernel
theorem dX6_cut_41 : decode cX6_cut 41 = .ok (.ireturn, 1) := by decide +kernel
theorem dX6_cut_42 : decode cX6_cut 42 = .ok (.aload_n 0, 1) := by decide +kernel
theorem dX6_cut_43 : decode cX6_cut 43 = .ok (.getfield 23, 3) := by decide +kernel
theorem dX6_cut_46 : decode cX6_cut 46 = .ok (.iload_n 1, 1) := by decide +kernel
theorem dX6_cut_47 : decode cX6_cut 47 = .ok (.iload_n 2, 1) := by decide +kernel
theorem dX6_cut_48 : decode cX6_cut 48 = .ok (.invokevirtual 262, 3) := by decide +kernel
theorem dX6_cut_51 : decode cX6_cut 51 = .ok (.aload_n 0, 1) := by decide +kernel
theorem dX6_cut_52 : decode cX6_cut 52 = .ok (.iconst 1, 1) := by decide +kernel
theorem dX6_cut_53 : decode cX6_cut 53 = .ok (.putfield 70, 3) := by decide +kernel
theorem dX6_cut_56 : decode cX6_cut 56 = .ok (.aload_n 0, 1) := by decide +kernel
theorem dX6_cut_57 : decode cX6_cut 57 = .ok (.getfield 23, 3) := by decide +kernel
theorem dX6_cut_60 : decode cX6_cut 60 = .ok (.getfield 115, 3) := by decide +kernel
theorem dX6_cut_63 : decode cX6_cut 63 = .ok (.ireturn, 1) := by decide +kernel
theorem dX6_join_0 : decode cX6_join 0 = .ok (.aload_n 0, 1) := by decide +kernel
theorem dX6_join_1 : decode cX6_join 1 = .ok (.iload_n 1, 1) := by decide +kernel
theorem dX6_join_2 : decode cX6_join 2 = .ok (.invokevirtual 161, 3) := by decide +kernel
theorem dX6_join_5 : decode cX6_join 5 = .ok (.ifCond .ne 5, 3) := by decide +kernel
theorem dX6_join_8 : decode cX6_join 8 = .ok (.iconst (-1), 1) := by decide +kernel
theorem dX6_join_9 : decode cX6_join 9 = .ok (.ireturn, 1) := by decide +kernel
theorem dX6_join_10 : decode cX6_join 10 = .ok (.iload_n 1, 1) := by decide +kernel
theorem dX6_join_11 : decode cX6_join 11 = .ok (.iconst 1, 1) := by decide +kernel
theorem dX6_join_12 : decode cX6_join 12 = .ok (.iadd, 1) := by decide +kernel
theorem dX6_join_13 : decode cX6_join 13 = .ok (.aload_n 0, 1) := by decide +kernel
theorem dX6_join_14 : decode cX6_join 14 = .ok (.getfield 23, 3) := by decide +kernel
theorem dX6_join_17 : decode cX6_join 17 = .ok (.getfield 115, 3) := by decide +kernel
theorem dX6_join_20 : decode cX6_join 20 = .ok (.if_icmp .lt 6, 3) := by decide +kernel
theorem dX6_join_23 : decode cX6_join 23 = .ok (.bipush (-4), 2) := by decide +kernel
theorem dX6_join_25 : decode cX6_join 25 = .ok (.ireturn, 1) := by decide +kernel
theorem dX6_join_26 : decode cX6_join 26 = .ok (.aload_n 0, 1) := by decide +kernel
theorem dX6_join_27 : decode cX6_join 27 = .ok (.getfield 23, 3) := by decide +kernel
theorem dX6_join_30 : decode cX6_join 30 = .ok (.iload_n 1, 1) := by decide +kernel
theorem dX6_join_31 : decode cX6_join 31 = .ok (.invokevirtual 265, 3) := by decide +kernel
theorem dX6_join_34 : decode cX6_join 34 = .ok (.aload_n 0, 1) := by decide +kernel
theorem dX6_join_35 : decode cX6_join 35 = .ok (.iconst 1, 1) := by decide +kernel
theorem dX6_join_36 : decode cX6_join 36 = .ok (.putfield 70, 3) := by decide +kernel
theorem dX6_join_39 : decode cX6_join 39 = .ok (.aload_n 0, 1) := by decide +kernel
theorem dX6_join_40 : decode cX6_join 40 = .ok (.getfield 23, 3) := by decide +kernel
theorem dX6_join_43 : decode cX6_join 43 = .ok (.getfield 164, 3) := by decide +kernel
theorem dX6_join_46 : decode cX6_join 46 = .ok (.iload_n 1, 1) := by decide +kernel
theorem dX6_join_47 : decode cX6_join 47 = .ok (.iaload, 1) := by decide +kernel
theorem dX6_join_48 : decode cX6_join 48 = .ok (.ireturn, 1) := by decide +kernel
theorem dX6_move_0 : decode cX6_move 0 = .ok (.aload_n 0, 1) := by decide +kernel
theorem dX6_move_1 : decode cX6_move 1 = .ok (.iload_n 1, 1) := by decide +kernel
theorem dX6_move_2 : decode cX6_move 2 = .ok (.invokevirtual 161, 3) := by decide +kernel
theorem dX6_move_5 : decode cX6_move 5 = .ok (.ifCond .eq 20, 3) := by decide +kernel
theorem dX6_move_8 : decode cX6_move 8 = .ok (.iload_n 2, 1) := by decide +kernel
theorem dX6_move_9 : decode cX6_move 9 = .ok (.ifCond .lt 16, 3) := by decide +kernel
theorem dX6_move_12 : decode cX6_move 12 = .ok (.iload_n 2, 1) := by decide +kernel
theorem dX6_move_13 : decode cX6_move 13 = .ok (.aload_n 0, 1) := by decide +kernel
theorem dX6_move_14 : decode cX6_move 14 = .ok (.getfield 23, 3) := by decide +kernel
theorem dX6_move_17 : decode cX6_move 17 = .ok (.getfield 164, 3) := by decide +kernel
theorem dX6_move_20 : decode cX6_move 20 = .ok (.iload_n 1, 1) := by decide +kernel
theorem dX6_move_21 : decode cX6_move 21 = .ok (.iaload, 1) := by decide +kernel
theorem dX6_move_22 : decode cX6_move 22 = .ok (.if_icmp .lt 5, 3) := by decide +kernel
theorem dX6_move_25 : decode cX6_move 25 = .ok (.iconst (-1), 1) := by decide +kernel
theorem dX6_move_26 : decode cX6_move 26 = .ok (.ireturn, 1) := by decide +kernel
theorem dX6_move_27 : decode cX6_move 27 = .ok (.aload_n 0, 1) := by decide +kernel
theorem dX6_move_28 : decode cX6_move 28 = .ok (.iload_n 3, 1) := by decide +kernel
theorem dX6_move_29 : decode cX6_move 29 = .ok (.invokevirtual 161, 3) := by decide +kernel
theorem dX6_move_32 : decode cX6_move 32 = .ok (.ifCond .eq 29, 3) := by decide +kernel
theorem dX6_move_35 : decode cX6_move 35 = .ok (.iload 4, 2) := by decide +kernel
theorem dX6_move_37 : decode cX6_move 37 = .ok (.bipush (-4), 2) := by decide +kernel
theorem dX6_move_39 : decode cX6_move 39 = .ok (.if_icmp .eq 24, 3) := by decide +kernel
theorem dX6_move_42 : decode cX6_move 42 = .ok (.iload 4, 2) := by decide +kernel
theorem dX6_move_44 : decode cX6_move 44 = .ok (.ifCond .lt 17, 3) := by decide +kernel
theorem dX6_move_47 : decode cX6_move 47 = .ok (.iload 4, 2) := by decide +kernel
theorem dX6_move_49 : decode cX6_move 49 = .ok (.aload_n 0, 1) := by decide +kernel
theorem dX6_move_50 : decode cX6_move 50 = .ok (.getfield 23, 3) := by decide +kernel
theorem dX6_move_53 : decode cX6_move 53 = .ok (.getfield 164, 3) := by decide +kernel
theorem dX6_move_56 : decode cX6_move 56 = .ok (.iload_n 3, 1) := by decide +kernel
theorem dX6_move_57 : decode cX6_move 57 = .ok (.iaload, 1) := by decide +kernel
theorem dX6_move_58 : decode cX6_move 58 = .ok (.if_icmp .lt 5, 3) := by decide +kernel
theorem dX6_move_61 : decode cX6_move 61 = .ok (.iconst (-1), 1) := by decide +kernel
theorem dX6_move_62 : decode cX6_move 62 = .ok (.ireturn, 1) := by decide +kernel
theorem dX6_move_63 : decode cX6_move 63 = .ok (.aload_n 0, 1) := by decide +kernel
theorem dX6_move_64 : decode cX6_move 64 = .ok (.getfield 23, 3) := by decide +kernel
theorem dX6_move_67 : decode cX6_move 67 = .ok (.getfield 164, 3) := by decide +kernel
theorem dX6_move_70 : decode cX6_move 70 = .ok (.iload_n 1, 1) := by decide +kernel
theorem dX6_move_71 : decode cX6_move 71 = .ok (.iaload, 1) := by decide +kernel
theorem dX6_move_72 : decode cX6_move 72 = .ok (.iconst 1, 1) := by decide +kernel
theorem dX6_move_73 : decode cX6_move 73 = .ok (.if_icmp .eq 14, 3) := by decide +kernel
theorem dX6_move_76 : decode cX6_move 76 = .ok (.iload_n 1, 1) := by decide +kernel
theorem dX6_move_77 : decode cX6_move 77 = .ok (.iload_n 3, 1) := by decide +kernel
theorem dX6_move_78 : decode cX6_move 78 = .ok (.if_icmp .ne 12, 3) := by decide +kernel
theorem dX6_move_81 : decode cX6_move 81 = .ok (.iload_n 2, 1) := by decide +kernel
theorem dX6_move_82 : decode cX6_move 82 = .ok (.iload 4, 2) := by decide +kernel
theorem dX6_move_84 : decode cX6_move 84 = .ok (.if_icmp .ne 6, 3) := by decide +kernel
theorem dX6_move_87 : decode cX6_move 87 = .ok (.bipush (-2), 2) := by decide +kernel
theorem dX6_move_89 : decode cX6_move 89 = .ok (.ireturn, 1) := by decide +kernel
theorem dX6_move_90 : decode cX6_move 90 = .ok (.aload_n 0, 1) := by decide +kernel
theorem dX6_move_91 : decode cX6_move 91 = .ok (.getfield 23, 3) := by decide +kernel
theorem dX6_move_94 : decode cX6_move 94 = .ok (.iload_n 1, 1) := by decide +kernel
theorem dX6_move_95 : decode cX6_move 95 = .ok (.iload_n 2, 1) := by decide +kernel
theorem dX6_move_96 : decode cX6_move 96 = .ok (.iload_n 3, 1) := by decide +kernel
theorem dX6_move_97 : decode cX6_move 97 = .ok (.iload 4, 2) := by decide +kernel
theorem dX6_move_99 : decode cX6_move 99 = .ok (.bipush (-4), 2) := by decide +kernel
theorem dX6_move_101 : decode cX6_move 101 = .ok (.if_icmp .ne 7, 3) := by decide +kernel
theorem dX6_move_104 : decode cX6_move 104 = .ok (.iconst 0, 1) := by decide +kernel
theorem dX6_move_105 : decode cX6_move 105 = .ok (.goto 7, 3) := by decide +kernel
theorem dX6_move_108 : decode cX6_move 108 = .ok (.iload 4, 2) := by decide +kernel
theorem dX6_move_110 : decode cX6_move 110 = .ok (.iconst 1, 1) := by decide +kernel
theorem dX6_move_111 : decode cX6_move 111 = .ok (.iadd, 1) := by decide +kernel
theorem dX6_move_112 : decode cX6_move 112 = .ok (.invokevirtual 268, 3) := by decide +kernel
theorem dX6_move_115 : decode cX6_move 115 = .ok (.aload_n 0, 1) := by decide +kernel
theorem dX6_move_116 : decode cX6_move 116 = .ok (.iconst 1, 1) := by decide +kernel
theorem dX6_move_117 : decode cX6_move 117 = .ok (.putfield 70, 3) := by decide +kernel
theorem dX6_move_120 : decode cX6_move 120 = .ok (.aload_n 0, 1) := by decide +kernel
theorem dX6_move_121 : decode cX6_move 121 = .ok (.getfield 23, 3) := by decide +kernel
theorem dX6_move_124 : decode cX6_move 124 = .ok (.getfield 164, 3) := by decide +kernel
theorem dX6_move_127 : decode cX6_move 127 = .ok (.iload_n 3, 1) := by decide +kernel
theorem dX6_move_128 : decode cX6_move 128 = .ok (.iaload, 1) := by decide +kernel
theorem dX6_move_129 : decode cX6_move 129 = .ok (.ireturn, 1) := by decide +kernel
theorem dX6_keep_0 : decode cX6_keep 0 = .ok (.iload_n 1, 1) := by decide +kernel
theorem dX6_keep_1 : decode cX6_keep 1 = .ok (.ifCond .lt 8, 3) := by decide +kernel
theorem dX6_keep_4 : decode cX6_keep 4 = .ok (.iload_n 1, 1) := by decide +kernel
theorem dX6_keep_5 : decode cX6_keep 5 = .ok (.iconst 2, 1) := by decide +kernel
theorem dX6_keep_6 : decode cX6_keep 6 = .ok (.if_icmp .lt 5, 3) := by decide +kernel
theorem dX6_keep_9 : decode cX6_keep 9 = .ok (.iconst (-1), 1) := by decide +kernel
theorem dX6_keep_10 : decode cX6_keep 10 = .ok (.ireturn, 1) := by decide +kernel
theorem dX6_keep_11 : decode cX6_keep 11 = .ok (.aload_n 0, 1) := by decide +kernel
theorem dX6_keep_12 : decode cX6_keep 12 = .ok (.iload_n 1, 1) := by decide +kernel
theorem dX6_keep_13 : decode cX6_keep 13 = .ok (.invokevirtual 272, 3) := by decide +kernel
theorem dX6_keep_16 : decode cX6_keep 16 = .ok (.ifCond .eq 7, 3) := by decide +kernel
theorem dX6_keep_19 : decode cX6_keep 19 = .ok (.iconst 1, 1) := by decide +kernel
theorem dX6_keep_20 : decode cX6_keep 20 = .ok (.goto 4, 3) := by decide +kernel
theorem dX6_keep_23 : decode cX6_keep 23 = .ok (.iconst 0, 1) := by decide +kernel
theorem dX6_keep_24 : decode cX6_keep 24 = .ok (.istore_n 2, 1) := by decide +kernel
theorem dX6_keep_25 : decode cX6_keep 25 = .ok (.aload_n 0, 1) := by decide +kernel
theorem dX6_keep_26 : decode cX6_keep 26 = .ok (.iload_n 1, 1) := by decide +kernel
theorem dX6_keep_27 : decode cX6_keep 27 = .ok (.invokevirtual 275, 3) := by decide +kernel
theorem dX6_keep_30 : decode cX6_keep 30 = .ok (.aload_n 0, 1) := by decide +kernel
theorem dX6_keep_31 : decode cX6_keep 31 = .ok (.getfield 23, 3) := by decide +kernel
theorem dX6_keep_34 : decode cX6_keep 34 = .ok (.invokevirtual 100, 3) := by decide +kernel
theorem dX6_keep_37 : decode cX6_keep 37 = .ok (.iload_n 1, 1) := by decide +kernel
theorem dX6_keep_38 : decode cX6_keep 38 = .ok (.ifCond .ne 11, 3) := by decide +kernel
theorem dX6_keep_41 : decode cX6_keep 41 = .ok (.aload_n 0, 1) := by decide +kernel
theorem dX6_keep_42 : decode cX6_keep 42 = .ok (.iconst 1, 1) := by decide +kernel
theorem dX6_keep_43 : decode cX6_keep 43 = .ok (.putfield 102, 3) := by decide +kernel
theorem dX6_keep_46 : decode cX6_keep 46 = .ok (.goto 8, 3) := by decide +kernel
theorem dX6_keep_49 : decode cX6_keep 49 = .ok (.aload_n 0, 1) := by decide +kernel
theorem dX6_keep_50 : decode cX6_keep 50 = .ok (.iconst 1, 1) := by decide +kernel
theorem dX6_keep_51 : decode cX6_keep 51 = .ok (.putfield 105, 3) := by decide +kernel
theorem dX6_keep_54 : decode cX6_keep 54 = .ok (.iload_n 2, 1) := by decide +kernel
theorem dX6_keep_55 : decode cX6_keep 55 = .ok (.ireturn, 1) := by decide +kernel
theorem dX6_back_0 : decode cX6_back 0 = .ok (.iload_n 1, 1) := by decide +kernel
theorem dX6_back_1 : decode cX6_back 1 = .ok (.ifCond .lt 8, 3) := by decide +kernel
theorem dX6_back_4 : decode cX6_back 4 = .ok (.iload_n 1, 1) := by decide +kernel
theorem dX6_back_5 : decode cX6_back 5 = .ok (.iconst 2, 1) := by decide +kernel
theorem dX6_back_6 : decode cX6_back 6 = .ok (.if_icmp .lt 5, 3) := by decide +kernel
theorem dX6_back_9 : decode cX6_back 9 = .ok (.iconst (-1), 1) := by decide +kernel
theorem dX6_back_10 : decode cX6_back 10 = .ok (.ireturn, 1) := by decide +kernel
theorem dX6_back_11 : decode cX6_back 11 = .ok (.aload_n 0, 1) := by decide +kernel
theorem dX6_back_12 : decode cX6_back 12 = .ok (.iload_n 1, 1) := by decide +kernel
theorem dX6_back_13 : decode cX6_back 13 = .ok (.invokevirtual 272, 3) := by decide +kernel
theorem dX6_back_16 : decode cX6_back 16 = .ok (.ifCond .ne 6, 3) := by decide +kernel
theorem dX6_back_19 : decode cX6_back 19 = .ok (.bipush (-2), 2) := by decide +kernel
theorem dX6_back_21 : decode cX6_back 21 = .ok (.ireturn, 1) := by decide +kernel
theorem dX6_back_22 : decode cX6_back 22 = .ok (.aload_n 0, 1) := by decide +kernel
theorem dX6_back_23 : decode cX6_back 23 = .ok (.getfield 23, 3) := by decide +kernel
theorem dX6_back_26 : decode cX6_back 26 = .ok (.aload_n 0, 1) := by decide +kernel
theorem dX6_back_27 : decode cX6_back 27 = .ok (.iload_n 1, 1) := by decide +kernel
theorem dX6_back_28 : decode cX6_back 28 = .ok (.invokevirtual 275, 3) := by decide +kernel
theorem dX6_back_31 : decode cX6_back 31 = .ok (.invokevirtual 100, 3) := by decide +kernel
theorem dX6_back_34 : decode cX6_back 34 = .ok (.aload_n 0, 1) := by decide +kernel
theorem dX6_back_35 : decode cX6_back 35 = .ok (.iconst 1, 1) := by decide +kernel
theorem dX6_back_36 : decode cX6_back 36 = .ok (.putfield 70, 3) := by decide +kernel
theorem dX6_back_39 : decode cX6_back 39 = .ok (.aload_n 0, 1) := by decide +kernel
theorem dX6_back_40 : decode cX6_back 40 = .ok (.getfield 23, 3) := by decide +kernel
theorem dX6_back_43 : decode cX6_back 43 = .ok (.getfield 115, 3) := by decide +kernel
theorem dX6_back_46 : decode cX6_back 46 = .ok (.ireturn, 1) := by decide +kernel
theorem dX6_isKept_0 : decode cX6_isKept 0 = .ok (.iload_n 1, 1) := by decide +kernel
theorem dX6_isKept_1 : decode cX6_isKept 1 = .ok (.ifCond .ne 10, 3) := by decide +kernel
theorem dX6_isKept_4 : decode cX6_isKept 4 = .ok (.aload_n 0, 1) := by decide +kernel
theorem dX6_isKept_5 : decode cX6_isKept 5 = .ok (.getfield 102, 3) := by decide +kernel
theorem dX6_isKept_8 : decode cX6_isKept 8 = .ok (.goto 7, 3) := by decide +kernel
theorem dX6_isKept_11 : decode cX6_isKept 11 = .ok (.aload_n 0, 1) := by decide +kernel
theorem dX6_isKept_12 : decode cX6_isKept 12 = .ok (.getfield 105, 3) := by decide +kernel
theorem dX6_isKept_15 : decode cX6_isKept 15 = .ok (.ireturn, 1) := by decide +kernel
theorem dX6_imageOf_0 : decode cX6_imageOf 0 = .ok (.iload_n 1, 1) := by decide +kernel
theorem dX6_imageOf_1 : decode cX6_imageOf 1 = .ok (.ifCond .ne 10, 3) := by decide +kernel
theorem dX6_imageOf_4 : decode cX6_imageOf 4 = .ok (.aload_n 0, 1) := by decide +kernel
theorem dX6_imageOf_5 : decode cX6_imageOf 5 = .ok (.getfield 74, 3) := by decide +kernel
theorem dX6_imageOf_8 : decode cX6_imageOf 8 = .ok (.goto 7, 3) := by decide +kernel
theorem dX6_imageOf_11 : decode cX6_imageOf 11 = .ok (.aload_n 0, 1) := by decide +kernel
theorem dX6_imageOf_12 : decode cX6_imageOf 12 = .ok (.getfield 77, 3) := by decide +kernel
theorem dX6_imageOf_15 : decode cX6_imageOf 15 = .ok (.areturn, 1) := by decide +kernel
theorem dX6_isShape_0 : decode cX6_isShape 0 = .ok (.iload_n 1, 1) := by decide +kernel
theorem dX6_isShape_1 : decode cX6_isShape 1 = .ok (.ifCond .lt 18, 3) := by decide +kernel
theorem dX6_isShape_4 : decode cX6_isShape 4 = .ok (.iload_n 1, 1) := by decide +kernel
theorem dX6_isShape_5 : decode cX6_isShape 5 = .ok (.aload_n 0, 1) := by decide +kernel
theorem dX6_isShape_6 : decode cX6_isShape 6 = .ok (.getfield 16, 3) := by decide +kernel
theorem dX6_isShape_9 : decode cX6_isShape 9 = .ok (.getfield 112, 3) := by decide +kernel
theorem dX6_isShape_12 : decode cX6_isShape 12 = .ok (.if_icmp .ge 7, 3) := by decide +kernel
theorem dX6_isShape_15 : decode cX6_isShape 15 = .ok (.iconst 1, 1) := by decide +kernel
theorem dX6_isShape_16 : decode cX6_isShape 16 = .ok (.goto 4, 3) := by decide +kernel
theorem dX6_isShape_19 : decode cX6_isShape 19 = .ok (.iconst 0, 1) := by decide +kernel
theorem dX6_isShape_20 : decode cX6_isShape 20 = .ok (.ireturn, 1) := by decide +kernel
theorem dX6_isPar_0 : decode cX6_isPar 0 = .ok (.iload_n 1, 1) := by decide +kernel
theorem dX6_isPar_1 : decode cX6_isPar 1 = .ok (.ifCond .lt 18, 3) := by decide +kernel
theorem dX6_isPar_4 : decode cX6_isPar 4 = .ok (.iload_n 1, 1) := by decide +kernel
theorem dX6_isPar_5 : decode cX6_isPar 5 = .ok (.aload_n 0, 1) := by decide +kernel
theorem dX6_isPar_6 : decode cX6_isPar 6 = .ok (.getfield 23, 3) := by decide +kernel
theorem dX6_isPar_9 : decode cX6_isPar 9 = .ok (.getfield 115, 3) := by decide +kernel
theorem dX6_isPar_12 : decode cX6_isPar 12 = .ok (.if_icmp .ge 7, 3) := by decide +kernel
theorem dX6_isPar_15 : decode cX6_isPar 15 = .ok (.iconst 1, 1) := by decide +kernel
theorem dX6_isPar_16 : decode cX6_isPar 16 = .ok (.goto 4, 3) := by decide +kernel
theorem dX6_isPar_19 : decode cX6_isPar 19 = .ok (.iconst 0, 1) := by decide +kernel
theorem dX6_isPar_20 : decode cX6_isPar 20 = .ok (.ireturn, 1) := by decide +kernel
theorem dX6_isDrop_0 : decode cX6_isDrop 0 = .ok (.iload_n 0, 1) := by decide +kernel
theorem dX6_isDrop_1 : decode cX6_isDrop 1 = .ok (.iconst 2, 1) := by decide +kernel
theorem dX6_isDrop_2 : decode cX6_isDrop 2 = .ok (.if_icmp .lt 12, 3) := by decide +kernel
theorem dX6_isDrop_5 : decode cX6_isDrop 5 = .ok (.iload_n 0, 1) := by decide +kernel
theorem dX6_isDrop_6 : decode cX6_isDrop 6 = .ok (.iconst 5, 1) := by decide +kernel
theorem dX6_isDrop_7 : decode cX6_isDrop 7 = .ok (.if_icmp .gt 7, 3) := by decide +kernel
theorem dX6_isDrop_10 : decode cX6_isDrop 10 = .ok (.iconst 1, 1) := by decide +kernel
theorem dX6_isDrop_11 : decode cX6_isDrop 11 = .ok (.goto 4, 3) := by decide +kernel
theorem dX6_isDrop_14 : decode cX6_isDrop 14 = .ok (.iconst 0, 1) := by decide +kernel
theorem dX6_isDrop_15 : decode cX6_isDrop 15 = .ok (.ireturn, 1) := by decide +kernel
theorem dX6_laid_0 : decode cX6_laid 0 = .ok (.aload_n 0, 1) := by decide +kernel
theorem dX6_laid_1 : decode cX6_laid 1 = .ok (.getfield 70, 3) := by decide +kernel
theorem dX6_laid_4 : decode cX6_laid 4 = .ok (.ifCond .eq 15, 3) := by decide +kernel
theorem dX6_laid_7 : decode cX6_laid 7 = .ok (.aload_n 0, 1) := by decide +kernel
theorem dX6_laid_8 : decode cX6_laid 8 = .ok (.getfield 63, 3) := by decide +kernel
theorem dX6_laid_11 : decode cX6_laid 11 = .ok (.invokevirtual 279, 3) := by decide +kernel
theorem dX6_laid_14 : decode cX6_laid 14 = .ok (.aload_n 0, 1) := by decide +kernel
theorem dX6_laid_15 : decode cX6_laid 15 = .ok (.iconst 0, 1) := by decide +kernel
theorem dX6_laid_16 : decode cX6_laid 16 = .ok (.putfield 70, 3) := by decide +kernel
theorem dX6_laid_19 : decode cX6_laid 19 = .ok (.aload_n 0, 1) := by decide +kernel
theorem dX6_laid_20 : decode cX6_laid 20 = .ok (.getfield 63, 3) := by decide +kernel
theorem dX6_laid_23 : decode cX6_laid 23 = .ok (.areturn, 1) := by decide +kernel
theorem dX6_drawnHeight_0 : decode cX6_drawnHeight 0 = .ok (.aload_n 0, 1) := by decide +kernel
theorem dX6_drawnHeight_1 : decode cX6_drawnHeight 1 = .ok (.getfield 47, 3) := by decide +kernel
theorem dX6_drawnHeight_4 : decode cX6_drawnHeight 4 = .ok (.iload_n 1, 1) := by decide +kernel
theorem dX6_drawnHeight_5 : decode cX6_drawnHeight 5 = .ok (.invokevirtual 200, 3) := by decide +kernel
theorem dX6_drawnHeight_8 : decode cX6_drawnHeight 8 = .ok (.aload_n 0, 1) := by decide +kernel
theorem dX6_drawnHeight_9 : decode cX6_drawnHeight 9 = .ok (.getfield 47, 3) := by decide +kernel
theorem dX6_drawnHeight_12 : decode cX6_drawnHeight 12 = .ok (.getfield 282, 3) := by decide +kernel
theorem dX6_drawnHeight_15 : decode cX6_drawnHeight 15 = .ok (.ireturn, 1) := by decide +kernel
theorem dX6_parLies_0 : decode cX6_parLies 0 = .ok (.aload_n 0, 1) := by decide +kernel
theorem dX6_parLies_1 : decode cX6_parLies 1 = .ok (.invokevirtual 122, 3) := by decide +kernel
theorem dX6_parLies_4 : decode cX6_parLies 4 = .ok (.astore_n 3, 1) := by decide +kernel
theorem dX6_parLies_5 : decode cX6_parLies 5 = .ok (.aload_n 3, 1) := by decide +kernel
theorem dX6_parLies_6 : decode cX6_parLies 6 = .ok (.getfield 285, 3) := by decide +kernel
theorem dX6_parLies_9 : decode cX6_parLies 9 = .ok (.iload_n 1, 1) := by decide +kernel
theorem dX6_parLies_10 : decode cX6_parLies 10 = .ok (.iaload, 1) := by decide +kernel
theorem dX6_parLies_11 : decode cX6_parLies 11 = .ok (.istore 4, 2) := by decide +kernel
theorem dX6_parLies_13 : decode cX6_parLies 13 = .ok (.aload_n 3, 1) := by decide +kernel
theorem dX6_parLies_14 : decode cX6_parLies 14 = .ok (.getfield 286, 3) := by decide +kernel
theorem dX6_parLies_17 : decode cX6_parLies 17 = .ok (.iload_n 1, 1) := by decide +kernel
theorem dX6_parLies_18 : decode cX6_parLies 18 = .ok (.iaload, 1) := by decide +kernel
theorem dX6_parLies_19 : decode cX6_parLies 19 = .ok (.istore 5, 2) := by decide +kernel
theorem dX6_parLies_21 : decode cX6_parLies 21 = .ok (.iload_n 2, 1) := by decide +kernel
theorem dX6_parLies_22 : decode cX6_parLies 22 = .ok (.tableswitch 85 4 9 #[38, 41, 47, 56, 65, 74], 38) := by decide +kernel
theorem dX6_parLies_60 : decode cX6_parLies 60 = .ok (.iload 4, 2) := by decide +kernel
theorem dX6_parLies_62 : decode cX6_parLies 62 = .ok (.ireturn, 1) := by decide +kernel
theorem dX6_parLies_63 : decode cX6_parLies 63 = .ok (.iload 5, 2) := by decide +kernel
theorem dX6_parLies_65 : decode cX6_parLies 65 = .ok (.iload 4, 2) := by decide +kernel
theorem dX6_parLies_67 : decode cX6_parLies 67 = .ok (.isub, 1) := by decide +kernel
theorem dX6_parLies_68 : decode cX6_parLies 68 = .ok (.ireturn, 1) := by decide +kernel
theorem dX6_parLies_69 : decode cX6_parLies 69 = .ok (.aload_n 3, 1) := by decide +kernel
theorem dX6_parLies_70 : decode cX6_parLies 70 = .ok (.iload 4, 2) := by decide +kernel
theorem dX6_parLies_72 : decode cX6_parLies 72 = .ok (.iload 5, 2) := by decide +kernel
theorem dX6_parLies_74 : decode cX6_parLies 74 = .ok (.invokevirtual 132, 3) := by decide +kernel
theorem dX6_parLies_77 : decode cX6_parLies 77 = .ok (.ireturn, 1) := by decide +kernel
theorem dX6_parLies_78 : decode cX6_parLies 78 = .ok (.aload_n 3, 1) := by decide +kernel
theorem dX6_parLies_79 : decode cX6_parLies 79 = .ok (.iload 4, 2) := by decide +kernel
theorem dX6_parLies_81 : decode cX6_parLies 81 = .ok (.iload 5, 2) := by decide +kernel
theorem dX6_parLies_83 : decode cX6_parLies 83 = .ok (.invokevirtual 289, 3) := by decide +kernel
theorem dX6_parLies_86 : decode cX6_parLies 86 = .ok (.ireturn, 1) := by decide +kernel
theorem dX6_parLies_87 : decode cX6_parLies 87 = .ok (.aload_n 3, 1) := by decide +kernel
theorem dX6_parLies_88 : decode cX6_parLies 88 = .ok (.iload 4, 2) := by decide +kernel
theorem dX6_parLies_90 : decode cX6_parLies 90 = .ok (.iload 5, 2) := by decide +kernel
theorem dX6_parLies_92 : decode cX6_parLies 92 = .ok (.invokevirtual 136, 3) := by decide +kernel
theorem dX6_parLies_95 : decode cX6_parLies 95 = .ok (.ireturn, 1) := by decide +kernel
theorem dX6_parLies_96 : decode cX6_parLies 96 = .ok (.aload_n 3, 1) := by decide +kernel
theorem dX6_parLies_97 : decode cX6_parLies 97 = .ok (.iload 4, 2) := by decide +kernel
theorem dX6_parLies_99 : decode cX6_parLies 99 = .ok (.iload 5, 2) := by decide +kernel
theorem dX6_parLies_101 : decode cX6_parLies 101 = .ok (.iconst 1, 1) := by decide +kernel
theorem dX6_parLies_102 : decode cX6_parLies 102 = .ok (.isub, 1) := by decide +kernel
theorem dX6_parLies_103 : decode cX6_parLies 103 = .ok (.invokevirtual 292, 3) := by decide +kernel
theorem dX6_parLies_106 : decode cX6_parLies 106 = .ok (.ireturn, 1) := by decide +kernel
theorem dX6_parLies_107 : decode cX6_parLies 107 = .ok (.iconst (-1), 1) := by decide +kernel
theorem dX6_parLies_108 : decode cX6_parLies 108 = .ok (.ireturn, 1) := by decide +kernel
theorem dX6_layTrial_0 : decode cX6_layTrial 0 = .ok (.aload_n 0, 1) := by decide +kernel
theorem dX6_layTrial_1 : decode cX6_layTrial 1 = .ok (.getfield 23, 3) := by decide +kernel
theorem dX6_layTrial_4 : decode cX6_layTrial 4 = .ok (.getfield 170, 3) := by decide +kernel
theorem dX6_layTrial_7 : decode cX6_layTrial 7 = .ok (.iload_n 1, 1) := by decide +kernel
theorem dX6_layTrial_8 : decode cX6_layTrial 8 = .ok (.iaload, 1) := by decide +kernel
theorem dX6_layTrial_9 : decode cX6_layTrial 9 = .ok (.istore_n 3, 1) := by decide +kernel
theorem dX6_layTrial_10 : decode cX6_layTrial 10 = .ok (.aload_n 0, 1) := by decide +kernel
theorem dX6_layTrial_11 : decode cX6_layTrial 11 = .ok (.getfield 23, 3) := by decide +kernel
theorem dX6_layTrial_14 : decode cX6_layTrial 14 = .ok (.getfield 170, 3) := by decide +kernel
theorem dX6_layTrial_17 : decode cX6_layTrial 17 = .ok (.iload_n 1, 1) := by decide +kernel
theorem dX6_layTrial_18 : decode cX6_layTrial 18 = .ok (.iload_n 2, 1) := by decide +kernel
theorem dX6_layTrial_19 : decode cX6_layTrial 19 = .ok (.iastore, 1) := by decide +kernel
theorem dX6_layTrial_20 : decode cX6_layTrial 20 = .ok (.aload_n 0, 1) := by decide +kernel
theorem dX6_layTrial_21 : decode cX6_layTrial 21 = .ok (.getfield 67, 3) := by decide +kernel
theorem dX6_layTrial_24 : decode cX6_layTrial 24 = .ok (.invokevirtual 279, 3) := by decide +kernel
theorem dX6_layTrial_27 : decode cX6_layTrial 27 = .ok (.aload_n 0, 1) := by decide +kernel
theorem dX6_layTrial_28 : decode cX6_layTrial 28 = .ok (.getfield 23, 3) := by decide +kernel
theorem dX6_layTrial_31 : decode cX6_layTrial 31 = .ok (.getfield 170, 3) := by decide +kernel
theorem dX6_layTrial_34 : decode cX6_layTrial 34 = .ok (.iload_n 1, 1) := by decide +kernel
theorem dX6_layTrial_35 : decode cX6_layTrial 35 = .ok (.iload_n 3, 1) := by decide +kernel
theorem dX6_layTrial_36 : decode cX6_layTrial 36 = .ok (.iastore, 1) := by decide +kernel
theorem dX6_layTrial_37 : decode cX6_layTrial 37 = .ok (.return_, 1) := by decide +kernel
theorem dX6_bestDrop_0 : decode cX6_bestDrop 0 = .ok (.iconst 2, 1) := by decide +kernel
theorem dX6_bestDrop_1 : decode cX6_bestDrop 1 = .ok (.istore_n 2, 1) := by decide +kernel
theorem dX6_bestDrop_2 : decode cX6_bestDrop 2 = .ok (.iconst 0, 1) := by decide +kernel
theorem dX6_bestDrop_3 : decode cX6_bestDrop 3 = .ok (.istore_n 3, 1) := by decide +kernel
theorem dX6_bestDrop_4 : decode cX6_bestDrop 4 = .ok (.iconst 2, 1) := by decide +kernel
theorem dX6_bestDrop_5 : decode cX6_bestDrop 5 = .ok (.istore 4, 2) := by decide +kernel
theorem dX6_bestDrop_7 : decode cX6_bestDrop 7 = .ok (.iload 4, 2) := by decide +kernel
theorem dX6_bestDrop_9 : decode cX6_bestDrop 9 = .ok (.iconst 5, 1) := by decide +kernel
theorem dX6_bestDrop_10 : decode cX6_bestDrop 10 = .ok (.if_icmp .gt 75, 3) := by decide +kernel
theorem dX6_bestDrop_13 : decode cX6_bestDrop 13 = .ok (.aload_n 0, 1) := by decide +kernel
theorem dX6_bestDrop_14 : decode cX6_bestDrop 14 = .ok (.iload_n 1, 1) := by decide +kernel
theorem dX6_bestDrop_15 : decode cX6_bestDrop 15 = .ok (.iload 4, 2) := by decide +kernel
theorem dX6_bestDrop_17 : decode cX6_bestDrop 17 = .ok (.invokevirtual 252, 3) := by decide +kernel
theorem dX6_bestDrop_20 : decode cX6_bestDrop 20 = .ok (.aload_n 0, 1) := by decide +kernel
theorem dX6_bestDrop_21 : decode cX6_bestDrop 21 = .ok (.getfield 67, 3) := by decide +kernel
theorem dX6_bestDrop_24 : decode cX6_bestDrop 24 = .ok (.getfield 126, 3) := by decide +kernel
theorem dX6_bestDrop_27 : decode cX6_bestDrop 27 = .ok (.ldc_w 295, 3) := by decide +kernel
theorem dX6_bestDrop_30 : decode cX6_bestDrop 30 = .ok (.imul, 1) := by decide +kernel
theorem dX6_bestDrop_31 : decode cX6_bestDrop 31 = .ok (.aload_n 0, 1) := by decide +kernel
theorem dX6_bestDrop_32 : decode cX6_bestDrop 32 = .ok (.getfield 67, 3) := by decide +kernel
theorem dX6_bestDrop_35 : decode cX6_bestDrop 35 = .ok (.iconst 0, 1) := by decide +kernel
theorem dX6_bestDrop_36 : decode cX6_bestDrop 36 = .ok (.sipush 152, 3) := by decide +kernel
theorem dX6_bestDrop_39 : decode cX6_bestDrop 39 = .ok (.invokevirtual 132, 3) := by decide +kernel
theorem dX6_bestDrop_42 : decode cX6_bestDrop 42 = .ok (.sipush 1000, 3) := by decide +kernel
theorem dX6_bestDrop_45 : decode cX6_bestDrop 45 = .ok (.imul, 1) := by decide +kernel
theorem dX6_bestDrop_46 : decode cX6_bestDrop 46 = .ok (.iadd, 1) := by decide +kernel
theorem dX6_bestDrop_47 : decode cX6_bestDrop 47 = .ok (.aload_n 0, 1) := by decide +kernel
theorem dX6_bestDrop_48 : decode cX6_bestDrop 48 = .ok (.getfield 67, 3) := by decide +kernel
theorem dX6_bestDrop_51 : decode cX6_bestDrop 51 = .ok (.iconst 0, 1) := by decide +kernel
theorem dX6_bestDrop_52 : decode cX6_bestDrop 52 = .ok (.sipush 152, 3) := by decide +kernel
theorem dX6_bestDrop_55 : decode cX6_bestDrop 55 = .ok (.invokevirtual 136, 3) := by decide +kernel
theorem dX6_bestDrop_58 : decode cX6_bestDrop 58 = .ok (.iadd, 1) := by decide +kernel
theorem dX6_bestDrop_59 : decode cX6_bestDrop 59 = .ok (.istore 5, 2) := by decide +kernel
theorem dX6_bestDrop_61 : decode cX6_bestDrop 61 = .ok (.iload 4, 2) := by decide +kernel
theorem dX6_bestDrop_63 : decode cX6_bestDrop 63 = .ok (.iconst 2, 1) := by decide +kernel
theorem dX6_bestDrop_64 : decode cX6_bestDrop 64 = .ok (.if_icmp .eq 9, 3) := by decide +kernel
theorem dX6_bestDrop_67 : decode cX6_bestDrop 67 = .ok (.iload 5, 2) := by decide +kernel
theorem dX6_bestDrop_69 : decode cX6_bestDrop 69 = .ok (.iload_n 3, 1) := by decide +kernel
theorem dX6_bestDrop_70 : decode cX6_bestDrop 70 = .ok (.if_icmp .gt 9, 3) := by decide +kernel
theorem dX6_bestDrop_73 : decode cX6_bestDrop 73 = .ok (.iload 4, 2) := by decide +kernel
theorem dX6_bestDrop_75 : decode cX6_bestDrop 75 = .ok (.istore_n 2, 1) := by decide +kernel
theorem dX6_bestDrop_76 : decode cX6_bestDrop 76 = .ok (.iload 5, 2) := by decide +kernel
theorem dX6_bestDrop_78 : decode cX6_bestDrop 78 = .ok (.istore_n 3, 1) := by decide +kernel
theorem dX6_bestDrop_79 : decode cX6_bestDrop 79 = .ok (.iinc 4 1, 3) := by decide +kernel
theorem dX6_bestDrop_82 : decode cX6_bestDrop 82 = .ok (.goto (-75), 3) := by decide +kernel
theorem dX6_bestDrop_85 : decode cX6_bestDrop 85 = .ok (.iload_n 2, 1) := by decide +kernel
theorem dX6_bestDrop_86 : decode cX6_bestDrop 86 = .ok (.ireturn, 1) := by decide +kernel
theorem dX6_letterOf_0 : decode cX6_letterOf 0 = .ok (.iload_n 0, 1) := by decide +kernel
theorem dX6_letterOf_1 : decode cX6_letterOf 1 = .ok (.iconst 5, 1) := by decide +kernel
theorem dX6_letterOf_2 : decode cX6_letterOf 2 = .ok (.iload_n 1, 1) := by decide +kernel
theorem dX6_letterOf_3 : decode cX6_letterOf 3 = .ok (.imul, 1) := by decide +kernel
theorem dX6_letterOf_4 : decode cX6_letterOf 4 = .ok (.ishr, 1) := by decide +kernel
theorem dX6_letterOf_5 : decode cX6_letterOf 5 = .ok (.bipush 31, 2) := by decide +kernel
theorem dX6_letterOf_7 : decode cX6_letterOf 7 = .ok (.iand, 1) := by decide +kernel
theorem dX6_letterOf_8 : decode cX6_letterOf 8 = .ok (.ireturn, 1) := by decide +kernel
theorem dX6_lettersIn_0 : decode cX6_lettersIn 0 = .ok (.iconst 0, 1) := by decide +kernel
theorem dX6_lettersIn_1 : decode cX6_lettersIn 1 = .ok (.istore_n 1, 1) := by decide +kernel
theorem dX6_lettersIn_2 : decode cX6_lettersIn 2 = .ok (.iconst 0, 1) := by decide +kernel
theorem dX6_lettersIn_3 : decode cX6_lettersIn 3 = .ok (.istore_n 2, 1) := by decide +kernel
theorem dX6_lettersIn_4 : decode cX6_lettersIn 4 = .ok (.iload_n 2, 1) := by decide +kernel
theorem dX6_lettersIn_5 : decode cX6_lettersIn 5 = .ok (.bipush 6, 2) := by decide +kernel
theorem dX6_lettersIn_7 : decode cX6_lettersIn 7 = .ok (.if_icmp .ge 20, 3) := by decide +kernel
theorem dX6_lettersIn_10 : decode cX6_lettersIn 10 = .ok (.iload_n 0, 1) := by decide +kernel
theorem dX6_lettersIn_11 : decode cX6_lettersIn 11 = .ok (.iload_n 2, 1) := by decide +kernel
theorem dX6_lettersIn_12 : decode cX6_lettersIn 12 = .ok (.invokestatic 197, 3) := by decide +kernel
theorem dX6_lettersIn_15 : decode cX6_lettersIn 15 = .ok (.ifCond .eq 6, 3) := by decide +kernel
theorem dX6_lettersIn_18 : decode cX6_lettersIn 18 = .ok (.iinc 1 1, 3) := by decide +kernel
theorem dX6_lettersIn_21 : decode cX6_lettersIn 21 = .ok (.iinc 2 1, 3) := by decide +kernel
theorem dX6_lettersIn_24 : decode cX6_lettersIn 24 = .ok (.goto (-20), 3) := by decide +kernel
theorem dX6_lettersIn_27 : decode cX6_lettersIn 27 = .ok (.iload_n 1, 1) := by decide +kernel
theorem dX6_lettersIn_28 : decode cX6_lettersIn 28 = .ok (.ireturn, 1) := by decide +kernel
theorem dX6_widthOf_0 : decode cX6_widthOf 0 = .ok (.iconst 0, 1) := by decide +kernel
theorem dX6_widthOf_1 : decode cX6_widthOf 1 = .ok (.istore_n 1, 1) := by decide +kernel
theorem dX6_widthOf_2 : decode cX6_widthOf 2 = .ok (.iconst 0, 1) := by decide +kernel
theorem dX6_widthOf_3 : decode cX6_widthOf 3 = .ok (.istore_n 2, 1) := by decide +kernel
theorem dX6_widthOf_4 : decode cX6_widthOf 4 = .ok (.iload_n 2, 1) := by decide +kernel
theorem dX6_widthOf_5 : decode cX6_widthOf 5 = .ok (.bipush 6, 2) := by decide +kernel
theorem dX6_widthOf_7 : decode cX6_widthOf 7 = .ok (.if_icmp .ge 20, 3) := by decide +kernel
theorem dX6_widthOf_10 : decode cX6_widthOf 10 = .ok (.iload_n 1, 1) := by decide +kernel
theorem dX6_widthOf_11 : decode cX6_widthOf 11 = .ok (.iload_n 0, 1) := by decide +kernel
theorem dX6_widthOf_12 : decode cX6_widthOf 12 = .ok (.iload_n 2, 1) := by decide +kernel
theorem dX6_widthOf_13 : decode cX6_widthOf 13 = .ok (.invokestatic 197, 3) := by decide +kernel
theorem dX6_widthOf_16 : decode cX6_widthOf 16 = .ok (.invokestatic 296, 3) := by decide +kernel
theorem dX6_widthOf_19 : decode cX6_widthOf 19 = .ok (.iadd, 1) := by decide +kernel
theorem dX6_widthOf_20 : decode cX6_widthOf 20 = .ok (.istore_n 1, 1) := by decide +kernel
theorem dX6_widthOf_21 : decode cX6_widthOf 21 = .ok (.iinc 2 1, 3) := by decide +kernel
theorem dX6_widthOf_24 : decode cX6_widthOf 24 = .ok (.goto (-20), 3) := by decide +kernel
theorem dX6_widthOf_27 : decode cX6_widthOf 27 = .ok (.iload_n 1, 1) := by decide +kernel
theorem dX6_widthOf_28 : decode cX6_widthOf 28 = .ok (.ireturn, 1) := by decide +kernel
theorem dX6_letterWidth_0 : decode cX6_letterWidth 0 = .ok (.iload_n 0, 1) := by decide +kernel
theorem dX6_letterWidth_1 : decode cX6_letterWidth 1 = .ok (.tableswitch 117 0 23 #[111, 117, 117, 117, 117, 117, 117, 117, 117, 113, 113, 117, 113, 115, 117, 117, 117, 117, 117, 117, 113, 117, 117, 115], 111) := by decide +kernel
theorem dX6_letterWidth_112 : decode cX6_letterWidth 112 = .ok (.iconst 0, 1) := by decide +kernel
theorem dX6_letterWidth_113 : decode cX6_letterWidth 113 = .ok (.ireturn, 1) := by decide +kernel
theorem dX6_letterWidth_114 : decode cX6_letterWidth 114 = .ok (.iconst 1, 1) := by decide +kernel
theorem dX6_letterWidth_115 : decode cX6_letterWidth 115 = .ok (.ireturn, 1) := by decide +kernel
theorem dX6_letterWidth_116 : decode cX6_letterWidth 116 = .ok (.iconst 3, 1) := by decide +kernel
theorem dX6_letterWidth_117 : decode cX6_letterWidth 117 = .ok (.ireturn, 1) := by decide +kernel
theorem dX6_letterWidth_118 : decode cX6_letterWidth 118 = .ok (.iconst 2, 1) := by decide +kernel
theorem dX6_letterWidth_119 : decode cX6_letterWidth 119 = .ok (.ireturn, 1) := by decide +kernel
end
section
theorem dX7_init_0 : decode cX7_init 0 = .ok (.aload_n 0, 1) := by decide +kernel
theorem dX7_init_1 : decode cX7_init 1 = .ok (.invokespecial 1, 3) := by decide +kernel
theorem dX7_init_4 : decode cX7_init 4 = .ok (.aload_n 0, 1) := by decide +kernel
theorem dX7_init_5 : decode cX7_init 5 = .ok (.sipush 591, 3) := by decide +kernel
theorem dX7_init_8 : decode cX7_init 8 = .ok (.newarray .int, 2) := by decide +kernel
theorem dX7_init_10 : decode cX7_init 10 = .ok (.putfield 7, 3) := by decide +kernel
theorem dX7_init_13 : decode cX7_init 13 = .ok (.aload_n 0, 1) := by decide +kernel
theorem dX7_init_14 : decode cX7_init 14 = .ok (.sipush 591, 3) := by decide +kernel
theorem dX7_init_17 : decode cX7_init 17 = .ok (.newarray .int, 2) := by decide +kernel
theorem dX7_init_19 : decode cX7_init 19 = .ok (.putfield 13, 3) := by decide +kernel
theorem dX7_init_22 : decode cX7_init 22 = .ok (.aload_n 0, 1) := by decide +kernel
theorem dX7_init_23 : decode cX7_init 23 = .ok (.bipush 114, 2) := by decide +kernel
theorem dX7_init_25 : decode cX7_init 25 = .ok (.newarray .int, 2) := by decide +kernel
theorem dX7_init_27 : decode cX7_init 27 = .ok (.putfield 16, 3) := by decide +kernel
theorem dX7_init_30 : decode cX7_init 30 = .ok (.aload_n 0, 1) := by decide +kernel
theorem dX7_init_31 : decode cX7_init 31 = .ok (.bipush 114, 2) := by decide +kernel
theorem dX7_init_33 : decode cX7_init 33 = .ok (.newarray .int, 2) := by decide +kernel
theorem dX7_init_35 : decode cX7_init 35 = .ok (.putfield 19, 3) := by decide +kernel
theorem dX7_init_38 : decode cX7_init 38 = .ok (.aload_n 0, 1) := by decide +kernel
theorem dX7_init_39 : decode cX7_init 39 = .ok (.sipush 1182, 3) := by decide +kernel
theorem dX7_init_42 : decode cX7_init 42 = .ok (.newarray .int, 2) := by decide +kernel
theorem dX7_init_44 : decode cX7_init 44 = .ok (.putfield 22, 3) := by decide +kernel
theorem dX7_init_47 : decode cX7_init 47 = .ok (.aload_n 0, 1) := by decide +kernel
theorem dX7_init_48 : decode cX7_init 48 = .ok (.iconst 2, 1) := by decide +kernel
theorem dX7_init_49 : decode cX7_init 49 = .ok (.newarray .boolean, 2) := by decide +kernel
theorem dX7_init_51 : decode cX7_init 51 = .ok (.putfield 25, 3) := by decide +kernel
theorem dX7_init_54 : decode cX7_init 54 = .ok (.aload_n 0, 1) := by decide +kernel
theorem dX7_init_55 : decode cX7_init 55 = .ok (.sipush 400, 3) := by decide +kernel
theorem dX7_init_58 : decode cX7_init 58 = .ok (.newarray .int, 2) := by decide +kernel
theorem dX7_init_60 : decode cX7_init 60 = .ok (.putfield 29, 3) := by decide +kernel
theorem dX7_init_63 : decode cX7_init 63 = .ok (.aload_n 0, 1) := by decide +kernel
theorem dX7_init_64 : decode cX7_init 64 = .ok (.bipush 10, 2) := by decide +kernel
theorem dX7_init_66 : decode cX7_init 66 = .ok (.newarray .int, 2) := by decide +kernel
theorem dX7_init_68 : decode cX7_init 68 = .ok (.dup, 1) := by decide +kernel
theorem dX7_init_69 : decode cX7_init 69 = .ok (.iconst 0, 1) := by decide +kernel
theorem dX7_init_70 : decode cX7_init 70 = .ok (.iconst 0, 1) := by decide +kernel
theorem dX7_init_71 : decode cX7_init 71 = .ok (.iastore, 1) := by decide +kernel
theorem dX7_init_72 : decode cX7_init 72 = .ok (.dup, 1) := by decide +kernel
theorem dX7_init_73 : decode cX7_init 73 = .ok (.iconst 1, 1) := by decide +kernel
theorem dX7_init_74 : decode cX7_init 74 = .ok (.iconst 3, 1) := by decide +kernel
theorem dX7_init_75 : decode cX7_init 75 = .ok (.iastore, 1) := by decide +kernel
theorem dX7_init_76 : decode cX7_init 76 = .ok (.dup, 1) := by decide +kernel
theorem dX7_init_77 : decode cX7_init 77 = .ok (.iconst 2, 1) := by decide +kernel
theorem dX7_init_78 : decode cX7_init 78 = .ok (.bipush 8, 2) := by decide +kernel
theorem dX7_init_80 : decode cX7_init 80 = .ok (.iastore, 1) := by decide +kernel
theorem dX7_init_81 : decode cX7_init 81 = .ok (.dup, 1) := by decide +kernel
theorem dX7_init_82 : decode cX7_init 82 = .ok (.iconst 3, 1) := by decide +kernel
theorem dX7_init_83 : decode cX7_init 83 = .ok (.bipush 11, 2) := by decide +kernel
theorem dX7_init_85 : decode cX7_init 85 = .ok (.iastore, 1) := by decide +kernel
theorem dX7_init_86 : decode cX7_init 86 = .ok (.dup, 1) := by decide +kernel
theorem dX7_init_87 : decode cX7_init 87 = .ok (.iconst 4, 1) := by decide +kernel
theorem dX7_init_88 : decode cX7_init 88 = .ok (.bipush 18, 2) := by decide +kernel
theorem dX7_init_90 : decode cX7_init 90 = .ok (.iastore, 1) := by decide +kernel
theorem dX7_init_91 : decode cX7_init 91 = .ok (.dup, 1) := by decide +kernel
theorem dX7_init_92 : decode cX7_init 92 = .ok (.iconst 5, 1) := by decide +kernel
theorem dX7_init_93 : decode cX7_init 93 = .ok (.bipush 25, 2) := by decide +kernel
theorem dX7_init_95 : decode cX7_init 95 = .ok (.iastore, 1) := by decide +kernel
theorem dX7_init_96 : decode cX7_init 96 = .ok (.dup, 1) := by decide +kernel
theorem dX7_init_97 : decode cX7_init 97 = .ok (.bipush 6, 2) := by decide +kernel
theorem dX7_init_99 : decode cX7_init 99 = .ok (.bipush 28, 2) := by decide +kernel
theorem dX7_init_101 : decode cX7_init 101 = .ok (.iastore, 1) := by decide +kernel
theorem dX7_init_102 : decode cX7_init 102 = .ok (.dup, 1) := by decide +kernel
theorem dX7_init_103 : decode cX7_init 103 = .ok (.bipush 7, 2) := by decide +kernel
theorem dX7_init_105 : decode cX7_init 105 = .ok (.bipush 31, 2) := by decide +kernel
theorem dX7_init_107 : decode cX7_init 107 = .ok (.iastore, 1) := by decide +kernel
theorem dX7_init_108 : decode cX7_init 108 = .ok (.dup, 1) := by decide +kernel
theorem dX7_init_109 : decode cX7_init 109 = .ok (.bipush 8, 2) := by decide +kernel
theorem dX7_init_111 : decode cX7_init 111 = .ok (.bipush 35, 2) := by decide +kernel
theorem dX7_init_113 : decode cX7_init 113 = .ok (.iastore, 1) := by decide +kernel
theorem dX7_init_114 : decode cX7_init 114 = .ok (.dup, 1) := by decide +kernel
theorem dX7_init_115 : decode cX7_init 115 = .ok (.bipush 9, 2) := by decide +kernel
theorem dX7_init_117 : decode cX7_init 117 = .ok (.bipush 41, 2) := by decide +kernel
theorem dX7_init_119 : decode cX7_init 119 = .ok (.iastore, 1) := by decide +kernel
theorem dX7_init_120 : decode cX7_init 120 = .ok (.putfield 32, 3) := by decide +kernel
theorem dX7_init_123 : decode cX7_init 123 = .ok (.aload_n 0, 1) := by decide +kernel
theorem dX7_init_124 : decode cX7_init 124 = .ok (.bipush 41, 2) := by decide +kernel
theorem dX7_init_126 : decode cX7_init 126 = .ok (.newarray .int, 2) := by decide +kernel
theorem dX7_init_128 : decode cX7_init 128 = .ok (.dup, 1) := by decide +kernel
theorem dX7_init_129 : decode cX7_init 129 = .ok (.iconst 0, 1) := by decide +kernel
theorem dX7_init_130 : decode cX7_init 130 = .ok (.bipush 115, 2) := by decide +kernel
theorem dX7_init_132 : decode cX7_init 132 = .ok (.iastore, 1) := by decide +kernel
theorem dX7_init_133 : decode cX7_init 133 = .ok (.dup, 1) := by decide +kernel
theorem dX7_init_134 : decode cX7_init 134 = .ok (.iconst 1, 1) := by decide +kernel
theorem dX7_init_135 : decode cX7_init 135 = .ok (.bipush 101, 2) := by decide +kernel
theorem dX7_init_137 : decode cX7_init 137 = .ok (.iastore, 1) := by decide +kernel
theorem dX7_init_138 : decode cX7_init 138 = .ok (.dup, 1) := by decide +kernel
theorem dX7_init_139 : decode cX7_init 139 = .ok (.iconst 2, 1) := by decide +kernel
theorem dX7_init_140 : decode cX7_init 140 = .ok (.bipush 116, 2) := by decide +kernel
theorem dX7_init_142 : decode cX7_init 142 = .ok (.iastore, 1) := by decide +kernel
theorem dX7_init_143 : decode cX7_init 143 = .ok (.dup, 1) := by decide +kernel
theorem dX7_init_144 : decode cX7_init 144 = .ok (.iconst 3, 1) := by decide +kernel
theorem dX7_init_145 : decode cX7_init 145 = .ok (.bipush 115, 2) := by decide +kernel
theorem dX7_init_147 : decode cX7_init 147 = .ok (.iastore, 1) := by decide +kernel
theorem dX7_init_148 : decode cX7_init 148 = .ok (.dup, 1) := by decide +kernel
theorem dX7_init_149 : decode cX7_init 149 = .ok (.iconst 4, 1) := by decide +kernel
theorem dX7_init_150 : decode cX7_init 150 = .ok (.bipush 104, 2) := by decide +kernel
theorem dX7_init_152 : decode cX7_init 152 = .ok (.iastore, 1) := by decide +kernel
theorem dX7_init_153 : decode cX7_init 153 = .ok (.dup, 1) := by decide +kernel
theorem dX7_init_154 : decode cX7_init 154 = .ok (.iconst 5, 1) := by decide +kernel
theorem dX7_init_155 : decode cX7_init 155 = .ok (.bipush 97, 2) := by decide +kernel
theorem dX7_init_157 : decode cX7_init 157 = .ok (.iastore, 1) := by decide +kernel
theorem dX7_init_158 : decode cX7_init 158 = .ok (.dup, 1) := by decide +kernel
theorem dX7_init_159 : decode cX7_init 159 = .ok (.bipush 6, 2) := by decide +kernel
theorem dX7_init_161 : decode cX7_init 161 = .ok (.bipush 112, 2) := by decide +kernel
theorem dX7_init_163 : decode cX7_init 163 = .ok (.iastore, 1) := by decide +kernel
theorem dX7_init_164 : decode cX7_init 164 = .ok (.dup, 1) := by decide +kernel
theorem dX7_init_165 : decode cX7_init 165 = .ok (.bipush 7, 2) := by decide +kernel
theorem dX7_init_167 : decode cX7_init 167 = .ok (.bipush 101, 2) := by decide +kernel
theorem dX7_init_169 : decode cX7_init 169 = .ok (.iastore, 1) := by decide +kernel
theorem dX7_init_170 : decode cX7_init 170 = .ok (.dup, 1) := by decide +kernel
theorem dX7_init_171 : decode cX7_init 171 = .ok (.bipush 8, 2) := by decide +kernel
theorem dX7_init_173 : decode cX7_init 173 = .ok (.bipush 112, 2) := by decide +kernel
theorem dX7_init_175 : decode cX7_init 175 = .ok (.iastore, 1) := by decide +kernel
theorem dX7_init_176 : decode cX7_init 176 = .ok (.dup, 1) := by decide +kernel
theorem dX7_init_177 : decode cX7_init 177 = .ok (.bipush 9, 2) := by decide +kernel
theorem dX7_init_179 : decode cX7_init 179 = .ok (.bipush 97, 2) := by decide +kernel
theorem dX7_init_181 : decode cX7_init 181 = .ok (.iastore, 1) := by decide +kernel
theorem dX7_init_182 : decode cX7_init 182 = .ok (.dup, 1) := by decide +kernel
theorem dX7_init_183 : decode cX7_init 183 = .ok (.bipush 10, 2) := by decide +kernel
theorem dX7_init_185 : decode cX7_init 185 = .ok (.bipush 114, 2) := by decide +kernel
theorem dX7_init_187 : decode cX7_init 187 = .ok (.iastore, 1) := by decide +kernel
theorem dX7_init_188 : decode cX7_init 188 = .ok (.dup, 1) := by decide +kernel
theorem dX7_init_189 : decode cX7_init 189 = .ok (.bipush 11, 2) := by decide +kernel
theorem dX7_init_191 : decode cX7_init 191 = .ok (.bipush 109, 2) := by decide +kernel
theorem dX7_init_193 : decode cX7_init 193 = .ok (.iastore, 1) := by decide +kernel
theorem dX7_init_194 : decode cX7_init 194 = .ok (.dup, 1) := by decide +kernel
theorem dX7_init_195 : decode cX7_init 195 = .ok (.bipush 12, 2) := by decide +kernel
theorem dX7_init_197 : decode cX7_init 197 = .ok (.bipush 101, 2) := by decide +kernel
theorem dX7_init_199 : decode cX7_init 199 = .ok (.iastore, 1) := by decide +kernel
theorem dX7_init_200 : decode cX7_init 200 = .ok (.dup, 1) := by decide +kernel
theorem dX7_init_201 : decode cX7_init 201 = .ok (.bipush 13, 2) := by decide +kernel
theorem dX7_init_203 : decode cX7_init 203 = .ok (.bipush 97, 2) := by decide +kernel
theorem dX7_init_205 : decode cX7_init 205 = .ok (.iastore, 1) := by decide +kernel
theorem dX7_init_206 : decode cX7_init 206 = .ok (.dup, 1) := by decide +kernel
theorem dX7_init_207 : decode cX7_init 207 = .ok (.bipush 14, 2) := by decide +kernel
theorem dX7_init_209 : decode cX7_init 209 = .ok (.bipush 115, 2) := by decide +kernel
theorem dX7_init_211 : decode cX7_init 211 = .ok (.iastore, 1) := by decide +kernel
theorem dX7_init_212 : decode cX7_init 212 = .ok (.dup, 1) := by decide +kernel
theorem dX7_init_213 : decode cX7_init 213 = .ok (.bipush 15, 2) := by decide +kernel
theorem dX7_init_215 : decode cX7_init 215 = .ok (.bipush 117, 2) := by decide +kernel
theorem dX7_init_217 : decode cX7_init 217 = .ok (.iastore, 1) := by decide +kernel
theorem dX7_init_218 : decode cX7_init 218 = .ok (.dup, 1) := by decide +kernel
theorem dX7_init_219 : decode cX7_init 219 = .ok (.bipush 16, 2) := by decide +kernel
theorem dX7_init_221 : decode cX7_init 221 = .ok (.bipush 114, 2) := by decide +kernel
theorem dX7_init_223 : decode cX7_init 223 = .ok (.iastore, 1) := by decide +kernel
theorem dX7_init_224 : decode cX7_init 224 = .ok (.dup, 1) := by decide +kernel
theorem dX7_init_225 : decode cX7_init 225 = .ok (.bipush 17, 2) := by decide +kernel
theorem dX7_init_227 : decode cX7_init 227 = .ok (.bipush 101, 2) := by decide +kernel
theorem dX7_init_229 : decode cX7_init 229 = .ok (.iastore, 1) := by decide +kernel
theorem dX7_init_230 : decode cX7_init 230 = .ok (.dup, 1) := by decide +kernel
theorem dX7_init_231 : decode cX7_init 231 = .ok (.bipush 18, 2) := by decide +kernel
theorem dX7_init_233 : decode cX7_init 233 = .ok (.bipush 108, 2) := by decide +kernel
theorem dX7_init_235 : decode cX7_init 235 = .ok (.iastore, 1) := by decide +kernel
theorem dX7_init_236 : decode cX7_init 236 = .ok (.dup, 1) := by decide +kernel
theorem dX7_init_237 : decode cX7_init 237 = .ok (.bipush 19, 2) := by decide +kernel
theorem dX7_init_239 : decode cX7_init 239 = .ok (.bipush 101, 2) := by decide +kernel
theorem dX7_init_241 : decode cX7_init 241 = .ok (.iastore, 1) := by decide +kernel
theorem dX7_init_242 : decode cX7_init 242 = .ok (.dup, 1) := by decide +kernel
theorem dX7_init_243 : decode cX7_init 243 = .ok (.bipush 20, 2) := by decide +kernel
theorem dX7_init_245 : decode cX7_init 245 = .ok (.bipush 97, 2) := by decide +kernel
theorem dX7_init_247 : decode cX7_init 247 = .ok (.iastore, 1) := by decide +kernel
theorem dX7_init_248 : decode cX7_init 248 = .ok (.dup, 1) := by decide +kernel
theorem dX7_init_249 : decode cX7_init 249 = .ok (.bipush 21, 2) := by decide +kernel
theorem dX7_init_251 : decode cX7_init 251 = .ok (.bipush 100, 2) := by decide +kernel
theorem dX7_init_253 : decode cX7_init 253 = .ok (.iastore, 1) := by decide +kernel
theorem dX7_init_254 : decode cX7_init 254 = .ok (.dup, 1) := by decide +kernel
theorem dX7_init_255 : decode cX7_init 255 = .ok (.bipush 22, 2) := by decide +kernel
theorem dX7_init_257 : decode cX7_init 257 = .ok (.bipush 105, 2) := by decide +kernel
theorem dX7_init_259 : decode cX7_init 259 = .ok (.iastore, 1) := by decide +kernel
theorem dX7_init_260 : decode cX7_init 260 = .ok (.dup, 1) := by decide +kernel
theorem dX7_init_261 : decode cX7_init 261 = .ok (.bipush 23, 2) := by decide +kernel
theorem dX7_init_263 : decode cX7_init 263 = .ok (.bipush 110, 2) := by decide +kernel
theorem dX7_init_265 : decode cX7_init 265 = .ok (.iastore, 1) := by decide +kernel
theorem dX7_init_266 : decode cX7_init 266 = .ok (.dup, 1) := by decide +kernel
theorem dX7_init_267 : decode cX7_init 267 = .ok (.bipush 24, 2) := by decide +kernel
theorem dX7_init_269 : decode cX7_init 269 = .ok (.bipush 103, 2) := by decide +kernel
theorem dX7_init_271 : decode cX7_init 271 = .ok (.iastore, 1) := by decide +kernel
theorem dX7_init_272 : decode cX7_init 272 = .ok (.dup, 1) := by decide +kernel
theorem dX7_init_273 : decode cX7_init 273 = .ok (.bipush 25, 2) := by decide +kernel
theorem dX7_init_275 : decode cX7_init 275 = .ok (.bipush 99, 2) := by decide +kernel
theorem dX7_init_277 : decode cX7_init 277 = .ok (.iastore, 1) := by decide +kernel
theorem dX7_init_278 : decode cX7_init 278 = .ok (.dup, 1) := by decide +kernel
theorem dX7_init_279 : decode cX7_init 279 = .ok (.bipush 26, 2) := by decide +kernel
theorem dX7_init_281 : decode cX7_init 281 = .ok (.bipush 97, 2) := by decide +kernel
theorem dX7_init_283 : decode cX7_init 283 = .ok (.iastore, 1) := by decide +kernel
theorem dX7_init_284 : decode cX7_init 284 = .ok (.dup, 1) := by decide +kernel
theorem dX7_init_285 : decode cX7_init 285 = .ok (.bipush 27, 2) := by decide +kernel
theorem dX7_init_287 : decode cX7_init 287 = .ok (.bipush 112, 2) := by decide +kernel
theorem dX7_init_289 : decode cX7_init 289 = .ok (.iastore, 1) := by decide +kernel
theorem dX7_init_290 : decode cX7_init 290 = .ok (.dup, 1) := by decide +kernel
theorem dX7_init_291 : decode cX7_init 291 = .ok (.bipush 28, 2) := by decide +kernel
theorem dX7_init_293 : decode cX7_init 293 = .ok (.bipush 103, 2) := by decide +kernel
theorem dX7_init_295 : decode cX7_init 295 = .ok (.iastore, 1) := by decide +kernel
theorem dX7_init_296 : decode cX7_init 296 = .ok (.dup, 1) := by decide +kernel
theorem dX7_init_297 : decode cX7_init 297 = .ok (.bipush 29, 2) := by decide +kernel
theorem dX7_init_299 : decode cX7_init 299 = .ok (.bipush 97, 2) := by decide +kernel
theorem dX7_init_301 : decode cX7_init 301 = .ok (.iastore, 1) := by decide +kernel
theorem dX7_init_302 : decode cX7_init 302 = .ok (.dup, 1) := by decide +kernel
theorem dX7_init_303 : decode cX7_init 303 = .ok (.bipush 30, 2) := by decide +kernel
theorem dX7_init_305 : decode cX7_init 305 = .ok (.bipush 112, 2) := by decide +kernel
theorem dX7_init_307 : decode cX7_init 307 = .ok (.iastore, 1) := by decide +kernel
theorem dX7_init_308 : decode cX7_init 308 = .ok (.dup, 1) := by decide +kernel
theorem dX7_init_309 : decode cX7_init 309 = .ok (.bipush 31, 2) := by decide +kernel
theorem dX7_init_311 : decode cX7_init 311 = .ok (.bipush 109, 2) := by decide +kernel
theorem dX7_init_313 : decode cX7_init 313 = .ok (.iastore, 1) := by decide +kernel
theorem dX7_init_314 : decode cX7_init 314 = .ok (.dup, 1) := by decide +kernel
theorem dX7_init_315 : decode cX7_init 315 = .ok (.bipush 32, 2) := by decide +kernel
theorem dX7_init_317 : decode cX7_init 317 = .ok (.bipush 111, 2) := by decide +kernel
theorem dX7_init_319 : decode cX7_init 319 = .ok (.iastore, 1) := by decide +kernel
theorem dX7_init_320 : decode cX7_init 320 = .ok (.dup, 1) := by decide +kernel
theorem dX7_init_321 : decode cX7_init 321 = .ok (.bipush 33, 2) := by decide +kernel
theorem dX7_init_323 : decode cX7_init 323 = .ok (.bipush 100, 2) := by decide +kernel
theorem dX7_init_325 : decode cX7_init 325 = .ok (.iastore, 1) := by decide +kernel
theorem dX7_init_326 : decode cX7_init 326 = .ok (.dup, 1) := by decide +kernel
theorem dX7_init_327 : decode cX7_init 327 = .ok (.bipush 34, 2) := by decide +kernel
theorem dX7_init_329 : decode cX7_init 329 = .ok (.bipush 101, 2) := by decide +kernel
theorem dX7_init_331 : decode cX7_init 331 = .ok (.iastore, 1) := by decide +kernel
theorem dX7_init_332 : decode cX7_init 332 = .ok (.dup, 1) := by decide +kernel
theorem dX7_init_333 : decode cX7_init 333 = .ok (.bipush 35, 2) := by decide +kernel
theorem dX7_init_335 : decode cX7_init 335 = .ok (.bipush 112, 2) := by decide +kernel
theorem dX7_init_337 : decode cX7_init 337 = .ok (.iastore, 1) := by decide +kernel
theorem dX7_init_338 : decode cX7_init 338 = .ok (.dup, 1) := by decide +kernel
theorem dX7_init_339 : decode cX7_init 339 = .ok (.bipush 36, 2) := by decide +kernel
theorem dX7_init_341 : decode cX7_init 341 = .ok (.bipush 111, 2) := by decide +kernel
theorem dX7_init_343 : decode cX7_init 343 = .ok (.iastore, 1) := by decide +kernel
theorem dX7_init_344 : decode cX7_init 344 = .ok (.dup, 1) := by decide +kernel
theorem dX7_init_345 : decode cX7_init 345 = .ok (.bipush 37, 2) := by decide +kernel
theorem dX7_init_347 : decode cX7_init 347 = .ok (.bipush 108, 2) := by decide +kernel
theorem dX7_init_349 : decode cX7_init 349 = .ok (.iastore, 1) := by decide +kernel
theorem dX7_init_350 : decode cX7_init 350 = .ok (.dup, 1) := by decide +kernel
theorem dX7_init_351 : decode cX7_init 351 = .ok (.bipush 38, 2) := by decide +kernel
theorem dX7_init_353 : decode cX7_init 353 = .ok (.bipush 105, 2) := by decide +kernel
theorem dX7_init_355 : decode cX7_init 355 = .ok (.iastore, 1) := by decide +kernel
theorem dX7_init_356 : decode cX7_init 356 = .ok (.dup, 1) := by decide +kernel
theorem dX7_init_357 : decode cX7_init 357 = .ok (.bipush 39, 2) := by decide +kernel
theorem dX7_init_359 : decode cX7_init 359 = .ok (.bipush 99, 2) := by decide +kernel
theorem dX7_init_361 : decode cX7_init 361 = .ok (.iastore, 1) := by decide +kernel
theorem dX7_init_362 : decode cX7_init 362 = .ok (.dup, 1) := by decide +kernel
theorem dX7_init_363 : decode cX7_init 363 = .ok (.bipush 40, 2) := by decide +kernel
theorem dX7_init_365 : decode cX7_init 365 = .ok (.bipush 121, 2) := by decide +kernel
theorem dX7_init_367 : decode cX7_init 367 = .ok (.iastore, 1) := by decide +kernel
theorem dX7_init_368 : decode cX7_init 368 = .ok (.putfield 35, 3) := by decide +kernel
theorem dX7_init_371 : decode cX7_init 371 = .ok (.aload_n 0, 1) := by decide +kernel
theorem dX7_init_372 : decode cX7_init 372 = .ok (.bipush 6, 2) := by decide +kernel
theorem dX7_init_374 : decode cX7_init 374 = .ok (.newarray .boolean, 2) := by decide +kernel
theorem dX7_init_376 : decode cX7_init 376 = .ok (.putfield 38, 3) := by decide +kernel
theorem dX7_init_379 : decode cX7_init 379 = .ok (.aload_n 0, 1) := by decide +kernel
theorem dX7_init_380 : decode cX7_init 380 = .ok (.bipush 9, 2) := by decide +kernel
theorem dX7_init_382 : decode cX7_init 382 = .ok (.newarray .int, 2) := by decide +kernel
theorem dX7_init_384 : decode cX7_init 384 = .ok (.putfield 41, 3) := by decide +kernel
theorem dX7_init_387 : decode cX7_init 387 = .ok (.aload_n 0, 1) := by decide +kernel
theorem dX7_init_388 : decode cX7_init 388 = .ok (.bipush 8, 2) := by decide +kernel
theorem dX7_init_390 : decode cX7_init 390 = .ok (.newarray .int, 2) := by decide +kernel
theorem dX7_init_392 : decode cX7_init 392 = .ok (.putfield 44, 3) := by decide +kernel
theorem dX7_init_395 : decode cX7_init 395 = .ok (.aload_n 0, 1) := by decide +kernel
theorem dX7_init_396 : decode cX7_init 396 = .ok (.sipush 300, 3) := by decide +kernel
theorem dX7_init_399 : decode cX7_init 399 = .ok (.newarray .int, 2) := by decide +kernel
theorem dX7_init_401 : decode cX7_init 401 = .ok (.putfield 47, 3) := by decide +kernel
theorem dX7_init_404 : decode cX7_init 404 = .ok (.aload_n 0, 1) := by decide +kernel
theorem dX7_init_405 : decode cX7_init 405 = .ok (.sipush 300, 3) := by decide +kernel
theorem dX7_init_408 : decode cX7_init 408 = .ok (.newarray .int, 2) := by decide +kernel
theorem dX7_init_410 : decode cX7_init 410 = .ok (.putfield 50, 3) := by decide +kernel
theorem dX7_init_413 : decode cX7_init 413 = .ok (.aload_n 0, 1) := by decide +kernel
theorem dX7_init_414 : decode cX7_init 414 = .ok (.sipush 300, 3) := by decide +kernel
theorem dX7_init_417 : decode cX7_init 417 = .ok (.newarray .int, 2) := by decide +kernel
theorem dX7_init_419 : decode cX7_init 419 = .ok (.putfield 53, 3) := by decide +kernel
theorem dX7_init_422 : decode cX7_init 422 = .ok (.aload_n 0, 1) := by decide +kernel
theorem dX7_init_423 : decode cX7_init 423 = .ok (.sipush 300, 3) := by decide +kernel
theorem dX7_init_426 : decode cX7_init 426 = .ok (.newarray .int, 2) := by decide +kernel
theorem dX7_init_428 : decode cX7_init 428 = .ok (.putfield 56, 3) := by decide +kernel
theorem dX7_init_431 : decode cX7_init 431 = .ok (.aload_n 0, 1) := by decide +kernel
theorem dX7_init_432 : decode cX7_init 432 = .ok (.sipush 6642, 3) := by decide +kernel
theorem dX7_init_435 : decode cX7_init 435 = .ok (.newarray .int, 2) := by decide +kernel
theorem dX7_init_437 : decode cX7_init 437 = .ok (.putfield 59, 3) := by decide +kernel
theorem dX7_init_440 : decode cX7_init 440 = .ok (.aload_n 0, 1) := by decide +kernel
theorem dX7_init_441 : decode cX7_init 441 = .ok (.sipush 6642, 3) := by decide +kernel
theorem dX7_init_444 : decode cX7_init 444 = .ok (.newarray .int, 2) := by decide +kernel
theorem dX7_init_446 : decode cX7_init 446 = .ok (.putfield 62, 3) := by decide +kernel
theorem dX7_init_449 : decode cX7_init 449 = .ok (.aload_n 0, 1) := by decide +kernel
theorem dX7_init_450 : decode cX7_init 450 = .ok (.sipush 6642, 3) := by decide +kernel
theorem dX7_init_453 : decode cX7_init 453 = .ok (.newarray .int, 2) := by decide +kernel
theorem dX7_init_455 : decode cX7_init 455 = .ok (.putfield 65, 3) := by decide +kernel
theorem dX7_init_458 : decode cX7_init 458 = .ok (.aload_n 0, 1) := by decide +kernel
theorem dX7_init_459 : decode cX7_init 459 = .ok (.bipush 7, 2) := by decide +kernel
theorem dX7_init_461 : decode cX7_init 461 = .ok (.newarray .int, 2) := by decide +kernel
theorem dX7_init_463 : decode cX7_init 463 = .ok (.putfield 68, 3) := by decide +kernel
theorem dX7_init_466 : decode cX7_init 466 = .ok (.aload_n 0, 1) := by decide +kernel
theorem dX7_init_467 : decode cX7_init 467 = .ok (.getfield 7, 3) := by decide +kernel
theorem dX7_init_470 : decode cX7_init 470 = .ok (.sipush 585, 3) := by decide +kernel
theorem dX7_init_473 : decode cX7_init 473 = .ok (.bipush 40, 2) := by decide +kernel
theorem dX7_init_475 : decode cX7_init 475 = .ok (.iastore, 1) := by decide +kernel
theorem dX7_init_476 : decode cX7_init 476 = .ok (.aload_n 0, 1) := by decide +kernel
theorem dX7_init_477 : decode cX7_init 477 = .ok (.getfield 7, 3) := by decide +kernel
theorem dX7_init_480 : decode cX7_init 480 = .ok (.sipush 586, 3) := by decide +kernel
theorem dX7_init_483 : decode cX7_init 483 = .ok (.bipush 8, 2) := by decide +kernel
theorem dX7_init_485 : decode cX7_init 485 = .ok (.iastore, 1) := by decide +kernel
theorem dX7_init_486 : decode cX7_init 486 = .ok (.aload_n 0, 1) := by decide +kernel
theorem dX7_init_487 : decode cX7_init 487 = .ok (.getfield 7, 3) := by decide +kernel
theorem dX7_init_490 : decode cX7_init 490 = .ok (.sipush 587, 3) := by decide +kernel
theorem dX7_init_493 : decode cX7_init 493 = .ok (.iconst 5, 1) := by decide +kernel
theorem dX7_init_494 : decode cX7_init 494 = .ok (.iastore, 1) := by decide +kernel
theorem dX7_init_495 : decode cX7_init 495 = .ok (.aload_n 0, 1) := by decide +kernel
theorem dX7_init_496 : decode cX7_init 496 = .ok (.getfield 7, 3) := by decide +kernel
theorem dX7_init_499 : decode cX7_init 499 = .ok (.sipush 588, 3) := by decide +kernel
theorem dX7_init_502 : decode cX7_init 502 = .ok (.iconst 1, 1) := by decide +kernel
theorem dX7_init_503 : decode cX7_init 503 = .ok (.iastore, 1) := by decide +kernel
theorem dX7_init_504 : decode cX7_init 504 = .ok (.return_, 1) := by decide +kernel
theorem dX7_in_0 : decode cX7_in 0 = .ok (.lload_n 0, 1) := by decide +kernel
theorem dX7_in_1 : decode cX7_in 1 = .ok (.lload_n 2, 1) := by decide +kernel
theorem dX7_in_2 : decode cX7_in 2 = .ok (.lcmp, 1) := by decide +kernel
theorem dX7_in_3 : decode cX7_in 3 = .ok (.ifCond .lt 14, 3) := by decide +kernel
theorem dX7_in_6 : decode cX7_in 6 = .ok (.lload_n 0, 1) := by decide +kernel
theorem dX7_in_7 : decode cX7_in 7 = .ok (.lload 4, 2) := by decide +kernel
theorem dX7_in_9 : decode cX7_in 9 = .ok (.lcmp, 1) := by decide +kernel
theorem dX7_in_10 : decode cX7_in 10 = .ok (.ifCond .gt 7, 3) := by decide +kernel
theorem dX7_in_13 : decode cX7_in 13 = .ok (.iconst 1, 1) := by decide +kernel
theorem dX7_in_14 : decode cX7_in 14 = .ok (.goto 4, 3) := by decide +kernel
theorem dX7_in_17 : decode cX7_in 17 = .ok (.iconst 0, 1) := by decide +kernel
theorem dX7_in_18 : decode cX7_in 18 = .ok (.ireturn, 1) := by decide +kernel
theorem dX7_leastOf_0 : decode cX7_leastOf 0 = .ok (.iload_n 0, 1) := by decide +kernel
theorem dX7_leastOf_1 : decode cX7_leastOf 1 = .ok (.ifCond .ne 8, 3) := by decide +kernel
theorem dX7_leastOf_4 : decode cX7_leastOf 4 = .ok (.bipush 20, 2) := by decide +kernel
theorem dX7_leastOf_6 : decode cX7_leastOf 6 = .ok (.goto 22, 3) := by decide +kernel
theorem dX7_leastOf_9 : decode cX7_leastOf 9 = .ok (.iload_n 0, 1) := by decide +kernel
theorem dX7_leastOf_10 : decode cX7_leastOf 10 = .ok (.iconst 1, 1) := by decide +kernel
theorem dX7_leastOf_11 : decode cX7_leastOf 11 = .ok (.if_icmp .ne 7, 3) := by decide +kernel
theorem dX7_leastOf_14 : decode cX7_leastOf 14 = .ok (.iconst 4, 1) := by decide +kernel
theorem dX7_leastOf_15 : decode cX7_leastOf 15 = .ok (.goto 13, 3) := by decide +kernel
theorem dX7_leastOf_18 : decode cX7_leastOf 18 = .ok (.iload_n 0, 1) := by decide +kernel
theorem dX7_leastOf_19 : decode cX7_leastOf 19 = .ok (.iconst 2, 1) := by decide +kernel
theorem dX7_leastOf_20 : decode cX7_leastOf 20 = .ok (.if_icmp .ne 7, 3) := by decide +kernel
theorem dX7_leastOf_23 : decode cX7_leastOf 23 = .ok (.iconst 2, 1) := by decide +kernel
theorem dX7_leastOf_24 : decode cX7_leastOf 24 = .ok (.goto 4, 3) := by decide +kernel
theorem dX7_leastOf_27 : decode cX7_leastOf 27 = .ok (.iconst 0, 1) := by decide +kernel
theorem dX7_leastOf_28 : decode cX7_leastOf 28 = .ok (.ireturn, 1) := by decide +kernel
theorem dX7_mostOf_0 : decode cX7_mostOf 0 = .ok (.iload_n 0, 1) := by decide +kernel
theorem dX7_mostOf_1 : decode cX7_mostOf 1 = .ok (.ifCond .ne 8, 3) := by decide +kernel
theorem dX7_mostOf_4 : decode cX7_mostOf 4 = .ok (.bipush 99, 2) := by decide +kernel
theorem dX7_mostOf_6 : decode cX7_mostOf 6 = .ok (.goto 33, 3) := by decide +kernel
theorem dX7_mostOf_9 : decode cX7_mostOf 9 = .ok (.iload_n 0, 1) := by decide +kernel
theorem dX7_mostOf_10 : decode cX7_mostOf 10 = .ok (.iconst 3, 1) := by decide +kernel
theorem dX7_mostOf_11 : decode cX7_mostOf 11 = .ok (.if_icmp .ge 8, 3) := by decide +kernel
theorem dX7_mostOf_14 : decode cX7_mostOf 14 = .ok (.bipush 20, 2) := by decide +kernel
theorem dX7_mostOf_16 : decode cX7_mostOf 16 = .ok (.goto 23, 3) := by decide +kernel
theorem dX7_mostOf_19 : decode cX7_mostOf 19 = .ok (.iload_n 0, 1) := by decide +kernel
theorem dX7_mostOf_20 : decode cX7_mostOf 20 = .ok (.iconst 3, 1) := by decide +kernel
theorem dX7_mostOf_21 : decode cX7_mostOf 21 = .ok (.if_icmp .ne 8, 3) := by decide +kernel
theorem dX7_mostOf_24 : decode cX7_mostOf 24 = .ok (.bipush 9, 2) := by decide +kernel
theorem dX7_mostOf_26 : decode cX7_mostOf 26 = .ok (.goto 13, 3) := by decide +kernel
theorem dX7_mostOf_29 : decode cX7_mostOf 29 = .ok (.iload_n 0, 1) := by decide +kernel
theorem dX7_mostOf_30 : decode cX7_mostOf 30 = .ok (.iconst 4, 1) := by decide +kernel
theorem dX7_mostOf_31 : decode cX7_mostOf 31 = .ok (.if_icmp .ne 7, 3) := by decide +kernel
theorem dX7_mostOf_34 : decode cX7_mostOf 34 = .ok (.iconst 1, 1) := by decide +kernel
theorem dX7_mostOf_35 : decode cX7_mostOf 35 = .ok (.goto 4, 3) := by decide +kernel
theorem dX7_mostOf_38 : decode cX7_mostOf 38 = .ok (.iconst 2, 1) := by decide +kernel
theorem dX7_mostOf_39 : decode cX7_mostOf 39 = .ok (.ireturn, 1) := by decide +kernel
theorem dX7_feed_0 : decode cX7_feed 0 = .ok (.iload_n 1, 1) := by decide +kernel
theorem dX7_feed_1 : decode cX7_feed 1 = .ok (.i2l, 1) := by decide +kernel
theorem dX7_feed_2 : decode cX7_feed 2 = .ok (.lconst 0, 1) := by decide +kernel
theorem dX7_feed_3 : decode cX7_feed 3 = .ok (.ldc2_w 71, 3) := by decide +kernel
theorem dX7_feed_6 : decode cX7_feed 6 = .ok (.invokestatic 73, 3) := by decide +kernel
theorem dX7_feed_9 : decode cX7_feed 9 = .ok (.ifCond .ne 5, 3) := by decide +kernel
theorem dX7_feed_12 : decode cX7_feed 12 = .ok (.iconst (-1), 1) := by decide +kernel
theorem dX7_feed_13 : decode cX7_feed 13 = .ok (.ireturn, 1) := by decide +kernel
theorem dX7_feed_14 : decode cX7_feed 14 = .ok (.aload_n 0, 1) := by decide +kernel
theorem dX7_feed_15 : decode cX7_feed 15 = .ok (.getfield 77, 3) := by decide +kernel
theorem dX7_feed_18 : decode cX7_feed 18 = .ok (.sipush 400, 3) := by decide +kernel
theorem dX7_feed_21 : decode cX7_feed 21 = .ok (.if_icmp .ne 6, 3) := by decide +kernel
theorem dX7_feed_24 : decode cX7_feed 24 = .ok (.bipush (-3), 2) := by decide +kernel
theorem dX7_feed_26 : decode cX7_feed 26 = .ok (.ireturn, 1) := by decide +kernel
theorem dX7_feed_27 : decode cX7_feed 27 = .ok (.aload_n 0, 1) := by decide +kernel
theorem dX7_feed_28 : decode cX7_feed 28 = .ok (.getfield 29, 3) := by decide +kernel
theorem dX7_feed_31 : decode cX7_feed 31 = .ok (.aload_n 0, 1) := by decide +kernel
theorem dX7_feed_32 : decode cX7_feed 32 = .ok (.getfield 77, 3) := by decide +kernel
theorem dX7_feed_35 : decode cX7_feed 35 = .ok (.iload_n 1, 1) := by decide +kernel
theorem dX7_feed_36 : decode cX7_feed 36 = .ok (.iastore, 1) := by decide +kernel
theorem dX7_feed_37 : decode cX7_feed 37 = .ok (.aload_n 0, 1) := by decide +kernel
theorem dX7_feed_38 : decode cX7_feed 38 = .ok (.dup, 1) := by decide +kernel
theorem dX7_feed_39 : decode cX7_feed 39 = .ok (.getfield 77, 3) := by decide +kernel
theorem dX7_feed_42 : decode cX7_feed 42 = .ok (.iconst 1, 1) := by decide +kernel
theorem dX7_feed_43 : decode cX7_feed 43 = .ok (.iadd, 1) := by decide +kernel
theorem dX7_feed_44 : decode cX7_feed 44 = .ok (.putfield 77, 3) := by decide +kernel
theorem dX7_feed_47 : decode cX7_feed 47 = .ok (.aload_n 0, 1) := by decide +kernel
theorem dX7_feed_48 : decode cX7_feed 48 = .ok (.getfield 77, 3) := by decide +kernel
theorem dX7_feed_51 : decode cX7_feed 51 = .ok (.ireturn, 1) := by decide +kernel
theorem dX7_end_0 : decode cX7_end 0 = .ok (.iload_n 1, 1) := by decide +kernel
theorem dX7_end_1 : decode cX7_end 1 = .ok (.i2l, 1) := by decide +kernel
theorem dX7_end_2 : decode cX7_end 2 = .ok (.lconst 0, 1) := by decide +kernel
theorem dX7_end_3 : decode cX7_end 3 = .ok (.aload_n 0, 1) := by decide +kernel
theorem dX7_end_4 : decode cX7_end 4 = .ok (.getfield 77, 3) := by decide +kernel
theorem dX7_end_7 : decode cX7_end 7 = .ok (.i2l, 1) := by decide +kernel
theorem dX7_end_8 : decode cX7_end 8 = .ok (.invokestatic 73, 3) := by decide +kernel
theorem dX7_end_11 : decode cX7_end 11 = .ok (.ifCond .ne 5, 3) := by decide +kernel
theorem dX7_end_14 : decode cX7_end 14 = .ok (.iconst (-1), 1) := by decide +kernel
theorem dX7_end_15 : decode cX7_end 15 = .ok (.ireturn, 1) := by decide +kernel
theorem dX7_end_16 : decode cX7_end 16 = .ok (.aload_n 0, 1) := by decide +kernel
theorem dX7_end_17 : decode cX7_end 17 = .ok (.getfield 77, 3) := by decide +kernel
theorem dX7_end_20 : decode cX7_end 20 = .ok (.istore_n 2, 1) := by decide +kernel
theorem dX7_end_21 : decode cX7_end 21 = .ok (.aload_n 0, 1) := by decide +kernel
theorem dX7_end_22 : decode cX7_end 22 = .ok (.iload_n 1, 1) := by decide +kernel
theorem dX7_end_23 : decode cX7_end 23 = .ok (.putfield 77, 3) := by decide +kernel
theorem dX7_end_26 : decode cX7_end 26 = .ok (.iload_n 2, 1) := by decide +kernel
theorem dX7_end_27 : decode cX7_end 27 = .ok (.ireturn, 1) := by decide +kernel
theorem dX7_byteAt_0 : decode cX7_byteAt 0 = .ok (.iload_n 1, 1) := by decide +kernel
theorem dX7_byteAt_1 : decode cX7_byteAt 1 = .ok (.aload_n 0, 1) := by decide +kernel
theorem dX7_byteAt_2 : decode cX7_byteAt 2 = .ok (.getfield 77, 3) := by decide +kernel
theorem dX7_byteAt_5 : decode cX7_byteAt 5 = .ok (.if_icmp .ge 12, 3) := by decide +kernel
theorem dX7_byteAt_8 : decode cX7_byteAt 8 = .ok (.aload_n 0, 1) := by decide +kernel
theorem dX7_byteAt_9 : decode cX7_byteAt 9 = .ok (.getfield 29, 3) := by decide +kernel
theorem dX7_byteAt_12 : decode cX7_byteAt 12 = .ok (.iload_n 1, 1) := by decide +kernel
theorem dX7_byteAt_13 : decode cX7_byteAt 13 = .ok (.iaload, 1) := by decide +kernel
theorem dX7_byteAt_14 : decode cX7_byteAt 14 = .ok (.goto 5, 3) := by decide +kernel
theorem dX7_byteAt_17 : decode cX7_byteAt 17 = .ok (.bipush (-4), 2) := by decide +kernel
theorem dX7_byteAt_19 : decode cX7_byteAt 19 = .ok (.ireturn, 1) := by decide +kernel
theorem dX7_must_0 : decode cX7_must 0 = .ok (.iload_n 1, 1) := by decide +kernel
theorem dX7_must_1 : decode cX7_must 1 = .ok (.ifCond .ne 23, 3) := by decide +kernel
theorem dX7_must_4 : decode cX7_must 4 = .ok (.aload_n 0, 1) := by decide +kernel
theorem dX7_must_5 : decode cX7_must 5 = .ok (.getfield 81, 3) := by decide +kernel
theorem dX7_must_8 : decode cX7_must 8 = .ok (.ifCond .ne 16, 3) := by decide +kernel
theorem dX7_must_11 : decode cX7_must 11 = .ok (.aload_n 0, 1) := by decide +kernel
theorem dX7_must_12 : decode cX7_must 12 = .ok (.iload_n 2, 1) := by decide +kernel
theorem dX7_must_13 : decode cX7_must 13 = .ok (.putfield 81, 3) := by decide +kernel
theorem dX7_must_16 : decode cX7_must 16 = .ok (.aload_n 0, 1) := by decide +kernel
theorem dX7_must_17 : decode cX7_must 17 = .ok (.aload_n 0, 1) := by decide +kernel
theorem dX7_must_18 : decode cX7_must 18 = .ok (.getfield 84, 3) := by decide +kernel
theorem dX7_must_21 : decode cX7_must 21 = .ok (.putfield 87, 3) := by decide +kernel
theorem dX7_must_24 : decode cX7_must 24 = .ok (.return_, 1) := by decide +kernel
theorem dX7_reads_0 : decode cX7_reads 0 = .ok (.aload_n 0, 1) := by decide +kernel
theorem dX7_reads_1 : decode cX7_reads 1 = .ok (.getfield 81, 3) := by decide +kernel
theorem dX7_reads_4 : decode cX7_reads 4 = .ok (.ifCond .le 4, 3) := by decide +kernel
theorem dX7_reads_7 : decode cX7_reads 7 = .ok (.return_, 1) := by decide +kernel
theorem dX7_reads_8 : decode cX7_reads 8 = .ok (.aload_n 0, 1) := by decide +kernel
theorem dX7_reads_9 : decode cX7_reads 9 = .ok (.aload_n 0, 1) := by decide +kernel
theorem dX7_reads_10 : decode cX7_reads 10 = .ok (.getfield 90, 3) := by decide +kernel
theorem dX7_reads_13 : decode cX7_reads 13 = .ok (.invokevirtual 93, 3) := by decide +kernel
theorem dX7_reads_16 : decode cX7_reads 16 = .ok (.bipush 32, 2) := by decide +kernel
theorem dX7_reads_18 : decode cX7_reads 18 = .ok (.if_icmp .ne 16, 3) := by decide +kernel
theorem dX7_reads_21 : decode cX7_reads 21 = .ok (.aload_n 0, 1) := by decide +kernel
theorem dX7_reads_22 : decode cX7_reads 22 = .ok (.dup, 1) := by decide +kernel
theorem dX7_reads_23 : decode cX7_reads 23 = .ok (.getfield 90, 3) := by decide +kernel
theorem dX7_reads_26 : decode cX7_reads 26 = .ok (.iconst 1, 1) := by decide +kernel
theorem dX7_reads_27 : decode cX7_reads 27 = .ok (.iadd, 1) := by decide +kernel
theorem dX7_reads_28 : decode cX7_reads 28 = .ok (.putfield 90, 3) := by decide +kernel
theorem dX7_reads_31 : decode cX7_reads 31 = .ok (.goto (-23), 3) := by decide +kernel
theorem dX7_reads_34 : decode cX7_reads 34 = .ok (.aload_n 0, 1) := by decide +kernel
theorem dX7_reads_35 : decode cX7_reads 35 = .ok (.aload_n 0, 1) := by decide +kernel
theorem dX7_reads_36 : decode cX7_reads 36 = .ok (.getfield 90, 3) := by decide +kernel
theorem dX7_reads_39 : decode cX7_reads 39 = .ok (.putfield 84, 3) := by decide +kernel
theorem dX7_reads_42 : decode cX7_reads 42 = .ok (.aload_n 0, 1) := by decide +kernel
theorem dX7_reads_43 : decode cX7_reads 43 = .ok (.aload_n 0, 1) := by decide +kernel
theorem dX7_reads_44 : decode cX7_reads 44 = .ok (.getfield 90, 3) := by decide +kernel
theorem dX7_reads_47 : decode cX7_reads 47 = .ok (.invokevirtual 93, 3) := by decide +kernel
theorem dX7_reads_50 : decode cX7_reads 50 = .ok (.istore_n 1, 1) := by decide +kernel
theorem dX7_reads_51 : decode cX7_reads 51 = .ok (.aload_n 0, 1) := by decide +kernel
theorem dX7_reads_52 : decode cX7_reads 52 = .ok (.iload_n 1, 1) := by decide +kernel
theorem dX7_reads_53 : decode cX7_reads 53 = .ok (.putfield 97, 3) := by decide +kernel
theorem dX7_reads_56 : decode cX7_reads 56 = .ok (.iload_n 1, 1) := by decide +kernel
theorem dX7_reads_57 : decode cX7_reads 57 = .ok (.bipush (-4), 2) := by decide +kernel
theorem dX7_reads_59 : decode cX7_reads 59 = .ok (.if_icmp .ne 11, 3) := by decide +kernel
theorem dX7_reads_62 : decode cX7_reads 62 = .ok (.aload_n 0, 1) := by decide +kernel
theorem dX7_reads_63 : decode cX7_reads 63 = .ok (.iconst 0, 1) := by decide +kernel
theorem dX7_reads_64 : decode cX7_reads 64 = .ok (.putfield 100, 3) := by decide +kernel
theorem dX7_reads_67 : decode cX7_reads 67 = .ok (.goto 220, 3) := by decide +kernel
theorem dX7_reads_70 : decode cX7_reads 70 = .ok (.iload_n 1, 1) := by decide +kernel
theorem dX7_reads_71 : decode cX7_reads 71 = .ok (.i2l, 1) := by decide +kernel
theorem dX7_reads_72 : decode cX7_reads 72 = .ok (.ldc2_w 103, 3) := by decide +kernel
theorem dX7_reads_75 : decode cX7_reads 75 = .ok (.ldc2_w 105, 3) := by decide +kernel
theorem dX7_reads_78 : decode cX7_reads 78 = .ok (.invokestatic 73, 3) := by decide +kernel
theorem dX7_reads_81 : decode cX7_reads 81 = .ok (.ifCond .eq 42, 3) := by decide +kernel
theorem dX7_reads_84 : decode cX7_reads 84 = .ok (.aload_n 0, 1) := by decide +kernel
theorem dX7_reads_85 : decode cX7_reads 85 = .ok (.iconst 1, 1) := by decide +kernel
theorem dX7_reads_86 : decode cX7_reads 86 = .ok (.putfield 100, 3) := by decide +kernel
theorem dX7_reads_89 : decode cX7_reads 89 = .ok (.aload_n 0, 1) := by decide +kernel
theorem dX7_reads_90 : decode cX7_reads 90 = .ok (.aload_n 0, 1) := by decide +kernel
theorem dX7_reads_91 : decode cX7_reads 91 = .ok (.getfield 90, 3) := by decide +kernel
theorem dX7_reads_94 : decode cX7_reads 94 = .ok (.invokevirtual 93, 3) := by decide +kernel
theorem dX7_reads_97 : decode cX7_reads 97 = .ok (.i2l, 1) := by decide +kernel
theorem dX7_reads_98 : decode cX7_reads 98 = .ok (.ldc2_w 103, 3) := by decide +kernel
theorem dX7_reads_101 : decode cX7_reads 101 = .ok (.ldc2_w 105, 3) := by decide +kernel
theorem dX7_reads_104 : decode cX7_reads 104 = .ok (.invokestatic 73, 3) := by decide +kernel
theorem dX7_reads_107 : decode cX7_reads 107 = .ok (.ifCond .eq 180, 3) := by decide +kernel
theorem dX7_reads_110 : decode cX7_reads 110 = .ok (.aload_n 0, 1) := by decide +kernel
theorem dX7_reads_111 : decode cX7_reads 111 = .ok (.dup, 1) := by decide +kernel
theorem dX7_reads_112 : decode cX7_reads 112 = .ok (.getfield 90, 3) := by decide +kernel
theorem dX7_reads_115 : decode cX7_reads 115 = .ok (.iconst 1, 1) := by decide +kernel
theorem dX7_reads_116 : decode cX7_reads 116 = .ok (.iadd, 1) := by decide +kernel
theorem dX7_reads_117 : decode cX7_reads 117 = .ok (.putfield 90, 3) := by decide +kernel
theorem dX7_reads_120 : decode cX7_reads 120 = .ok (.goto (-31), 3) := by decide +kernel
theorem dX7_reads_123 : decode cX7_reads 123 = .ok (.iload_n 1, 1) := by decide +kernel
theorem dX7_reads_124 : decode cX7_reads 124 = .ok (.i2l, 1) := by decide +kernel
theorem dX7_reads_125 : decode cX7_reads 125 = .ok (.ldc2_w 107, 3) := by decide +kernel
theorem dX7_reads_128 : decode cX7_reads 128 = .ok (.ldc2_w 109, 3) := by decide +kernel
theorem dX7_reads_131 : decode cX7_reads 131 = .ok (.invokestatic 73, 3) := by decide +kernel
theorem dX7_reads_134 : decode cX7_reads 134 = .ok (.ifCond .eq 116, 3) := by decide +kernel
theorem dX7_reads_137 : decode cX7_reads 137 = .ok (.aload_n 0, 1) := by decide +kernel
theorem dX7_reads_138 : decode cX7_reads 138 = .ok (.iconst 2, 1) := by decide +kernel
theorem dX7_reads_139 : decode cX7_reads 139 = .ok (.putfield 100, 3) := by decide +kernel
theorem dX7_reads_142 : decode cX7_reads 142 = .ok (.aload_n 0, 1) := by decide +kernel
theorem dX7_reads_143 : decode cX7_reads 143 = .ok (.iconst 0, 1) := by decide +kernel
theorem dX7_reads_144 : decode cX7_reads 144 = .ok (.putfield 97, 3) := by decide +kernel
theorem dX7_reads_147 : decode cX7_reads 147 = .ok (.aload_n 0, 1) := by decide +kernel
theorem dX7_reads_148 : decode cX7_reads 148 = .ok (.aload_n 0, 1) := by decide +kernel
theorem dX7_reads_149 : decode cX7_reads 149 = .ok (.getfield 90, 3) := by decide +kernel
theorem dX7_reads_152 : decode cX7_reads 152 = .ok (.invokevirtual 93, 3) := by decide +kernel
theorem dX7_reads_155 : decode cX7_reads 155 = .ok (.i2l, 1) := by decide +kernel
theorem dX7_reads_156 : decode cX7_reads 156 = .ok (.ldc2_w 107, 3) := by decide +kernel
theorem dX7_reads_159 : decode cX7_reads 159 = .ok (.ldc2_w 109, 3) := by decide +kernel
theorem dX7_reads_162 : decode cX7_reads 162 = .ok (.invokestatic 73, 3) := by decide +kernel
theorem dX7_reads_165 : decode cX7_reads 165 = .ok (.ifCond .eq 59, 3) := by decide +kernel
theorem dX7_reads_168 : decode cX7_reads 168 = .ok (.aload_n 0, 1) := by decide +kernel
theorem dX7_reads_169 : decode cX7_reads 169 = .ok (.aload_n 0, 1) := by decide +kernel
theorem dX7_reads_170 : decode cX7_reads 170 = .ok (.getfield 90, 3) := by decide +kernel
theorem dX7_reads_173 : decode cX7_reads 173 = .ok (.aload_n 0, 1) := by decide +kernel
theorem dX7_reads_174 : decode cX7_reads 174 = .ok (.getfield 84, 3) := by decide +kernel
theorem dX7_reads_177 : decode cX7_reads 177 = .ok (.isub, 1) := by decide +kernel
theorem dX7_reads_178 : decode cX7_reads 178 = .ok (.iconst 2, 1) := by decide +kernel
theorem dX7_reads_179 : decode cX7_reads 179 = .ok (.if_icmp .ge 25, 3) := by decide +kernel
theorem dX7_reads_182 : decode cX7_reads 182 = .ok (.bipush 10, 2) := by decide +kernel
theorem dX7_reads_184 : decode cX7_reads 184 = .ok (.aload_n 0, 1) := by decide +kernel
theorem dX7_reads_185 : decode cX7_reads 185 = .ok (.getfield 97, 3) := by decide +kernel
theorem dX7_reads_188 : decode cX7_reads 188 = .ok (.imul, 1) := by decide +kernel
theorem dX7_reads_189 : decode cX7_reads 189 = .ok (.aload_n 0, 1) := by decide +kernel
theorem dX7_reads_190 : decode cX7_reads 190 = .ok (.aload_n 0, 1) := by decide +kernel
theorem dX7_reads_191 : decode cX7_reads 191 = .ok (.getfield 90, 3) := by decide +kernel
theorem dX7_reads_194 : decode cX7_reads 194 = .ok (.invokevirtual 93, 3) := by decide +kernel
theorem dX7_reads_197 : decode cX7_reads 197 = .ok (.iadd, 1) := by decide +kernel
theorem dX7_reads_198 : decode cX7_reads 198 = .ok (.bipush 48, 2) := by decide +kernel
theorem dX7_reads_200 : decode cX7_reads 200 = .ok (.isub, 1) := by decide +kernel
theorem dX7_reads_201 : decode cX7_reads 201 = .ok (.goto 7, 3) := by decide +kernel
theorem dX7_reads_204 : decode cX7_reads 204 = .ok (.aload_n 0, 1) := by decide +kernel
theorem dX7_reads_205 : decode cX7_reads 205 = .ok (.getfield 97, 3) := by decide +kernel
theorem dX7_reads_208 : decode cX7_reads 208 = .ok (.putfield 97, 3) := by decide +kernel
theorem dX7_reads_211 : decode cX7_reads 211 = .ok (.aload_n 0, 1) := by decide +kernel
theorem dX7_reads_212 : decode cX7_reads 212 = .ok (.dup, 1) := by decide +kernel
theorem dX7_reads_213 : decode cX7_reads 213 = .ok (.getfield 90, 3) := by decide +kernel
theorem dX7_reads_216 : decode cX7_reads 216 = .ok (.iconst 1, 1) := by decide +kernel
theorem dX7_reads_217 : decode cX7_reads 217 = .ok (.iadd, 1) := by decide +kernel
theorem dX7_reads_218 : decode cX7_reads 218 = .ok (.putfield 90, 3) := by decide +kernel
theorem dX7_reads_221 : decode cX7_reads 221 = .ok (.goto (-74), 3) := by decide +kernel
theorem dX7_reads_224 : decode cX7_reads 224 = .ok (.aload_n 0, 1) := by decide +kernel
theorem dX7_reads_225 : decode cX7_reads 225 = .ok (.aload_n 0, 1) := by decide +kernel
theorem dX7_reads_226 : decode cX7_reads 226 = .ok (.getfield 90, 3) := by decide +kernel
theorem dX7_reads_229 : decode cX7_reads 229 = .ok (.aload_n 0, 1) := by decide +kernel
theorem dX7_reads_230 : decode cX7_reads 230 = .ok (.getfield 84, 3) := by decide +kernel
theorem dX7_reads_233 : decode cX7_reads 233 = .ok (.isub, 1) := by decide +kernel
theorem dX7_reads_234 : decode cX7_reads 234 = .ok (.iconst 2, 1) := by decide +kernel
theorem dX7_reads_235 : decode cX7_reads 235 = .ok (.if_icmp .gt 7, 3) := by decide +kernel
theorem dX7_reads_238 : decode cX7_reads 238 = .ok (.iconst 1, 1) := by decide +kernel
theorem dX7_reads_239 : decode cX7_reads 239 = .ok (.goto 4, 3) := by decide +kernel
theorem dX7_reads_242 : decode cX7_reads 242 = .ok (.iconst 0, 1) := by decide +kernel
theorem dX7_reads_243 : decode cX7_reads 243 = .ok (.iconst 1, 1) := by decide +kernel
theorem dX7_reads_244 : decode cX7_reads 244 = .ok (.invokevirtual 111, 3) := by decide +kernel
theorem dX7_reads_247 : decode cX7_reads 247 = .ok (.goto 40, 3) := by decide +kernel
theorem dX7_reads_250 : decode cX7_reads 250 = .ok (.aload_n 0, 1) := by decide +kernel
theorem dX7_reads_251 : decode cX7_reads 251 = .ok (.iconst 3, 1) := by decide +kernel
theorem dX7_reads_252 : decode cX7_reads 252 = .ok (.putfield 100, 3) := by decide +kernel
theorem dX7_reads_255 : decode cX7_reads 255 = .ok (.aload_n 0, 1) := by decide +kernel
theorem dX7_reads_256 : decode cX7_reads 256 = .ok (.iload_n 1, 1) := by decide +kernel
theorem dX7_reads_257 : decode cX7_reads 257 = .ok (.bipush 58, 2) := by decide +kernel
theorem dX7_reads_259 : decode cX7_reads 259 = .ok (.if_icmp .eq 9, 3) := by decide +kernel
theorem dX7_reads_262 : decode cX7_reads 262 = .ok (.iload_n 1, 1) := by decide +kernel
theorem dX7_reads_263 : decode cX7_reads 263 = .ok (.bipush 59, 2) := by decide +kernel
theorem dX7_reads_265 : decode cX7_reads 265 = .ok (.if_icmp .ne 7, 3) := by decide +kernel
theorem dX7_reads_268 : decode cX7_reads 268 = .ok (.iconst 1, 1) := by decide +kernel
theorem dX7_reads_269 : decode cX7_reads 269 = .ok (.goto 4, 3) := by decide +kernel
theorem dX7_reads_272 : decode cX7_reads 272 = .ok (.iconst 0, 1) := by decide +kernel
theorem dX7_reads_273 : decode cX7_reads 273 = .ok (.iconst 1, 1) := by decide +kernel
theorem dX7_reads_274 : decode cX7_reads 274 = .ok (.invokevirtual 111, 3) := by decide +kernel
theorem dX7_reads_277 : decode cX7_reads 277 = .ok (.aload_n 0, 1) := by decide +kernel
theorem dX7_reads_278 : decode cX7_reads 278 = .ok (.dup, 1) := by decide +kernel
theorem dX7_reads_279 : decode cX7_reads 279 = .ok (.getfield 90, 3) := by decide +kernel
theorem dX7_reads_282 : decode cX7_reads 282 = .ok (.iconst 1, 1) := by decide +kernel
theorem dX7_reads_283 : decode cX7_reads 283 = .ok (.iadd, 1) := by decide +kernel
theorem dX7_reads_284 : decode cX7_reads 284 = .ok (.putfield 90, 3) := by decide +kernel
theorem dX7_reads_287 : decode cX7_reads 287 = .ok (.return_, 1) := by decide +kernel
theorem dX7_isSign_0 : decode cX7_isSign 0 = .ok (.aload_n 0, 1) := by decide +kernel
theorem dX7_isSign_1 : decode cX7_isSign 1 = .ok (.getfield 100, 3) := by decide +kernel
theorem dX7_isSign_4 : decode cX7_isSign 4 = .ok (.iconst 3, 1) := by decide +kernel
theorem dX7_isSign_5 : decode cX7_isSign 5 = .ok (.if_icmp .ne 15, 3) := by decide +kernel
theorem dX7_isSign_8 : decode cX7_isSign 8 = .ok (.aload_n 0, 1) := by decide +kernel
theorem dX7_isSign_9 : decode cX7_isSign 9 = .ok (.getfield 97, 3) := by decide +kernel
theorem dX7_isSign_12 : decode cX7_isSign 12 = .ok (.iload_n 1, 1) := by decide +kernel
theorem dX7_isSign_13 : decode cX7_isSign 13 = .ok (.if_icmp .ne 7, 3) := by decide +kernel
theorem dX7_isSign_16 : decode cX7_isSign 16 = .ok (.iconst 1, 1) := by decide +kernel
theorem dX7_isSign_17 : decode cX7_isSign 17 = .ok (.goto 4, 3) := by decide +kernel
theorem dX7_isSign_20 : decode cX7_isSign 20 = .ok (.iconst 0, 1) := by decide +kernel
theorem dX7_isSign_21 : decode cX7_isSign 21 = .ok (.ireturn, 1) := by decide +kernel
theorem dX7_nameNow_0 : decode cX7_nameNow 0 = .ok (.iload_n 1, 1) := by decide +kernel
theorem dX7_nameNow_1 : decode cX7_nameNow 1 = .ok (.istore_n 3, 1) := by decide +kernel
theorem dX7_nameNow_2 : decode cX7_nameNow 2 = .ok (.iload_n 3, 1) := by decide +kernel
theorem dX7_nameNow_3 : decode cX7_nameNow 3 = .ok (.iload_n 2, 1) := by decide +kernel
theorem dX7_nameNow_4 : decode cX7_nameNow 4 = .ok (.if_icmp .ge 125, 3) := by decide +kernel
theorem dX7_nameNow_7 : decode cX7_nameNow 7 = .ok (.aload_n 0, 1) := by decide +kernel
theorem dX7_nameNow_8 : decode cX7_nameNow 8 = .ok (.getfield 100, 3) := by decide +kernel
theorem dX7_nameNow_11 : decode cX7_nameNow 11 = .ok (.iconst 1, 1) := by decide +kernel
theorem dX7_nameNow_12 : decode cX7_nameNow 12 = .ok (.if_icmp .ne 34, 3) := by decide +kernel
theorem dX7_nameNow_15 : decode cX7_nameNow 15 = .ok (.aload_n 0, 1) := by decide +kernel
theorem dX7_nameNow_16 : decode cX7_nameNow 16 = .ok (.getfield 90, 3) := by decide +kernel
theorem dX7_nameNow_19 : decode cX7_nameNow 19 = .ok (.aload_n 0, 1) := by decide +kernel
theorem dX7_nameNow_20 : decode cX7_nameNow 20 = .ok (.getfield 84, 3) := by decide +kernel
theorem dX7_nameNow_23 : decode cX7_nameNow 23 = .ok (.isub, 1) := by decide +kernel
theorem dX7_nameNow_24 : decode cX7_nameNow 24 = .ok (.aload_n 0, 1) := by decide +kernel
theorem dX7_nameNow_25 : decode cX7_nameNow 25 = .ok (.getfield 32, 3) := by decide +kernel
theorem dX7_nameNow_28 : decode cX7_nameNow 28 = .ok (.iload_n 3, 1) := by decide +kernel
theorem dX7_nameNow_29 : decode cX7_nameNow 29 = .ok (.iconst 1, 1) := by decide +kernel
theorem dX7_nameNow_30 : decode cX7_nameNow 30 = .ok (.iadd, 1) := by decide +kernel
theorem dX7_nameNow_31 : decode cX7_nameNow 31 = .ok (.iaload, 1) := by decide +kernel
theorem dX7_nameNow_32 : decode cX7_nameNow 32 = .ok (.aload_n 0, 1) := by decide +kernel
theorem dX7_nameNow_33 : decode cX7_nameNow 33 = .ok (.getfield 32, 3) := by decide +kernel
theorem dX7_nameNow_36 : decode cX7_nameNow 36 = .ok (.iload_n 3, 1) := by decide +kernel
theorem dX7_nameNow_37 : decode cX7_nameNow 37 = .ok (.iaload, 1) := by decide +kernel
theorem dX7_nameNow_38 : decode cX7_nameNow 38 = .ok (.isub, 1) := by decide +kernel
theorem dX7_nameNow_39 : decode cX7_nameNow 39 = .ok (.if_icmp .ne 7, 3) := by decide +kernel
theorem dX7_nameNow_42 : decode cX7_nameNow 42 = .ok (.iconst 1, 1) := by decide +kernel
theorem dX7_nameNow_43 : decode cX7_nameNow 43 = .ok (.goto 4, 3) := by decide +kernel
theorem dX7_nameNow_46 : decode cX7_nameNow 46 = .ok (.iconst 0, 1) := by decide +kernel
theorem dX7_nameNow_47 : decode cX7_nameNow 47 = .ok (.istore 4, 2) := by decide +kernel
theorem dX7_nameNow_49 : decode cX7_nameNow 49 = .ok (.aload_n 0, 1) := by decide +kernel
theorem dX7_nameNow_50 : decode cX7_nameNow 50 = .ok (.getfield 32, 3) := by decide +kernel
theorem dX7_nameNow_53 : decode cX7_nameNow 53 = .ok (.iload_n 3, 1) := by decide +kernel
theorem dX7_nameNow_54 : decode cX7_nameNow 54 = .ok (.iaload, 1) := by decide +kernel
theorem dX7_nameNow_55 : decode cX7_nameNow 55 = .ok (.istore 5, 2) := by decide +kernel
theorem dX7_nameNow_57 : decode cX7_nameNow 57 = .ok (.iload 5, 2) := by decide +kernel
theorem dX7_nameNow_59 : decode cX7_nameNow 59 = .ok (.aload_n 0, 1) := by decide +kernel
theorem dX7_nameNow_60 : decode cX7_nameNow 60 = .ok (.getfield 32, 3) := by decide +kernel
theorem dX7_nameNow_63 : decode cX7_nameNow 63 = .ok (.iload_n 3, 1) := by decide +kernel
theorem dX7_nameNow_64 : decode cX7_nameNow 64 = .ok (.iconst 1, 1) := by decide +kernel
theorem dX7_nameNow_65 : decode cX7_nameNow 65 = .ok (.iadd, 1) := by decide +kernel
theorem dX7_nameNow_66 : decode cX7_nameNow 66 = .ok (.iaload, 1) := by decide +kernel
theorem dX7_nameNow_67 : decode cX7_nameNow 67 = .ok (.if_icmp .ge 49, 3) := by decide +kernel
theorem dX7_nameNow_70 : decode cX7_nameNow 70 = .ok (.iload 4, 2) := by decide +kernel
theorem dX7_nameNow_72 : decode cX7_nameNow 72 = .ok (.ifCond .eq 44, 3) := by decide +kernel
theorem dX7_nameNow_75 : decode cX7_nameNow 75 = .ok (.aload_n 0, 1) := by decide +kernel
theorem dX7_nameNow_76 : decode cX7_nameNow 76 = .ok (.aload_n 0, 1) := by decide +kernel
theorem dX7_nameNow_77 : decode cX7_nameNow 77 = .ok (.getfield 84, 3) := by decide +kernel
theorem dX7_nameNow_80 : decode cX7_nameNow 80 = .ok (.iload 5, 2) := by decide +kernel
theorem dX7_nameNow_82 : decode cX7_nameNow 82 = .ok (.iadd, 1) := by decide +kernel
theorem dX7_nameNow_83 : decode cX7_nameNow 83 = .ok (.aload_n 0, 1) := by decide +kernel
theorem dX7_nameNow_84 : decode cX7_nameNow 84 = .ok (.getfield 32, 3) := by decide +kernel
theorem dX7_nameNow_87 : decode cX7_nameNow 87 = .ok (.iload_n 3, 1) := by decide +kernel
theorem dX7_nameNow_88 : decode cX7_nameNow 88 = .ok (.iaload, 1) := by decide +kernel
theorem dX7_nameNow_89 : decode cX7_nameNow 89 = .ok (.isub, 1) := by decide +kernel
theorem dX7_nameNow_90 : decode cX7_nameNow 90 = .ok (.invokevirtual 93, 3) := by decide +kernel
theorem dX7_nameNow_93 : decode cX7_nameNow 93 = .ok (.aload_n 0, 1) := by decide +kernel
theorem dX7_nameNow_94 : decode cX7_nameNow 94 = .ok (.getfield 35, 3) := by decide +kernel
theorem dX7_nameNow_97 : decode cX7_nameNow 97 = .ok (.iload 5, 2) := by decide +kernel
theorem dX7_nameNow_99 : decode cX7_nameNow 99 = .ok (.iaload, 1) := by decide +kernel
theorem dX7_nameNow_100 : decode cX7_nameNow 100 = .ok (.if_icmp .ne 7, 3) := by decide +kernel
theorem dX7_nameNow_103 : decode cX7_nameNow 103 = .ok (.iconst 1, 1) := by decide +kernel
theorem dX7_nameNow_104 : decode cX7_nameNow 104 = .ok (.goto 4, 3) := by decide +kernel
theorem dX7_nameNow_107 : decode cX7_nameNow 107 = .ok (.iconst 0, 1) := by decide +kernel
theorem dX7_nameNow_108 : decode cX7_nameNow 108 = .ok (.istore 4, 2) := by decide +kernel
theorem dX7_nameNow_110 : decode cX7_nameNow 110 = .ok (.iinc 5 1, 3) := by decide +kernel
theorem dX7_nameNow_113 : decode cX7_nameNow 113 = .ok (.goto (-56), 3) := by decide +kernel
theorem dX7_nameNow_116 : decode cX7_nameNow 116 = .ok (.iload 4, 2) := by decide +kernel
theorem dX7_nameNow_118 : decode cX7_nameNow 118 = .ok (.ifCond .eq 5, 3) := by decide +kernel
theorem dX7_nameNow_121 : decode cX7_nameNow 121 = .ok (.iload_n 3, 1) := by decide +kernel
theorem dX7_nameNow_122 : decode cX7_nameNow 122 = .ok (.ireturn, 1) := by decide +kernel
theorem dX7_nameNow_123 : decode cX7_nameNow 123 = .ok (.iinc 3 1, 3) := by decide +kernel
theorem dX7_nameNow_126 : decode cX7_nameNow 126 = .ok (.goto (-124), 3) := by decide +kernel
theorem dX7_nameNow_129 : decode cX7_nameNow 129 = .ok (.bipush (-4), 2) := by decide +kernel
theorem dX7_nameNow_131 : decode cX7_nameNow 131 = .ok (.ireturn, 1) := by decide +kernel
theorem dX7_number_0 : decode cX7_number 0 = .ok (.aload_n 0, 1) := by decide +kernel
theorem dX7_number_1 : decode cX7_number 1 = .ok (.aload_n 0, 1) := by decide +kernel
theorem dX7_number_2 : decode cX7_number 2 = .ok (.getfield 100, 3) := by decide +kernel
theorem dX7_number_5 : decode cX7_number 5 = .ok (.iconst 2, 1) := by decide +kernel
theorem dX7_number_6 : decode cX7_number 6 = .ok (.if_icmp .ne 7, 3) := by decide +kernel
theorem dX7_number_9 : decode cX7_number 9 = .ok (.iconst 1, 1) := by decide +kernel
theorem dX7_number_10 : decode cX7_number 10 = .ok (.goto 4, 3) := by decide +kernel
theorem dX7_number_13 : decode cX7_number 13 = .ok (.iconst 0, 1) := by decide +kernel
theorem dX7_number_14 : decode cX7_number 14 = .ok (.iconst 2, 1) := by decide +kernel
theorem dX7_number_15 : decode cX7_number 15 = .ok (.invokevirtual 111, 3) := by decide +kernel
theorem dX7_number_18 : decode cX7_number 18 = .ok (.aload_n 0, 1) := by decide +kernel
theorem dX7_number_19 : decode cX7_number 19 = .ok (.aload_n 0, 1) := by decide +kernel
theorem dX7_number_20 : decode cX7_number 20 = .ok (.getfield 81, 3) := by decide +kernel
theorem dX7_number_23 : decode cX7_number 23 = .ok (.ifCond .gt 18, 3) := by decide +kernel
theorem dX7_number_26 : decode cX7_number 26 = .ok (.aload_n 0, 1) := by decide +kernel
theorem dX7_number_27 : decode cX7_number 27 = .ok (.getfield 97, 3) := by decide +kernel
theorem dX7_number_30 : decode cX7_number 30 = .ok (.i2l, 1) := by decide +kernel
theorem dX7_number_31 : decode cX7_number 31 = .ok (.iload_n 1, 1) := by decide +kernel
theorem dX7_number_32 : decode cX7_number 32 = .ok (.i2l, 1) := by decide +kernel
theorem dX7_number_33 : decode cX7_number 33 = .ok (.iload_n 2, 1) := by decide +kernel
theorem dX7_number_34 : decode cX7_number 34 = .ok (.i2l, 1) := by decide +kernel
theorem dX7_number_35 : decode cX7_number 35 = .ok (.invokestatic 73, 3) := by decide +kernel
theorem dX7_number_38 : decode cX7_number 38 = .ok (.ifCond .eq 7, 3) := by decide +kernel
theorem dX7_number_41 : decode cX7_number 41 = .ok (.iconst 1, 1) := by decide +kernel
theorem dX7_number_42 : decode cX7_number 42 = .ok (.goto 4, 3) := by decide +kernel
theorem dX7_number_45 : decode cX7_number 45 = .ok (.iconst 0, 1) := by decide +kernel
theorem dX7_number_46 : decode cX7_number 46 = .ok (.iconst 3, 1) := by decide +kernel
theorem dX7_number_47 : decode cX7_number 47 = .ok (.invokevirtual 111, 3) := by decide +kernel
theorem dX7_number_50 : decode cX7_number 50 = .ok (.aload_n 0, 1) := by decide +kernel
theorem dX7_number_51 : decode cX7_number 51 = .ok (.getfield 81, 3) := by decide +kernel
theorem dX7_number_54 : decode cX7_number 54 = .ok (.ifCond .le 7, 3) := by decide +kernel
theorem dX7_number_57 : decode cX7_number 57 = .ok (.iconst 0, 1) := by decide +kernel
theorem dX7_number_58 : decode cX7_number 58 = .ok (.goto 7, 3) := by decide +kernel
theorem dX7_number_61 : decode cX7_number 61 = .ok (.aload_n 0, 1) := by decide +kernel
theorem dX7_number_62 : decode cX7_number 62 = .ok (.getfield 97, 3) := by decide +kernel
theorem dX7_number_65 : decode cX7_number 65 = .ok (.istore_n 3, 1) := by decide +kernel
theorem dX7_number_66 : decode cX7_number 66 = .ok (.aload_n 0, 1) := by decide +kernel
theorem dX7_number_67 : decode cX7_number 67 = .ok (.invokevirtual 115, 3) := by decide +kernel
theorem dX7_number_70 : decode cX7_number 70 = .ok (.iload_n 3, 1) := by decide +kernel
theorem dX7_number_71 : decode cX7_number 71 = .ok (.ireturn, 1) := by decide +kernel
theorem dX7_readsSetting_0 : decode cX7_readsSetting 0 = .ok (.aload_n 0, 1) := by decide +kernel
theorem dX7_readsSetting_1 : decode cX7_readsSetting 1 = .ok (.iconst 3, 1) := by decide +kernel
theorem dX7_readsSetting_2 : decode cX7_readsSetting 2 = .ok (.bipush 9, 2) := by decide +kernel
theorem dX7_readsSetting_4 : decode cX7_readsSetting 4 = .ok (.invokevirtual 118, 3) := by decide +kernel
theorem dX7_readsSetting_7 : decode cX7_readsSetting 7 = .ok (.istore_n 1, 1) := by decide +kernel
theorem dX7_readsSetting_8 : decode cX7_readsSetting 8 = .ok (.aload_n 0, 1) := by decide +kernel
theorem dX7_readsSetting_9 : decode cX7_readsSetting 9 = .ok (.iload_n 1, 1) := by decide +kernel
theorem dX7_readsSetting_10 : decode cX7_readsSetting 10 = .ok (.bipush (-4), 2) := by decide +kernel
theorem dX7_readsSetting_12 : decode cX7_readsSetting 12 = .ok (.if_icmp .eq 7, 3) := by decide +kernel
theorem dX7_readsSetting_15 : decode cX7_readsSetting 15 = .ok (.iconst 1, 1) := by decide +kernel
theorem dX7_readsSetting_16 : decode cX7_readsSetting 16 = .ok (.goto 4, 3) := by decide +kernel
theorem dX7_readsSetting_19 : decode cX7_readsSetting 19 = .ok (.iconst 0, 1) := by decide +kernel
theorem dX7_readsSetting_20 : decode cX7_readsSetting 20 = .ok (.iconst 2, 1) := by decide +kernel
theorem dX7_readsSetting_21 : decode cX7_readsSetting 21 = .ok (.invokevirtual 111, 3) := by decide +kernel
theorem dX7_readsSetting_24 : decode cX7_readsSetting 24 = .ok (.aload_n 0, 1) := by decide +kernel
theorem dX7_readsSetting_25 : decode cX7_readsSetting 25 = .ok (.aload_n 0, 1) := by decide +kernel
theorem dX7_readsSetting_26 : decode cX7_readsSetting 26 = .ok (.getfield 81, 3) := by decide +kernel
theorem dX7_readsSetting_29 : decode cX7_readsSetting 29 = .ok (.ifCond .gt 14, 3) := by decide +kernel
theorem dX7_readsSetting_32 : decode cX7_readsSetting 32 = .ok (.aload_n 0, 1) := by decide +kernel
theorem dX7_readsSetting_33 : decode cX7_readsSetting 33 = .ok (.getfield 38, 3) := by decide +kernel
theorem dX7_readsSetting_36 : decode cX7_readsSetting 36 = .ok (.iload_n 1, 1) := by decide +kernel
theorem dX7_readsSetting_37 : decode cX7_readsSetting 37 = .ok (.iconst 3, 1) := by decide +kernel
theorem dX7_readsSetting_38 : decode cX7_readsSetting 38 = .ok (.isub, 1) := by decide +kernel
theorem dX7_readsSetting_39 : decode cX7_readsSetting 39 = .ok (.baload, 1) := by decide +kernel
theorem dX7_readsSetting_40 : decode cX7_readsSetting 40 = .ok (.ifCond .ne 7, 3) := by decide +kernel
theorem dX7_readsSetting_43 : decode cX7_readsSetting 43 = .ok (.iconst 1, 1) := by decide +kernel
theorem dX7_readsSetting_44 : decode cX7_readsSetting 44 = .ok (.goto 4, 3) := by decide +kernel
theorem dX7_readsSetting_47 : decode cX7_readsSetting 47 = .ok (.iconst 0, 1) := by decide +kernel
theorem dX7_readsSetting_48 : decode cX7_readsSetting 48 = .ok (.iconst 4, 1) := by decide +kernel
theorem dX7_readsSetting_49 : decode cX7_readsSetting 49 = .ok (.invokevirtual 111, 3) := by decide +kernel
theorem dX7_readsSetting_52 : decode cX7_readsSetting 52 = .ok (.aload_n 0, 1) := by decide +kernel
theorem dX7_readsSetting_53 : decode cX7_readsSetting 53 = .ok (.invokevirtual 115, 3) := by decide +kernel
theorem dX7_readsSetting_56 : decode cX7_readsSetting 56 = .ok (.aload_n 0, 1) := by decide +kernel
theorem dX7_readsSetting_57 : decode cX7_readsSetting 57 = .ok (.getfield 81, 3) := by decide +kernel
theorem dX7_readsSetting_60 : decode cX7_readsSetting 60 = .ok (.ifCond .ne 36, 3) := by decide +kernel
theorem dX7_readsSetting_63 : decode cX7_readsSetting 63 = .ok (.iload_n 1, 1) := by decide +kernel
theorem dX7_readsSetting_64 : decode cX7_readsSetting 64 = .ok (.iconst 3, 1) := by decide +kernel
theorem dX7_readsSetting_65 : decode cX7_readsSetting 65 = .ok (.isub, 1) := by decide +kernel
theorem dX7_readsSetting_66 : decode cX7_readsSetting 66 = .ok (.istore_n 2, 1) := by decide +kernel
theorem dX7_readsSetting_67 : decode cX7_readsSetting 67 = .ok (.aload_n 0, 1) := by decide +kernel
theorem dX7_readsSetting_68 : decode cX7_readsSetting 68 = .ok (.getfield 38, 3) := by decide +kernel
theorem dX7_readsSetting_71 : decode cX7_readsSetting 71 = .ok (.iload_n 2, 1) := by decide +kernel
theorem dX7_readsSetting_72 : decode cX7_readsSetting 72 = .ok (.iconst 1, 1) := by decide +kernel
theorem dX7_readsSetting_73 : decode cX7_readsSetting 73 = .ok (.bastore, 1) := by decide +kernel
theorem dX7_readsSetting_74 : decode cX7_readsSetting 74 = .ok (.aload_n 0, 1) := by decide +kernel
theorem dX7_readsSetting_75 : decode cX7_readsSetting 75 = .ok (.getfield 13, 3) := by decide +kernel
theorem dX7_readsSetting_78 : decode cX7_readsSetting 78 = .ok (.sipush 585, 3) := by decide +kernel
theorem dX7_readsSetting_81 : decode cX7_readsSetting 81 = .ok (.iload_n 2, 1) := by decide +kernel
theorem dX7_readsSetting_82 : decode cX7_readsSetting 82 = .ok (.iadd, 1) := by decide +kernel
theorem dX7_readsSetting_83 : decode cX7_readsSetting 83 = .ok (.aload_n 0, 1) := by decide +kernel
theorem dX7_readsSetting_84 : decode cX7_readsSetting 84 = .ok (.iload_n 2, 1) := by decide +kernel
theorem dX7_readsSetting_85 : decode cX7_readsSetting 85 = .ok (.invokestatic 122, 3) := by decide +kernel
theorem dX7_readsSetting_88 : decode cX7_readsSetting 88 = .ok (.iload_n 2, 1) := by decide +kernel
theorem dX7_readsSetting_89 : decode cX7_readsSetting 89 = .ok (.invokestatic 125, 3) := by decide +kernel
theorem dX7_readsSetting_92 : decode cX7_readsSetting 92 = .ok (.invokevirtual 128, 3) := by decide +kernel
theorem dX7_readsSetting_95 : decode cX7_readsSetting 95 = .ok (.iastore, 1) := by decide +kernel
theorem dX7_readsSetting_96 : decode cX7_readsSetting 96 = .ok (.return_, 1) := by decide +kernel
theorem dX7_shapeOf_0 : decode cX7_shapeOf 0 = .ok (.iconst 0, 1) := by decide +kernel
theorem dX7_shapeOf_1 : decode cX7_shapeOf 1 = .ok (.istore_n 2, 1) := by decide +kernel
theorem dX7_shapeOf_2 : decode cX7_shapeOf 2 = .ok (.iload_n 2, 1) := by decide +kernel
theorem dX7_shapeOf_3 : decode cX7_shapeOf 3 = .ok (.aload_n 0, 1) := by decide +kernel
theorem dX7_shapeOf_4 : decode cX7_shapeOf 4 = .ok (.getfield 131, 3) := by decide +kernel
theorem dX7_shapeOf_7 : decode cX7_shapeOf 7 = .ok (.if_icmp .ge 26, 3) := by decide +kernel
theorem dX7_shapeOf_10 : decode cX7_shapeOf 10 = .ok (.aload_n 0, 1) := by decide +kernel
theorem dX7_shapeOf_11 : decode cX7_shapeOf 11 = .ok (.getfield 19, 3) := by decide +kernel
theorem dX7_shapeOf_14 : decode cX7_shapeOf 14 = .ok (.bipush 19, 2) := by decide +kernel
theorem dX7_shapeOf_16 : decode cX7_shapeOf 16 = .ok (.iload_n 2, 1) := by decide +kernel
theorem dX7_shapeOf_17 : decode cX7_shapeOf 17 = .ok (.imul, 1) := by decide +kernel
theorem dX7_shapeOf_18 : decode cX7_shapeOf 18 = .ok (.iconst 0, 1) := by decide +kernel
theorem dX7_shapeOf_19 : decode cX7_shapeOf 19 = .ok (.iadd, 1) := by decide +kernel
theorem dX7_shapeOf_20 : decode cX7_shapeOf 20 = .ok (.iaload, 1) := by decide +kernel
theorem dX7_shapeOf_21 : decode cX7_shapeOf 21 = .ok (.iload_n 1, 1) := by decide +kernel
theorem dX7_shapeOf_22 : decode cX7_shapeOf 22 = .ok (.if_icmp .ne 5, 3) := by decide +kernel
theorem dX7_shapeOf_25 : decode cX7_shapeOf 25 = .ok (.iload_n 2, 1) := by decide +kernel
theorem dX7_shapeOf_26 : decode cX7_shapeOf 26 = .ok (.ireturn, 1) := by decide +kernel
theorem dX7_shapeOf_27 : decode cX7_shapeOf 27 = .ok (.iinc 2 1, 3) := by decide +kernel
theorem dX7_shapeOf_30 : decode cX7_shapeOf 30 = .ok (.goto (-28), 3) := by decide +kernel
theorem dX7_shapeOf_33 : decode cX7_shapeOf 33 = .ok (.bipush (-4), 2) := by decide +kernel
theorem dX7_shapeOf_35 : decode cX7_shapeOf 35 = .ok (.ireturn, 1) := by decide +kernel
theorem dX7_isLetterNow_0 : decode cX7_isLetterNow 0 = .ok (.aload_n 0, 1) := by decide +kernel
theorem dX7_isLetterNow_1 : decode cX7_isLetterNow 1 = .ok (.getfield 100, 3) := by decide +kernel
theorem dX7_isLetterNow_4 : decode cX7_isLetterNow 4 = .ok (.iconst 1, 1) := by decide +kernel
theorem dX7_isLetterNow_5 : decode cX7_isLetterNow 5 = .ok (.if_icmp .ne 20, 3) := by decide +kernel
theorem dX7_isLetterNow_8 : decode cX7_isLetterNow 8 = .ok (.aload_n 0, 1) := by decide +kernel
theorem dX7_isLetterNow_9 : decode cX7_isLetterNow 9 = .ok (.getfield 90, 3) := by decide +kernel
theorem dX7_isLetterNow_12 : decode cX7_isLetterNow 12 = .ok (.aload_n 0, 1) := by decide +kernel
theorem dX7_isLetterNow_13 : decode cX7_isLetterNow 13 = .ok (.getfield 84, 3) := by decide +kernel
theorem dX7_isLetterNow_16 : decode cX7_isLetterNow 16 = .ok (.isub, 1) := by decide +kernel
theorem dX7_isLetterNow_17 : decode cX7_isLetterNow 17 = .ok (.iconst 1, 1) := by decide +kernel
theorem dX7_isLetterNow_18 : decode cX7_isLetterNow 18 = .ok (.if_icmp .ne 7, 3) := by decide +kernel
theorem dX7_isLetterNow_21 : decode cX7_isLetterNow 21 = .ok (.iconst 1, 1) := by decide +kernel
theorem dX7_isLetterNow_22 : decode cX7_isLetterNow 22 = .ok (.goto 4, 3) := by decide +kernel
theorem dX7_isLetterNow_25 : decode cX7_isLetterNow 25 = .ok (.iconst 0, 1) := by decide +kernel
theorem dX7_isLetterNow_26 : decode cX7_isLetterNow 26 = .ok (.ireturn, 1) := by decide +kernel
theorem dX7_readsStep_0 : decode cX7_readsStep 0 = .ok (.aload_n 0, 1) := by decide +kernel
theorem dX7_readsStep_1 : decode cX7_readsStep 1 = .ok (.getfield 19, 3) := by decide +kernel
theorem dX7_readsStep_4 : decode cX7_readsStep 4 = .ok (.iload_n 1, 1) := by decide +kernel
theorem dX7_readsStep_5 : decode cX7_readsStep 5 = .ok (.iconst 2, 1) := by decide +kernel
theorem dX7_readsStep_6 : decode cX7_readsStep 6 = .ok (.iadd, 1) := by decide +kernel
theorem dX7_readsStep_7 : decode cX7_readsStep 7 = .ok (.iaload, 1) := by decide +kernel
theorem dX7_readsStep_8 : decode cX7_readsStep 8 = .ok (.istore_n 2, 1) := by decide +kernel
theorem dX7_readsStep_9 : decode cX7_readsStep 9 = .ok (.aload_n 0, 1) := by decide +kernel
theorem dX7_readsStep_10 : decode cX7_readsStep 10 = .ok (.aload_n 0, 1) := by decide +kernel
theorem dX7_readsStep_11 : decode cX7_readsStep 11 = .ok (.getfield 100, 3) := by decide +kernel
theorem dX7_readsStep_14 : decode cX7_readsStep 14 = .ok (.iconst 2, 1) := by decide +kernel
theorem dX7_readsStep_15 : decode cX7_readsStep 15 = .ok (.if_icmp .ne 13, 3) := by decide +kernel
theorem dX7_readsStep_18 : decode cX7_readsStep 18 = .ok (.iload_n 2, 1) := by decide +kernel
theorem dX7_readsStep_19 : decode cX7_readsStep 19 = .ok (.bipush 8, 2) := by decide +kernel
theorem dX7_readsStep_21 : decode cX7_readsStep 21 = .ok (.if_icmp .ge 7, 3) := by decide +kernel
theorem dX7_readsStep_24 : decode cX7_readsStep 24 = .ok (.iconst 1, 1) := by decide +kernel
theorem dX7_readsStep_25 : decode cX7_readsStep 25 = .ok (.goto 4, 3) := by decide +kernel
theorem dX7_readsStep_28 : decode cX7_readsStep 28 = .ok (.iconst 0, 1) := by decide +kernel
theorem dX7_readsStep_29 : decode cX7_readsStep 29 = .ok (.iconst 2, 1) := by decide +kernel
theorem dX7_readsStep_30 : decode cX7_readsStep 30 = .ok (.invokevirtual 111, 3) := by decide +kernel
theorem dX7_readsStep_33 : decode cX7_readsStep 33 = .ok (.aload_n 0, 1) := by decide +kernel
theorem dX7_readsStep_34 : decode cX7_readsStep 34 = .ok (.getfield 19, 3) := by decide +kernel
theorem dX7_readsStep_37 : decode cX7_readsStep 37 = .ok (.iload_n 1, 1) := by decide +kernel
theorem dX7_readsStep_38 : decode cX7_readsStep 38 = .ok (.iconst 1, 1) := by decide +kernel
theorem dX7_readsStep_39 : decode cX7_readsStep 39 = .ok (.iadd, 1) := by decide +kernel
theorem dX7_readsStep_40 : decode cX7_readsStep 40 = .ok (.iaload, 1) := by decide +kernel
theorem dX7_readsStep_41 : decode cX7_readsStep 41 = .ok (.istore_n 3, 1) := by decide +kernel
theorem dX7_readsStep_42 : decode cX7_readsStep 42 = .ok (.iload_n 2, 1) := by decide +kernel
theorem dX7_readsStep_43 : decode cX7_readsStep 43 = .ok (.ifCond .ne 7, 3) := by decide +kernel
theorem dX7_readsStep_46 : decode cX7_readsStep 46 = .ok (.iconst 0, 1) := by decide +kernel
theorem dX7_readsStep_47 : decode cX7_readsStep 47 = .ok (.goto 27, 3) := by decide +kernel
theorem dX7_readsStep_50 : decode cX7_readsStep 50 = .ok (.aload_n 0, 1) := by decide +kernel
theorem dX7_readsStep_51 : decode cX7_readsStep 51 = .ok (.getfield 19, 3) := by decide +kernel
theorem dX7_readsStep_54 : decode cX7_readsStep 54 = .ok (.iload_n 1, 1) := by decide +kernel
theorem dX7_readsStep_55 : decode cX7_readsStep 55 = .ok (.iconst 3, 1) := by decide +kernel
theorem dX7_readsStep_56 : decode cX7_readsStep 56 = .ok (.iadd, 1) := by decide +kernel
theorem dX7_readsStep_57 : decode cX7_readsStep 57 = .ok (.iload_n 2, 1) := by decide +kernel
theorem dX7_readsStep_58 : decode cX7_readsStep 58 = .ok (.bipush 8, 2) := by decide +kernel
theorem dX7_readsStep_60 : decode cX7_readsStep 60 = .ok (.if_icmp .gt 9, 3) := by decide +kernel
theorem dX7_readsStep_63 : decode cX7_readsStep 63 = .ok (.iload_n 2, 1) := by decide +kernel
theorem dX7_readsStep_64 : decode cX7_readsStep 64 = .ok (.iconst 1, 1) := by decide +kernel
theorem dX7_readsStep_65 : decode cX7_readsStep 65 = .ok (.isub, 1) := by decide +kernel
theorem dX7_readsStep_66 : decode cX7_readsStep 66 = .ok (.goto 4, 3) := by decide +kernel
theorem dX7_readsStep_69 : decode cX7_readsStep 69 = .ok (.iconst 0, 1) := by decide +kernel
theorem dX7_readsStep_70 : decode cX7_readsStep 70 = .ok (.iadd, 1) := by decide +kernel
theorem dX7_readsStep_71 : decode cX7_readsStep 71 = .ok (.iaload, 1) := by decide +kernel
theorem dX7_readsStep_72 : decode cX7_readsStep 72 = .ok (.iconst 1, 1) := by decide +kernel
theorem dX7_readsStep_73 : decode cX7_readsStep 73 = .ok (.iadd, 1) := by decide +kernel
theorem dX7_readsStep_74 : decode cX7_readsStep 74 = .ok (.istore 4, 2) := by decide +kernel
theorem dX7_readsStep_76 : decode cX7_readsStep 76 = .ok (.aload_n 0, 1) := by decide +kernel
theorem dX7_readsStep_77 : decode cX7_readsStep 77 = .ok (.iload 4, 2) := by decide +kernel
theorem dX7_readsStep_79 : decode cX7_readsStep 79 = .ok (.iload_n 2, 1) := by decide +kernel
theorem dX7_readsStep_80 : decode cX7_readsStep 80 = .ok (.ifCond .ne 7, 3) := by decide +kernel
theorem dX7_readsStep_83 : decode cX7_readsStep 83 = .ok (.iconst 0, 1) := by decide +kernel
theorem dX7_readsStep_84 : decode cX7_readsStep 84 = .ok (.goto 6, 3) := by decide +kernel
theorem dX7_readsStep_87 : decode cX7_readsStep 87 = .ok (.iload_n 3, 1) := by decide +kernel
theorem dX7_readsStep_88 : decode cX7_readsStep 88 = .ok (.iconst 1, 1) := by decide +kernel
theorem dX7_readsStep_89 : decode cX7_readsStep 89 = .ok (.isub, 1) := by decide +kernel
theorem dX7_readsStep_90 : decode cX7_readsStep 90 = .ok (.invokevirtual 128, 3) := by decide +kernel
theorem dX7_readsStep_93 : decode cX7_readsStep 93 = .ok (.istore 5, 2) := by decide +kernel
theorem dX7_readsStep_95 : decode cX7_readsStep 95 = .ok (.aload_n 0, 1) := by decide +kernel
theorem dX7_readsStep_96 : decode cX7_readsStep 96 = .ok (.getfield 81, 3) := by decide +kernel
theorem dX7_readsStep_99 : decode cX7_readsStep 99 = .ok (.ifCond .le 7, 3) := by decide +kernel
theorem dX7_readsStep_102 : decode cX7_readsStep 102 = .ok (.iconst 0, 1) := by decide +kernel
theorem dX7_readsStep_103 : decode cX7_readsStep 103 = .ok (.goto 10, 3) := by decide +kernel
theorem dX7_readsStep_106 : decode cX7_readsStep 106 = .ok (.aload_n 0, 1) := by decide +kernel
theorem dX7_readsStep_107 : decode cX7_readsStep 107 = .ok (.iconst 0, 1) := by decide +kernel
theorem dX7_readsStep_108 : decode cX7_readsStep 108 = .ok (.bipush 60, 2) := by decide +kernel
theorem dX7_readsStep_110 : decode cX7_readsStep 110 = .ok (.invokevirtual 128, 3) := by decide +kernel
theorem dX7_readsStep_113 : decode cX7_readsStep 113 = .ok (.istore 6, 2) := by decide +kernel
theorem dX7_readsStep_115 : decode cX7_readsStep 115 = .ok (.aload_n 0, 1) := by decide +kernel
theorem dX7_readsStep_116 : decode cX7_readsStep 116 = .ok (.getfield 81, 3) := by decide +kernel
theorem dX7_readsStep_119 : decode cX7_readsStep 119 = .ok (.ifCond .ne 40, 3) := by decide +kernel
theorem dX7_readsStep_122 : decode cX7_readsStep 122 = .ok (.aload_n 0, 1) := by decide +kernel
theorem dX7_readsStep_123 : decode cX7_readsStep 123 = .ok (.getfield 19, 3) := by decide +kernel
theorem dX7_readsStep_126 : decode cX7_readsStep 126 = .ok (.iload_n 1, 1) := by decide +kernel
theorem dX7_readsStep_127 : decode cX7_readsStep 127 = .ok (.iconst 3, 1) := by decide +kernel
theorem dX7_readsStep_128 : decode cX7_readsStep 128 = .ok (.iadd, 1) := by decide +kernel
theorem dX7_readsStep_129 : decode cX7_readsStep 129 = .ok (.iload_n 2, 1) := by decide +kernel
theorem dX7_readsStep_130 : decode cX7_readsStep 130 = .ok (.iadd, 1) := by decide +kernel
theorem dX7_readsStep_131 : decode cX7_readsStep 131 = .ok (.iload 5, 2) := by decide +kernel
theorem dX7_readsStep_133 : decode cX7_readsStep 133 = .ok (.iastore, 1) := by decide +kernel
theorem dX7_readsStep_134 : decode cX7_readsStep 134 = .ok (.aload_n 0, 1) := by decide +kernel
theorem dX7_readsStep_135 : decode cX7_readsStep 135 = .ok (.getfield 19, 3) := by decide +kernel
theorem dX7_readsStep_138 : decode cX7_readsStep 138 = .ok (.iload_n 1, 1) := by decide +kernel
theorem dX7_readsStep_139 : decode cX7_readsStep 139 = .ok (.bipush 11, 2) := by decide +kernel
theorem dX7_readsStep_141 : decode cX7_readsStep 141 = .ok (.iadd, 1) := by decide +kernel
theorem dX7_readsStep_142 : decode cX7_readsStep 142 = .ok (.iload_n 2, 1) := by decide +kernel
theorem dX7_readsStep_143 : decode cX7_readsStep 143 = .ok (.iadd, 1) := by decide +kernel
theorem dX7_readsStep_144 : decode cX7_readsStep 144 = .ok (.iload 6, 2) := by decide +kernel
theorem dX7_readsStep_146 : decode cX7_readsStep 146 = .ok (.iastore, 1) := by decide +kernel
theorem dX7_readsStep_147 : decode cX7_readsStep 147 = .ok (.aload_n 0, 1) := by decide +kernel
theorem dX7_readsStep_148 : decode cX7_readsStep 148 = .ok (.getfield 19, 3) := by decide +kernel
theorem dX7_readsStep_151 : decode cX7_readsStep 151 = .ok (.iload_n 1, 1) := by decide +kernel
theorem dX7_readsStep_152 : decode cX7_readsStep 152 = .ok (.iconst 2, 1) := by decide +kernel
theorem dX7_readsStep_153 : decode cX7_readsStep 153 = .ok (.iadd, 1) := by decide +kernel
theorem dX7_readsStep_154 : decode cX7_readsStep 154 = .ok (.dup2, 1) := by decide +kernel
theorem dX7_readsStep_155 : decode cX7_readsStep 155 = .ok (.iaload, 1) := by decide +kernel
theorem dX7_readsStep_156 : decode cX7_readsStep 156 = .ok (.iconst 1, 1) := by decide +kernel
theorem dX7_readsStep_157 : decode cX7_readsStep 157 = .ok (.iadd, 1) := by decide +kernel
theorem dX7_readsStep_158 : decode cX7_readsStep 158 = .ok (.iastore, 1) := by decide +kernel
theorem dX7_readsStep_159 : decode cX7_readsStep 159 = .ok (.return_, 1) := by decide +kernel
theorem dX7_readsShape_0 : decode cX7_readsShape 0 = .ok (.bipush 19, 2) := by decide +kernel
theorem dX7_readsShape_2 : decode cX7_readsShape 2 = .ok (.aload_n 0, 1) := by decide +kernel
theorem dX7_readsShape_3 : decode cX7_readsShape 3 = .ok (.getfield 131, 3) := by decide +kernel
theorem dX7_readsShape_6 : decode cX7_readsShape 6 = .ok (.imul, 1) := by decide +kernel
theorem dX7_readsShape_7 : decode cX7_readsShape 7 = .ok (.istore_n 1, 1) := by decide +kernel
theorem dX7_readsShape_8 : decode cX7_readsShape 8 = .ok (.aload_n 0, 1) := by decide +kernel
theorem dX7_readsShape_9 : decode cX7_readsShape 9 = .ok (.aload_n 0, 1) := by decide +kernel
theorem dX7_readsShape_10 : decode cX7_readsShape 10 = .ok (.invokevirtual 134, 3) := by decide +kernel
theorem dX7_readsShape_13 : decode cX7_readsShape 13 = .ok (.iconst 2, 1) := by decide +kernel
theorem dX7_readsShape_14 : decode cX7_readsShape 14 = .ok (.invokevirtual 111, 3) := by decide +kernel
theorem dX7_readsShape_17 : decode cX7_readsShape 17 = .ok (.aload_n 0, 1) := by decide +kernel
theorem dX7_readsShape_18 : decode cX7_readsShape 18 = .ok (.aload_n 0, 1) := by decide +kernel
theorem dX7_readsShape_19 : decode cX7_readsShape 19 = .ok (.getfield 81, 3) := by decide +kernel
theorem dX7_readsShape_22 : decode cX7_readsShape 22 = .ok (.ifCond .gt 21, 3) := by decide +kernel
theorem dX7_readsShape_25 : decode cX7_readsShape 25 = .ok (.aload_n 0, 1) := by decide +kernel
theorem dX7_readsShape_26 : decode cX7_readsShape 26 = .ok (.aload_n 0, 1) := by decide +kernel
theorem dX7_readsShape_27 : decode cX7_readsShape 27 = .ok (.getfield 97, 3) := by decide +kernel
theorem dX7_readsShape_30 : decode cX7_readsShape 30 = .ok (.bipush 97, 2) := by decide +kernel
theorem dX7_readsShape_32 : decode cX7_readsShape 32 = .ok (.isub, 1) := by decide +kernel
theorem dX7_readsShape_33 : decode cX7_readsShape 33 = .ok (.iconst 1, 1) := by decide +kernel
theorem dX7_readsShape_34 : decode cX7_readsShape 34 = .ok (.iadd, 1) := by decide +kernel
theorem dX7_readsShape_35 : decode cX7_readsShape 35 = .ok (.invokevirtual 138, 3) := by decide +kernel
theorem dX7_readsShape_38 : decode cX7_readsShape 38 = .ok (.bipush (-4), 2) := by decide +kernel
theorem dX7_readsShape_40 : decode cX7_readsShape 40 = .ok (.if_icmp .ne 7, 3) := by decide +kernel
theorem dX7_readsShape_43 : decode cX7_readsShape 43 = .ok (.iconst 1, 1) := by decide +kernel
theorem dX7_readsShape_44 : decode cX7_readsShape 44 = .ok (.goto 4, 3) := by decide +kernel
theorem dX7_readsShape_47 : decode cX7_readsShape 47 = .ok (.iconst 0, 1) := by decide +kernel
theorem dX7_readsShape_48 : decode cX7_readsShape 48 = .ok (.iconst 4, 1) := by decide +kernel
theorem dX7_readsShape_49 : decode cX7_readsShape 49 = .ok (.invokevirtual 111, 3) := by decide +kernel
theorem dX7_readsShape_52 : decode cX7_readsShape 52 = .ok (.aload_n 0, 1) := by decide +kernel
theorem dX7_readsShape_53 : decode cX7_readsShape 53 = .ok (.getfield 81, 3) := by decide +kernel
theorem dX7_readsShape_56 : decode cX7_readsShape 56 = .ok (.ifCond .le 4, 3) := by decide +kernel
theorem dX7_readsShape_59 : decode cX7_readsShape 59 = .ok (.return_, 1) := by decide +kernel
theorem dX7_readsShape_60 : decode cX7_readsShape 60 = .ok (.aload_n 0, 1) := by decide +kernel
theorem dX7_readsShape_61 : decode cX7_readsShape 61 = .ok (.getfield 19, 3) := by decide +kernel
theorem dX7_readsShape_64 : decode cX7_readsShape 64 = .ok (.iload_n 1, 1) := by decide +kernel
theorem dX7_readsShape_65 : decode cX7_readsShape 65 = .ok (.iconst 0, 1) := by decide +kernel
theorem dX7_readsShape_66 : decode cX7_readsShape 66 = .ok (.iadd, 1) := by decide +kernel
theorem dX7_readsShape_67 : decode cX7_readsShape 67 = .ok (.aload_n 0, 1) := by decide +kernel
theorem dX7_readsShape_68 : decode cX7_readsShape 68 = .ok (.getfield 97, 3) := by decide +kernel
theorem dX7_readsShape_71 : decode cX7_readsShape 71 = .ok (.bipush 97, 2) := by decide +kernel
theorem dX7_readsShape_73 : decode cX7_readsShape 73 = .ok (.isub, 1) := by decide +kernel
theorem dX7_readsShape_74 : decode cX7_readsShape 74 = .ok (.iconst 1, 1) := by decide +kernel
theorem dX7_readsShape_75 : decode cX7_readsShape 75 = .ok (.iadd, 1) := by decide +kernel
theorem dX7_readsShape_76 : decode cX7_readsShape 76 = .ok (.iastore, 1) := by decide +kernel
theorem dX7_readsShape_77 : decode cX7_readsShape 77 = .ok (.aload_n 0, 1) := by decide +kernel
theorem dX7_readsShape_78 : decode cX7_readsShape 78 = .ok (.invokevirtual 115, 3) := by decide +kernel
theorem dX7_readsShape_81 : decode cX7_readsShape 81 = .ok (.aload_n 0, 1) := by decide +kernel
theorem dX7_readsShape_82 : decode cX7_readsShape 82 = .ok (.getfield 19, 3) := by decide +kernel
theorem dX7_readsShape_85 : decode cX7_readsShape 85 = .ok (.iload_n 1, 1) := by decide +kernel
theorem dX7_readsShape_86 : decode cX7_readsShape 86 = .ok (.iconst 1, 1) := by decide +kernel
theorem dX7_readsShape_87 : decode cX7_readsShape 87 = .ok (.iadd, 1) := by decide +kernel
theorem dX7_readsShape_88 : decode cX7_readsShape 88 = .ok (.aload_n 0, 1) := by decide +kernel
theorem dX7_readsShape_89 : decode cX7_readsShape 89 = .ok (.iconst 1, 1) := by decide +kernel
theorem dX7_readsShape_90 : decode cX7_readsShape 90 = .ok (.bipush 60, 2) := by decide +kernel
theorem dX7_readsShape_92 : decode cX7_readsShape 92 = .ok (.invokevirtual 128, 3) := by decide +kernel
theorem dX7_readsShape_95 : decode cX7_readsShape 95 = .ok (.iastore, 1) := by decide +kernel
theorem dX7_readsShape_96 : decode cX7_readsShape 96 = .ok (.aload_n 0, 1) := by decide +kernel
theorem dX7_readsShape_97 : decode cX7_readsShape 97 = .ok (.getfield 19, 3) := by decide +kernel
theorem dX7_readsShape_100 : decode cX7_readsShape 100 = .ok (.iload_n 1, 1) := by decide +kernel
theorem dX7_readsShape_101 : decode cX7_readsShape 101 = .ok (.iconst 2, 1) := by decide +kernel
theorem dX7_readsShape_102 : decode cX7_readsShape 102 = .ok (.iadd, 1) := by decide +kernel
theorem dX7_readsShape_103 : decode cX7_readsShape 103 = .ok (.iconst 0, 1) := by decide +kernel
theorem dX7_readsShape_104 : decode cX7_readsShape 104 = .ok (.iastore, 1) := by decide +kernel
theorem dX7_readsShape_105 : decode cX7_readsShape 105 = .ok (.aload_n 0, 1) := by decide +kernel
theorem dX7_readsShape_106 : decode cX7_readsShape 106 = .ok (.getfield 81, 3) := by decide +kernel
theorem dX7_readsShape_109 : decode cX7_readsShape 109 = .ok (.ifCond .ne 7, 3) := by decide +kernel
theorem dX7_readsShape_112 : decode cX7_readsShape 112 = .ok (.iconst 1, 1) := by decide +kernel
theorem dX7_readsShape_113 : decode cX7_readsShape 113 = .ok (.goto 4, 3) := by decide +kernel
theorem dX7_readsShape_116 : decode cX7_readsShape 116 = .ok (.iconst 0, 1) := by decide +kernel
theorem dX7_readsShape_117 : decode cX7_readsShape 117 = .ok (.istore_n 2, 1) := by decide +kernel
theorem dX7_readsShape_118 : decode cX7_readsShape 118 = .ok (.iload_n 2, 1) := by decide +kernel
theorem dX7_readsShape_119 : decode cX7_readsShape 119 = .ok (.ifCond .eq 32, 3) := by decide +kernel
theorem dX7_readsShape_122 : decode cX7_readsShape 122 = .ok (.aload_n 0, 1) := by decide +kernel
theorem dX7_readsShape_123 : decode cX7_readsShape 123 = .ok (.iload_n 1, 1) := by decide +kernel
theorem dX7_readsShape_124 : decode cX7_readsShape 124 = .ok (.invokevirtual 141, 3) := by decide +kernel
theorem dX7_readsShape_127 : decode cX7_readsShape 127 = .ok (.aload_n 0, 1) := by decide +kernel
theorem dX7_readsShape_128 : decode cX7_readsShape 128 = .ok (.getfield 81, 3) := by decide +kernel
theorem dX7_readsShape_131 : decode cX7_readsShape 131 = .ok (.ifCond .ne 15, 3) := by decide +kernel
theorem dX7_readsShape_134 : decode cX7_readsShape 134 = .ok (.aload_n 0, 1) := by decide +kernel
theorem dX7_readsShape_135 : decode cX7_readsShape 135 = .ok (.getfield 100, 3) := by decide +kernel
theorem dX7_readsShape_138 : decode cX7_readsShape 138 = .ok (.iconst 2, 1) := by decide +kernel
theorem dX7_readsShape_139 : decode cX7_readsShape 139 = .ok (.if_icmp .ne 7, 3) := by decide +kernel
theorem dX7_readsShape_142 : decode cX7_readsShape 142 = .ok (.iconst 1, 1) := by decide +kernel
theorem dX7_readsShape_143 : decode cX7_readsShape 143 = .ok (.goto 4, 3) := by decide +kernel
theorem dX7_readsShape_146 : decode cX7_readsShape 146 = .ok (.iconst 0, 1) := by decide +kernel
theorem dX7_readsShape_147 : decode cX7_readsShape 147 = .ok (.istore_n 2, 1) := by decide +kernel
theorem dX7_readsShape_148 : decode cX7_readsShape 148 = .ok (.goto (-30), 3) := by decide +kernel
theorem dX7_readsShape_151 : decode cX7_readsShape 151 = .ok (.aload_n 0, 1) := by decide +kernel
theorem dX7_readsShape_152 : decode cX7_readsShape 152 = .ok (.dup, 1) := by decide +kernel
theorem dX7_readsShape_153 : decode cX7_readsShape 153 = .ok (.getfield 131, 3) := by decide +kernel
theorem dX7_readsShape_156 : decode cX7_readsShape 156 = .ok (.iconst 1, 1) := by decide +kernel
theorem dX7_readsShape_157 : decode cX7_readsShape 157 = .ok (.iadd, 1) := by decide +kernel
theorem dX7_readsShape_158 : decode cX7_readsShape 158 = .ok (.putfield 131, 3) := by decide +kernel
theorem dX7_readsShape_161 : decode cX7_readsShape 161 = .ok (.return_, 1) := by decide +kernel
theorem dX7_wordsOfDraft_0 : decode cX7_wordsOfDraft 0 = .ok (.iconst 0, 1) := by decide +kernel
theorem dX7_wordsOfDraft_1 : decode cX7_wordsOfDraft 1 = .ok (.istore_n 1, 1) := by decide +kernel
theorem dX7_wordsOfDraft_2 : decode cX7_wordsOfDraft 2 = .ok (.iconst 0, 1) := by decide +kernel
theorem dX7_wordsOfDraft_3 : decode cX7_wordsOfDraft 3 = .ok (.istore_n 2, 1) := by decide +kernel
theorem dX7_wordsOfDraft_4 : decode cX7_wordsOfDraft 4 = .ok (.iload_n 2, 1) := by decide +kernel
theorem dX7_wordsOfDraft_5 : decode cX7_wordsOfDraft 5 = .ok (.aload_n 0, 1) := by decide +kernel
theorem dX7_wordsOfDraft_6 : decode cX7_wordsOfDraft 6 = .ok (.getfield 13, 3) := by decide +kernel
theorem dX7_wordsOfDraft_9 : decode cX7_wordsOfDraft 9 = .ok (.iconst 0, 1) := by decide +kernel
theorem dX7_wordsOfDraft_10 : decode cX7_wordsOfDraft 10 = .ok (.iaload, 1) := by decide +kernel
theorem dX7_wordsOfDraft_11 : decode cX7_wordsOfDraft 11 = .ok (.if_icmp .ge 24, 3) := by decide +kernel
theorem dX7_wordsOfDraft_14 : decode cX7_wordsOfDraft 14 = .ok (.iload_n 1, 1) := by decide +kernel
theorem dX7_wordsOfDraft_15 : decode cX7_wordsOfDraft 15 = .ok (.aload_n 0, 1) := by decide +kernel
theorem dX7_wordsOfDraft_16 : decode cX7_wordsOfDraft 16 = .ok (.getfield 13, 3) := by decide +kernel
theorem dX7_wordsOfDraft_19 : decode cX7_wordsOfDraft 19 = .ok (.iconst 1, 1) := by decide +kernel
theorem dX7_wordsOfDraft_20 : decode cX7_wordsOfDraft 20 = .ok (.iconst 3, 1) := by decide +kernel
theorem dX7_wordsOfDraft_21 : decode cX7_wordsOfDraft 21 = .ok (.iload_n 2, 1) := by decide +kernel
theorem dX7_wordsOfDraft_22 : decode cX7_wordsOfDraft 22 = .ok (.imul, 1) := by decide +kernel
theorem dX7_wordsOfDraft_23 : decode cX7_wordsOfDraft 23 = .ok (.iadd, 1) := by decide +kernel
theorem dX7_wordsOfDraft_24 : decode cX7_wordsOfDraft 24 = .ok (.iconst 2, 1) := by decide +kernel
theorem dX7_wordsOfDraft_25 : decode cX7_wordsOfDraft 25 = .ok (.iadd, 1) := by decide +kernel
theorem dX7_wordsOfDraft_26 : decode cX7_wordsOfDraft 26 = .ok (.iaload, 1) := by decide +kernel
theorem dX7_wordsOfDraft_27 : decode cX7_wordsOfDraft 27 = .ok (.iadd, 1) := by decide +kernel
theorem dX7_wordsOfDraft_28 : decode cX7_wordsOfDraft 28 = .ok (.istore_n 1, 1) := by decide +kernel
theorem dX7_wordsOfDraft_29 : decode cX7_wordsOfDraft 29 = .ok (.iinc 2 1, 3) := by decide +kernel
theorem dX7_wordsOfDraft_32 : decode cX7_wordsOfDraft 32 = .ok (.goto (-28), 3) := by decide +kernel
theorem dX7_wordsOfDraft_35 : decode cX7_wordsOfDraft 35 = .ok (.iload_n 1, 1) := by decide +kernel
theorem dX7_wordsOfDraft_36 : decode cX7_wordsOfDraft 36 = .ok (.ireturn, 1) := by decide +kernel
theorem dX7_readsWord_0 : decode cX7_readsWord 0 = .ok (.aload_n 0, 1) := by decide +kernel
theorem dX7_readsWord_1 : decode cX7_readsWord 1 = .ok (.aload_n 0, 1) := by decide +kernel
theorem dX7_readsWord_2 : decode cX7_readsWord 2 = .ok (.getfield 100, 3) := by decide +kernel
theorem dX7_readsWord_5 : decode cX7_readsWord 5 = .ok (.iconst 1, 1) := by decide +kernel
theorem dX7_readsWord_6 : decode cX7_readsWord 6 = .ok (.if_icmp .ne 7, 3) := by decide +kernel
theorem dX7_readsWord_9 : decode cX7_readsWord 9 = .ok (.iconst 1, 1) := by decide +kernel
theorem dX7_readsWord_10 : decode cX7_readsWord 10 = .ok (.goto 4, 3) := by decide +kernel
theorem dX7_readsWord_13 : decode cX7_readsWord 13 = .ok (.iconst 0, 1) := by decide +kernel
theorem dX7_readsWord_14 : decode cX7_readsWord 14 = .ok (.iconst 2, 1) := by decide +kernel
theorem dX7_readsWord_15 : decode cX7_readsWord 15 = .ok (.invokevirtual 111, 3) := by decide +kernel
theorem dX7_readsWord_18 : decode cX7_readsWord 18 = .ok (.aload_n 0, 1) := by decide +kernel
theorem dX7_readsWord_19 : decode cX7_readsWord 19 = .ok (.aload_n 0, 1) := by decide +kernel
theorem dX7_readsWord_20 : decode cX7_readsWord 20 = .ok (.getfield 81, 3) := by decide +kernel
theorem dX7_readsWord_23 : decode cX7_readsWord 23 = .ok (.ifCond .gt 17, 3) := by decide +kernel
theorem dX7_readsWord_26 : decode cX7_readsWord 26 = .ok (.aload_n 0, 1) := by decide +kernel
theorem dX7_readsWord_27 : decode cX7_readsWord 27 = .ok (.getfield 90, 3) := by decide +kernel
theorem dX7_readsWord_30 : decode cX7_readsWord 30 = .ok (.aload_n 0, 1) := by decide +kernel
theorem dX7_readsWord_31 : decode cX7_readsWord 31 = .ok (.getfield 84, 3) := by decide +kernel
theorem dX7_readsWord_34 : decode cX7_readsWord 34 = .ok (.isub, 1) := by decide +kernel
theorem dX7_readsWord_35 : decode cX7_readsWord 35 = .ok (.bipush 6, 2) := by decide +kernel
theorem dX7_readsWord_37 : decode cX7_readsWord 37 = .ok (.if_icmp .gt 7, 3) := by decide +kernel
theorem dX7_readsWord_40 : decode cX7_readsWord 40 = .ok (.iconst 1, 1) := by decide +kernel
theorem dX7_readsWord_41 : decode cX7_readsWord 41 = .ok (.goto 4, 3) := by decide +kernel
theorem dX7_readsWord_44 : decode cX7_readsWord 44 = .ok (.iconst 0, 1) := by decide +kernel
theorem dX7_readsWord_45 : decode cX7_readsWord 45 = .ok (.iconst 3, 1) := by decide +kernel
theorem dX7_readsWord_46 : decode cX7_readsWord 46 = .ok (.invokevirtual 111, 3) := by decide +kernel
theorem dX7_readsWord_49 : decode cX7_readsWord 49 = .ok (.aload_n 0, 1) := by decide +kernel
theorem dX7_readsWord_50 : decode cX7_readsWord 50 = .ok (.aload_n 0, 1) := by decide +kernel
theorem dX7_readsWord_51 : decode cX7_readsWord 51 = .ok (.getfield 81, 3) := by decide +kernel
theorem dX7_readsWord_54 : decode cX7_readsWord 54 = .ok (.ifCond .gt 12, 3) := by decide +kernel
theorem dX7_readsWord_57 : decode cX7_readsWord 57 = .ok (.aload_n 0, 1) := by decide +kernel
theorem dX7_readsWord_58 : decode cX7_readsWord 58 = .ok (.invokevirtual 145, 3) := by decide +kernel
theorem dX7_readsWord_61 : decode cX7_readsWord 61 = .ok (.bipush 80, 2) := by decide +kernel
theorem dX7_readsWord_63 : decode cX7_readsWord 63 = .ok (.if_icmp .ge 7, 3) := by decide +kernel
theorem dX7_readsWord_66 : decode cX7_readsWord 66 = .ok (.iconst 1, 1) := by decide +kernel
theorem dX7_readsWord_67 : decode cX7_readsWord 67 = .ok (.goto 4, 3) := by decide +kernel
theorem dX7_readsWord_70 : decode cX7_readsWord 70 = .ok (.iconst 0, 1) := by decide +kernel
theorem dX7_readsWord_71 : decode cX7_readsWord 71 = .ok (.iconst 5, 1) := by decide +kernel
theorem dX7_readsWord_72 : decode cX7_readsWord 72 = .ok (.invokevirtual 111, 3) := by decide +kernel
theorem dX7_readsWord_75 : decode cX7_readsWord 75 = .ok (.aload_n 0, 1) := by decide +kernel
theorem dX7_readsWord_76 : decode cX7_readsWord 76 = .ok (.getfield 81, 3) := by decide +kernel
theorem dX7_readsWord_79 : decode cX7_readsWord 79 = .ok (.ifCond .le 4, 3) := by decide +kernel
theorem dX7_readsWord_82 : decode cX7_readsWord 82 = .ok (.return_, 1) := by decide +kernel
theorem dX7_readsWord_83 : decode cX7_readsWord 83 = .ok (.bipush 25, 2) := by decide +kernel
theorem dX7_readsWord_85 : decode cX7_readsWord 85 = .ok (.bipush 7, 2) := by decide +kernel
theorem dX7_readsWord_87 : decode cX7_readsWord 87 = .ok (.aload_n 0, 1) := by decide +kernel
theorem dX7_readsWord_88 : decode cX7_readsWord 88 = .ok (.invokevirtual 145, 3) := by decide +kernel
theorem dX7_readsWord_91 : decode cX7_readsWord 91 = .ok (.imul, 1) := by decide +kernel
theorem dX7_readsWord_92 : decode cX7_readsWord 92 = .ok (.iadd, 1) := by decide +kernel
theorem dX7_readsWord_93 : decode cX7_readsWord 93 = .ok (.istore_n 2, 1) := by decide +kernel
theorem dX7_readsWord_94 : decode cX7_readsWord 94 = .ok (.aload_n 0, 1) := by decide +kernel
theorem dX7_readsWord_95 : decode cX7_readsWord 95 = .ok (.getfield 13, 3) := by decide +kernel
theorem dX7_readsWord_98 : decode cX7_readsWord 98 = .ok (.iload_n 2, 1) := by decide +kernel
theorem dX7_readsWord_99 : decode cX7_readsWord 99 = .ok (.aload_n 0, 1) := by decide +kernel
theorem dX7_readsWord_100 : decode cX7_readsWord 100 = .ok (.getfield 90, 3) := by decide +kernel
theorem dX7_readsWord_103 : decode cX7_readsWord 103 = .ok (.aload_n 0, 1) := by decide +kernel
theorem dX7_readsWord_104 : decode cX7_readsWord 104 = .ok (.getfield 84, 3) := by decide +kernel
theorem dX7_readsWord_107 : decode cX7_readsWord 107 = .ok (.isub, 1) := by decide +kernel
theorem dX7_readsWord_108 : decode cX7_readsWord 108 = .ok (.iastore, 1) := by decide +kernel
theorem dX7_readsWord_109 : decode cX7_readsWord 109 = .ok (.iconst 0, 1) := by decide +kernel
theorem dX7_readsWord_110 : decode cX7_readsWord 110 = .ok (.istore_n 3, 1) := by decide +kernel
theorem dX7_readsWord_111 : decode cX7_readsWord 111 = .ok (.iload_n 3, 1) := by decide +kernel
theorem dX7_readsWord_112 : decode cX7_readsWord 112 = .ok (.bipush 6, 2) := by decide +kernel
theorem dX7_readsWord_114 : decode cX7_readsWord 114 = .ok (.if_icmp .ge 51, 3) := by decide +kernel
theorem dX7_readsWord_117 : decode cX7_readsWord 117 = .ok (.aload_n 0, 1) := by decide +kernel
theorem dX7_readsWord_118 : decode cX7_readsWord 118 = .ok (.getfield 13, 3) := by decide +kernel
theorem dX7_readsWord_121 : decode cX7_readsWord 121 = .ok (.iload_n 2, 1) := by decide +kernel
theorem dX7_readsWord_122 : decode cX7_readsWord 122 = .ok (.iconst 1, 1) := by decide +kernel
theorem dX7_readsWord_123 : decode cX7_readsWord 123 = .ok (.iadd, 1) := by decide +kernel
theorem dX7_readsWord_124 : decode cX7_readsWord 124 = .ok (.iload_n 3, 1) := by decide +kernel
theorem dX7_readsWord_125 : decode cX7_readsWord 125 = .ok (.iadd, 1) := by decide +kernel
theorem dX7_readsWord_126 : decode cX7_readsWord 126 = .ok (.iload_n 3, 1) := by decide +kernel
theorem dX7_readsWord_127 : decode cX7_readsWord 127 = .ok (.aload_n 0, 1) := by decide +kernel
theorem dX7_readsWord_128 : decode cX7_readsWord 128 = .ok (.getfield 90, 3) := by decide +kernel
theorem dX7_readsWord_131 : decode cX7_readsWord 131 = .ok (.aload_n 0, 1) := by decide +kernel
theorem dX7_readsWord_132 : decode cX7_readsWord 132 = .ok (.getfield 84, 3) := by decide +kernel
theorem dX7_readsWord_135 : decode cX7_readsWord 135 = .ok (.isub, 1) := by decide +kernel
theorem dX7_readsWord_136 : decode cX7_readsWord 136 = .ok (.if_icmp .ge 21, 3) := by decide +kernel
theorem dX7_readsWord_139 : decode cX7_readsWord 139 = .ok (.aload_n 0, 1) := by decide +kernel
theorem dX7_readsWord_140 : decode cX7_readsWord 140 = .ok (.aload_n 0, 1) := by decide +kernel
theorem dX7_readsWord_141 : decode cX7_readsWord 141 = .ok (.getfield 84, 3) := by decide +kernel
theorem dX7_readsWord_144 : decode cX7_readsWord 144 = .ok (.iload_n 3, 1) := by decide +kernel
theorem dX7_readsWord_145 : decode cX7_readsWord 145 = .ok (.iadd, 1) := by decide +kernel
theorem dX7_readsWord_146 : decode cX7_readsWord 146 = .ok (.invokevirtual 93, 3) := by decide +kernel
theorem dX7_readsWord_149 : decode cX7_readsWord 149 = .ok (.bipush 97, 2) := by decide +kernel
theorem dX7_readsWord_151 : decode cX7_readsWord 151 = .ok (.isub, 1) := by decide +kernel
theorem dX7_readsWord_152 : decode cX7_readsWord 152 = .ok (.iconst 1, 1) := by decide +kernel
theorem dX7_readsWord_153 : decode cX7_readsWord 153 = .ok (.iadd, 1) := by decide +kernel
theorem dX7_readsWord_154 : decode cX7_readsWord 154 = .ok (.goto 4, 3) := by decide +kernel
theorem dX7_readsWord_157 : decode cX7_readsWord 157 = .ok (.iconst 0, 1) := by decide +kernel
theorem dX7_readsWord_158 : decode cX7_readsWord 158 = .ok (.iastore, 1) := by decide +kernel
theorem dX7_readsWord_159 : decode cX7_readsWord 159 = .ok (.iinc 3 1, 3) := by decide +kernel
theorem dX7_readsWord_162 : decode cX7_readsWord 162 = .ok (.goto (-51), 3) := by decide +kernel
theorem dX7_readsWord_165 : decode cX7_readsWord 165 = .ok (.aload_n 0, 1) := by decide +kernel
theorem dX7_readsWord_166 : decode cX7_readsWord 166 = .ok (.getfield 13, 3) := by decide +kernel
theorem dX7_readsWord_169 : decode cX7_readsWord 169 = .ok (.iconst 1, 1) := by decide +kernel
theorem dX7_readsWord_170 : decode cX7_readsWord 170 = .ok (.iconst 3, 1) := by decide +kernel
theorem dX7_readsWord_171 : decode cX7_readsWord 171 = .ok (.iload_n 1, 1) := by decide +kernel
theorem dX7_readsWord_172 : decode cX7_readsWord 172 = .ok (.imul, 1) := by decide +kernel
theorem dX7_readsWord_173 : decode cX7_readsWord 173 = .ok (.iadd, 1) := by decide +kernel
theorem dX7_readsWord_174 : decode cX7_readsWord 174 = .ok (.iconst 2, 1) := by decide +kernel
theorem dX7_readsWord_175 : decode cX7_readsWord 175 = .ok (.iadd, 1) := by decide +kernel
theorem dX7_readsWord_176 : decode cX7_readsWord 176 = .ok (.dup2, 1) := by decide +kernel
theorem dX7_readsWord_177 : decode cX7_readsWord 177 = .ok (.iaload, 1) := by decide +kernel
theorem dX7_readsWord_178 : decode cX7_readsWord 178 = .ok (.iconst 1, 1) := by decide +kernel
theorem dX7_readsWord_179 : decode cX7_readsWord 179 = .ok (.iadd, 1) := by decide +kernel
theorem dX7_readsWord_180 : decode cX7_readsWord 180 = .ok (.iastore, 1) := by decide +kernel
theorem dX7_readsWord_181 : decode cX7_readsWord 181 = .ok (.aload_n 0, 1) := by decide +kernel
theorem dX7_readsWord_182 : decode cX7_readsWord 182 = .ok (.invokevirtual 115, 3) := by decide +kernel
theorem dX7_readsWord_185 : decode cX7_readsWord 185 = .ok (.return_, 1) := by decide +kernel
theorem dX7_readsPar_0 : decode cX7_readsPar 0 = .ok (.aload_n 0, 1) := by decide +kernel
theorem dX7_readsPar_1 : decode cX7_readsPar 1 = .ok (.getfield 13, 3) := by decide +kernel
theorem dX7_readsPar_4 : decode cX7_readsPar 4 = .ok (.iconst 0, 1) := by decide +kernel
theorem dX7_readsPar_5 : decode cX7_readsPar 5 = .ok (.iaload, 1) := by decide +kernel
theorem dX7_readsPar_6 : decode cX7_readsPar 6 = .ok (.istore_n 1, 1) := by decide +kernel
theorem dX7_readsPar_7 : decode cX7_readsPar 7 = .ok (.aload_n 0, 1) := by decide +kernel
theorem dX7_readsPar_8 : decode cX7_readsPar 8 = .ok (.getfield 13, 3) := by decide +kernel
theorem dX7_readsPar_11 : decode cX7_readsPar 11 = .ok (.iconst 1, 1) := by decide +kernel
theorem dX7_readsPar_12 : decode cX7_readsPar 12 = .ok (.iconst 3, 1) := by decide +kernel
theorem dX7_readsPar_13 : decode cX7_readsPar 13 = .ok (.iload_n 1, 1) := by decide +kernel
theorem dX7_readsPar_14 : decode cX7_readsPar 14 = .ok (.imul, 1) := by decide +kernel
theorem dX7_readsPar_15 : decode cX7_readsPar 15 = .ok (.iadd, 1) := by decide +kernel
theorem dX7_readsPar_16 : decode cX7_readsPar 16 = .ok (.bipush (-4), 2) := by decide +kernel
theorem dX7_readsPar_18 : decode cX7_readsPar 18 = .ok (.iastore, 1) := by decide +kernel
theorem dX7_readsPar_19 : decode cX7_readsPar 19 = .ok (.aload_n 0, 1) := by decide +kernel
theorem dX7_readsPar_20 : decode cX7_readsPar 20 = .ok (.getfield 13, 3) := by decide +kernel
theorem dX7_readsPar_23 : decode cX7_readsPar 23 = .ok (.iconst 1, 1) := by decide +kernel
theorem dX7_readsPar_24 : decode cX7_readsPar 24 = .ok (.iconst 3, 1) := by decide +kernel
theorem dX7_readsPar_25 : decode cX7_readsPar 25 = .ok (.iload_n 1, 1) := by decide +kernel
theorem dX7_readsPar_26 : decode cX7_readsPar 26 = .ok (.imul, 1) := by decide +kernel
theorem dX7_readsPar_27 : decode cX7_readsPar 27 = .ok (.iadd, 1) := by decide +kernel
theorem dX7_readsPar_28 : decode cX7_readsPar 28 = .ok (.iconst 1, 1) := by decide +kernel
theorem dX7_readsPar_29 : decode cX7_readsPar 29 = .ok (.iadd, 1) := by decide +kernel
theorem dX7_readsPar_30 : decode cX7_readsPar 30 = .ok (.iconst 0, 1) := by decide +kernel
theorem dX7_readsPar_31 : decode cX7_readsPar 31 = .ok (.iastore, 1) := by decide +kernel
theorem dX7_readsPar_32 : decode cX7_readsPar 32 = .ok (.aload_n 0, 1) := by decide +kernel
theorem dX7_readsPar_33 : decode cX7_readsPar 33 = .ok (.getfield 13, 3) := by decide +kernel
theorem dX7_readsPar_36 : decode cX7_readsPar 36 = .ok (.iconst 1, 1) := by decide +kernel
theorem dX7_readsPar_37 : decode cX7_readsPar 37 = .ok (.iconst 3, 1) := by decide +kernel
theorem dX7_readsPar_38 : decode cX7_readsPar 38 = .ok (.iload_n 1, 1) := by decide +kernel
theorem dX7_readsPar_39 : decode cX7_readsPar 39 = .ok (.imul, 1) := by decide +kernel
theorem dX7_readsPar_40 : decode cX7_readsPar 40 = .ok (.iadd, 1) := by decide +kernel
theorem dX7_readsPar_41 : decode cX7_readsPar 41 = .ok (.iconst 2, 1) := by decide +kernel
theorem dX7_readsPar_42 : decode cX7_readsPar 42 = .ok (.iadd, 1) := by decide +kernel
theorem dX7_readsPar_43 : decode cX7_readsPar 43 = .ok (.iconst 0, 1) := by decide +kernel
theorem dX7_readsPar_44 : decode cX7_readsPar 44 = .ok (.iastore, 1) := by decide +kernel
theorem dX7_readsPar_45 : decode cX7_readsPar 45 = .ok (.aload_n 0, 1) := by decide +kernel
theorem dX7_readsPar_46 : decode cX7_readsPar 46 = .ok (.getfield 100, 3) := by decide +kernel
theorem dX7_readsPar_49 : decode cX7_readsPar 49 = .ok (.iconst 1, 1) := by decide +kernel
theorem dX7_readsPar_50 : decode cX7_readsPar 50 = .ok (.if_icmp .ne 89, 3) := by decide +kernel
theorem dX7_readsPar_53 : decode cX7_readsPar 53 = .ok (.aload_n 0, 1) := by decide +kernel
theorem dX7_readsPar_54 : decode cX7_readsPar 54 = .ok (.invokevirtual 134, 3) := by decide +kernel
theorem dX7_readsPar_57 : decode cX7_readsPar 57 = .ok (.ifCond .eq 19, 3) := by decide +kernel
theorem dX7_readsPar_60 : decode cX7_readsPar 60 = .ok (.aload_n 0, 1) := by decide +kernel
theorem dX7_readsPar_61 : decode cX7_readsPar 61 = .ok (.aload_n 0, 1) := by decide +kernel
theorem dX7_readsPar_62 : decode cX7_readsPar 62 = .ok (.getfield 97, 3) := by decide +kernel
theorem dX7_readsPar_65 : decode cX7_readsPar 65 = .ok (.bipush 97, 2) := by decide +kernel
theorem dX7_readsPar_67 : decode cX7_readsPar 67 = .ok (.isub, 1) := by decide +kernel
theorem dX7_readsPar_68 : decode cX7_readsPar 68 = .ok (.iconst 1, 1) := by decide +kernel
theorem dX7_readsPar_69 : decode cX7_readsPar 69 = .ok (.iadd, 1) := by decide +kernel
theorem dX7_readsPar_70 : decode cX7_readsPar 70 = .ok (.invokevirtual 138, 3) := by decide +kernel
theorem dX7_readsPar_73 : decode cX7_readsPar 73 = .ok (.goto 5, 3) := by decide +kernel
theorem dX7_readsPar_76 : decode cX7_readsPar 76 = .ok (.bipush (-4), 2) := by decide +kernel
theorem dX7_readsPar_78 : decode cX7_readsPar 78 = .ok (.istore_n 2, 1) := by decide +kernel
theorem dX7_readsPar_79 : decode cX7_readsPar 79 = .ok (.aload_n 0, 1) := by decide +kernel
theorem dX7_readsPar_80 : decode cX7_readsPar 80 = .ok (.iload_n 2, 1) := by decide +kernel
theorem dX7_readsPar_81 : decode cX7_readsPar 81 = .ok (.bipush (-4), 2) := by decide +kernel
theorem dX7_readsPar_83 : decode cX7_readsPar 83 = .ok (.if_icmp .eq 7, 3) := by decide +kernel
theorem dX7_readsPar_86 : decode cX7_readsPar 86 = .ok (.iconst 1, 1) := by decide +kernel
theorem dX7_readsPar_87 : decode cX7_readsPar 87 = .ok (.goto 4, 3) := by decide +kernel
theorem dX7_readsPar_90 : decode cX7_readsPar 90 = .ok (.iconst 0, 1) := by decide +kernel
theorem dX7_readsPar_91 : decode cX7_readsPar 91 = .ok (.iconst 2, 1) := by decide +kernel
theorem dX7_readsPar_92 : decode cX7_readsPar 92 = .ok (.invokevirtual 111, 3) := by decide +kernel
theorem dX7_readsPar_95 : decode cX7_readsPar 95 = .ok (.aload_n 0, 1) := by decide +kernel
theorem dX7_readsPar_96 : decode cX7_readsPar 96 = .ok (.invokevirtual 115, 3) := by decide +kernel
theorem dX7_readsPar_99 : decode cX7_readsPar 99 = .ok (.aload_n 0, 1) := by decide +kernel
theorem dX7_readsPar_100 : decode cX7_readsPar 100 = .ok (.getfield 13, 3) := by decide +kernel
theorem dX7_readsPar_103 : decode cX7_readsPar 103 = .ok (.iconst 1, 1) := by decide +kernel
theorem dX7_readsPar_104 : decode cX7_readsPar 104 = .ok (.iconst 3, 1) := by decide +kernel
theorem dX7_readsPar_105 : decode cX7_readsPar 105 = .ok (.iload_n 1, 1) := by decide +kernel
theorem dX7_readsPar_106 : decode cX7_readsPar 106 = .ok (.imul, 1) := by decide +kernel
theorem dX7_readsPar_107 : decode cX7_readsPar 107 = .ok (.iadd, 1) := by decide +kernel
theorem dX7_readsPar_108 : decode cX7_readsPar 108 = .ok (.iload_n 2, 1) := by decide +kernel
theorem dX7_readsPar_109 : decode cX7_readsPar 109 = .ok (.iastore, 1) := by decide +kernel
theorem dX7_readsPar_110 : decode cX7_readsPar 110 = .ok (.aload_n 0, 1) := by decide +kernel
theorem dX7_readsPar_111 : decode cX7_readsPar 111 = .ok (.getfield 13, 3) := by decide +kernel
theorem dX7_readsPar_114 : decode cX7_readsPar 114 = .ok (.iconst 1, 1) := by decide +kernel
theorem dX7_readsPar_115 : decode cX7_readsPar 115 = .ok (.iconst 3, 1) := by decide +kernel
theorem dX7_readsPar_116 : decode cX7_readsPar 116 = .ok (.iload_n 1, 1) := by decide +kernel
theorem dX7_readsPar_117 : decode cX7_readsPar 117 = .ok (.imul, 1) := by decide +kernel
theorem dX7_readsPar_118 : decode cX7_readsPar 118 = .ok (.iadd, 1) := by decide +kernel
theorem dX7_readsPar_119 : decode cX7_readsPar 119 = .ok (.iconst 1, 1) := by decide +kernel
theorem dX7_readsPar_120 : decode cX7_readsPar 120 = .ok (.iadd, 1) := by decide +kernel
theorem dX7_readsPar_121 : decode cX7_readsPar 121 = .ok (.aload_n 0, 1) := by decide +kernel
theorem dX7_readsPar_122 : decode cX7_readsPar 122 = .ok (.getfield 81, 3) := by decide +kernel
theorem dX7_readsPar_125 : decode cX7_readsPar 125 = .ok (.ifCond .le 7, 3) := by decide +kernel
theorem dX7_readsPar_128 : decode cX7_readsPar 128 = .ok (.iconst 0, 1) := by decide +kernel
theorem dX7_readsPar_129 : decode cX7_readsPar 129 = .ok (.goto 9, 3) := by decide +kernel
theorem dX7_readsPar_132 : decode cX7_readsPar 132 = .ok (.aload_n 0, 1) := by decide +kernel
theorem dX7_readsPar_133 : decode cX7_readsPar 133 = .ok (.iconst 2, 1) := by decide +kernel
theorem dX7_readsPar_134 : decode cX7_readsPar 134 = .ok (.iconst 5, 1) := by decide +kernel
theorem dX7_readsPar_135 : decode cX7_readsPar 135 = .ok (.invokevirtual 128, 3) := by decide +kernel
theorem dX7_readsPar_138 : decode cX7_readsPar 138 = .ok (.iastore, 1) := by decide +kernel
theorem dX7_readsPar_139 : decode cX7_readsPar 139 = .ok (.aload_n 0, 1) := by decide +kernel
theorem dX7_readsPar_140 : decode cX7_readsPar 140 = .ok (.aload_n 0, 1) := by decide +kernel
theorem dX7_readsPar_141 : decode cX7_readsPar 141 = .ok (.getfield 81, 3) := by decide +kernel
theorem dX7_readsPar_144 : decode cX7_readsPar 144 = .ok (.ifCond .gt 12, 3) := by decide +kernel
theorem dX7_readsPar_147 : decode cX7_readsPar 147 = .ok (.aload_n 0, 1) := by decide +kernel
theorem dX7_readsPar_148 : decode cX7_readsPar 148 = .ok (.bipush 58, 2) := by decide +kernel
theorem dX7_readsPar_150 : decode cX7_readsPar 150 = .ok (.invokevirtual 149, 3) := by decide +kernel
theorem dX7_readsPar_153 : decode cX7_readsPar 153 = .ok (.ifCond .eq 7, 3) := by decide +kernel
theorem dX7_readsPar_156 : decode cX7_readsPar 156 = .ok (.iconst 1, 1) := by decide +kernel
theorem dX7_readsPar_157 : decode cX7_readsPar 157 = .ok (.goto 4, 3) := by decide +kernel
theorem dX7_readsPar_160 : decode cX7_readsPar 160 = .ok (.iconst 0, 1) := by decide +kernel
theorem dX7_readsPar_161 : decode cX7_readsPar 161 = .ok (.iconst 2, 1) := by decide +kernel
theorem dX7_readsPar_162 : decode cX7_readsPar 162 = .ok (.invokevirtual 111, 3) := by decide +kernel
theorem dX7_readsPar_165 : decode cX7_readsPar 165 = .ok (.aload_n 0, 1) := by decide +kernel
theorem dX7_readsPar_166 : decode cX7_readsPar 166 = .ok (.invokevirtual 115, 3) := by decide +kernel
theorem dX7_readsPar_169 : decode cX7_readsPar 169 = .ok (.aload_n 0, 1) := by decide +kernel
theorem dX7_readsPar_170 : decode cX7_readsPar 170 = .ok (.getfield 13, 3) := by decide +kernel
theorem dX7_readsPar_173 : decode cX7_readsPar 173 = .ok (.iconst 0, 1) := by decide +kernel
theorem dX7_readsPar_174 : decode cX7_readsPar 174 = .ok (.dup2, 1) := by decide +kernel
theorem dX7_readsPar_175 : decode cX7_readsPar 175 = .ok (.iaload, 1) := by decide +kernel
theorem dX7_readsPar_176 : decode cX7_readsPar 176 = .ok (.iconst 1, 1) := by decide +kernel
theorem dX7_readsPar_177 : decode cX7_readsPar 177 = .ok (.iadd, 1) := by decide +kernel
theorem dX7_readsPar_178 : decode cX7_readsPar 178 = .ok (.iastore, 1) := by decide +kernel
theorem dX7_readsPar_179 : decode cX7_readsPar 179 = .ok (.aload_n 0, 1) := by decide +kernel
theorem dX7_readsPar_180 : decode cX7_readsPar 180 = .ok (.getfield 81, 3) := by decide +kernel
theorem dX7_readsPar_183 : decode cX7_readsPar 183 = .ok (.ifCond .ne 7, 3) := by decide +kernel
theorem dX7_readsPar_186 : decode cX7_readsPar 186 = .ok (.iconst 1, 1) := by decide +kernel
theorem dX7_readsPar_187 : decode cX7_readsPar 187 = .ok (.goto 4, 3) := by decide +kernel
theorem dX7_readsPar_190 : decode cX7_readsPar 190 = .ok (.iconst 0, 1) := by decide +kernel
theorem dX7_readsPar_191 : decode cX7_readsPar 191 = .ok (.istore_n 2, 1) := by decide +kernel
theorem dX7_readsPar_192 : decode cX7_readsPar 192 = .ok (.iload_n 2, 1) := by decide +kernel
theorem dX7_readsPar_193 : decode cX7_readsPar 193 = .ok (.ifCond .eq 32, 3) := by decide +kernel
theorem dX7_readsPar_196 : decode cX7_readsPar 196 = .ok (.aload_n 0, 1) := by decide +kernel
theorem dX7_readsPar_197 : decode cX7_readsPar 197 = .ok (.iload_n 1, 1) := by decide +kernel
theorem dX7_readsPar_198 : decode cX7_readsPar 198 = .ok (.invokevirtual 153, 3) := by decide +kernel
theorem dX7_readsPar_201 : decode cX7_readsPar 201 = .ok (.aload_n 0, 1) := by decide +kernel
theorem dX7_readsPar_202 : decode cX7_readsPar 202 = .ok (.getfield 81, 3) := by decide +kernel
theorem dX7_readsPar_205 : decode cX7_readsPar 205 = .ok (.ifCond .ne 15, 3) := by decide +kernel
theorem dX7_readsPar_208 : decode cX7_readsPar 208 = .ok (.aload_n 0, 1) := by decide +kernel
theorem dX7_readsPar_209 : decode cX7_readsPar 209 = .ok (.getfield 100, 3) := by decide +kernel
theorem dX7_readsPar_212 : decode cX7_readsPar 212 = .ok (.iconst 1, 1) := by decide +kernel
theorem dX7_readsPar_213 : decode cX7_readsPar 213 = .ok (.if_icmp .ne 7, 3) := by decide +kernel
theorem dX7_readsPar_216 : decode cX7_readsPar 216 = .ok (.iconst 1, 1) := by decide +kernel
theorem dX7_readsPar_217 : decode cX7_readsPar 217 = .ok (.goto 4, 3) := by decide +kernel
theorem dX7_readsPar_220 : decode cX7_readsPar 220 = .ok (.iconst 0, 1) := by decide +kernel
theorem dX7_readsPar_221 : decode cX7_readsPar 221 = .ok (.istore_n 2, 1) := by decide +kernel
theorem dX7_readsPar_222 : decode cX7_readsPar 222 = .ok (.goto (-30), 3) := by decide +kernel
theorem dX7_readsPar_225 : decode cX7_readsPar 225 = .ok (.return_, 1) := by decide +kernel
theorem dX7_readsLine_0 : decode cX7_readsLine 0 = .ok (.aload_n 0, 1) := by decide +kernel
theorem dX7_readsLine_1 : decode cX7_readsLine 1 = .ok (.iconst 0, 1) := by decide +kernel
theorem dX7_readsLine_2 : decode cX7_readsLine 2 = .ok (.iconst 3, 1) := by decide +kernel
theorem dX7_readsLine_3 : decode cX7_readsLine 3 = .ok (.invokevirtual 118, 3) := by decide +kernel
theorem dX7_readsLine_6 : decode cX7_readsLine 6 = .ok (.istore_n 1, 1) := by decide +kernel
theorem dX7_readsLine_7 : decode cX7_readsLine 7 = .ok (.aload_n 0, 1) := by decide +kernel
theorem dX7_readsLine_8 : decode cX7_readsLine 8 = .ok (.iload_n 1, 1) := by decide +kernel
theorem dX7_readsLine_9 : decode cX7_readsLine 9 = .ok (.bipush (-4), 2) := by decide +kernel
theorem dX7_readsLine_11 : decode cX7_readsLine 11 = .ok (.if_icmp .eq 7, 3) := by decide +kernel
theorem dX7_readsLine_14 : decode cX7_readsLine 14 = .ok (.iconst 1, 1) := by decide +kernel
theorem dX7_readsLine_15 : decode cX7_readsLine 15 = .ok (.goto 4, 3) := by decide +kernel
theorem dX7_readsLine_18 : decode cX7_readsLine 18 = .ok (.iconst 0, 1) := by decide +kernel
theorem dX7_readsLine_19 : decode cX7_readsLine 19 = .ok (.iconst 2, 1) := by decide +kernel
theorem dX7_readsLine_20 : decode cX7_readsLine 20 = .ok (.invokevirtual 111, 3) := by decide +kernel
theorem dX7_readsLine_23 : decode cX7_readsLine 23 = .ok (.aload_n 0, 1) := by decide +kernel
theorem dX7_readsLine_24 : decode cX7_readsLine 24 = .ok (.aload_n 0, 1) := by decide +kernel
theorem dX7_readsLine_25 : decode cX7_readsLine 25 = .ok (.getfield 81, 3) := by decide +kernel
theorem dX7_readsLine_28 : decode cX7_readsLine 28 = .ok (.ifCond .gt 17, 3) := by decide +kernel
theorem dX7_readsLine_31 : decode cX7_readsLine 31 = .ok (.iload_n 1, 1) := by decide +kernel
theorem dX7_readsLine_32 : decode cX7_readsLine 32 = .ok (.iconst 1, 1) := by decide +kernel
theorem dX7_readsLine_33 : decode cX7_readsLine 33 = .ok (.if_icmp .ne 12, 3) := by decide +kernel
theorem dX7_readsLine_36 : decode cX7_readsLine 36 = .ok (.aload_n 0, 1) := by decide +kernel
theorem dX7_readsLine_37 : decode cX7_readsLine 37 = .ok (.getfield 131, 3) := by decide +kernel
theorem dX7_readsLine_40 : decode cX7_readsLine 40 = .ok (.bipush 6, 2) := by decide +kernel
theorem dX7_readsLine_42 : decode cX7_readsLine 42 = .ok (.if_icmp .ge 7, 3) := by decide +kernel
theorem dX7_readsLine_45 : decode cX7_readsLine 45 = .ok (.iconst 1, 1) := by decide +kernel
theorem dX7_readsLine_46 : decode cX7_readsLine 46 = .ok (.goto 4, 3) := by decide +kernel
theorem dX7_readsLine_49 : decode cX7_readsLine 49 = .ok (.iconst 0, 1) := by decide +kernel
theorem dX7_readsLine_50 : decode cX7_readsLine 50 = .ok (.iconst 5, 1) := by decide +kernel
theorem dX7_readsLine_51 : decode cX7_readsLine 51 = .ok (.invokevirtual 111, 3) := by decide +kernel
theorem dX7_readsLine_54 : decode cX7_readsLine 54 = .ok (.aload_n 0, 1) := by decide +kernel
theorem dX7_readsLine_55 : decode cX7_readsLine 55 = .ok (.aload_n 0, 1) := by decide +kernel
theorem dX7_readsLine_56 : decode cX7_readsLine 56 = .ok (.getfield 81, 3) := by decide +kernel
theorem dX7_readsLine_59 : decode cX7_readsLine 59 = .ok (.ifCond .gt 19, 3) := by decide +kernel
theorem dX7_readsLine_62 : decode cX7_readsLine 62 = .ok (.iload_n 1, 1) := by decide +kernel
theorem dX7_readsLine_63 : decode cX7_readsLine 63 = .ok (.iconst 2, 1) := by decide +kernel
theorem dX7_readsLine_64 : decode cX7_readsLine 64 = .ok (.if_icmp .ne 14, 3) := by decide +kernel
theorem dX7_readsLine_67 : decode cX7_readsLine 67 = .ok (.aload_n 0, 1) := by decide +kernel
theorem dX7_readsLine_68 : decode cX7_readsLine 68 = .ok (.getfield 13, 3) := by decide +kernel
theorem dX7_readsLine_71 : decode cX7_readsLine 71 = .ok (.iconst 0, 1) := by decide +kernel
theorem dX7_readsLine_72 : decode cX7_readsLine 72 = .ok (.iaload, 1) := by decide +kernel
theorem dX7_readsLine_73 : decode cX7_readsLine 73 = .ok (.bipush 8, 2) := by decide +kernel
theorem dX7_readsLine_75 : decode cX7_readsLine 75 = .ok (.if_icmp .ge 7, 3) := by decide +kernel
theorem dX7_readsLine_78 : decode cX7_readsLine 78 = .ok (.iconst 1, 1) := by decide +kernel
theorem dX7_readsLine_79 : decode cX7_readsLine 79 = .ok (.goto 4, 3) := by decide +kernel
theorem dX7_readsLine_82 : decode cX7_readsLine 82 = .ok (.iconst 0, 1) := by decide +kernel
theorem dX7_readsLine_83 : decode cX7_readsLine 83 = .ok (.iconst 5, 1) := by decide +kernel
theorem dX7_readsLine_84 : decode cX7_readsLine 84 = .ok (.invokevirtual 111, 3) := by decide +kernel
theorem dX7_readsLine_87 : decode cX7_readsLine 87 = .ok (.aload_n 0, 1) := by decide +kernel
theorem dX7_readsLine_88 : decode cX7_readsLine 88 = .ok (.invokevirtual 115, 3) := by decide +kernel
theorem dX7_readsLine_91 : decode cX7_readsLine 91 = .ok (.aload_n 0, 1) := by decide +kernel
theorem dX7_readsLine_92 : decode cX7_readsLine 92 = .ok (.getfield 81, 3) := by decide +kernel
theorem dX7_readsLine_95 : decode cX7_readsLine 95 = .ok (.ifCond .le 4, 3) := by decide +kernel
theorem dX7_readsLine_98 : decode cX7_readsLine 98 = .ok (.return_, 1) := by decide +kernel
theorem dX7_readsLine_99 : decode cX7_readsLine 99 = .ok (.iload_n 1, 1) := by decide +kernel
theorem dX7_readsLine_100 : decode cX7_readsLine 100 = .ok (.ifCond .ne 10, 3) := by decide +kernel
theorem dX7_readsLine_103 : decode cX7_readsLine 103 = .ok (.aload_n 0, 1) := by decide +kernel
theorem dX7_readsLine_104 : decode cX7_readsLine 104 = .ok (.invokevirtual 156, 3) := by decide +kernel
theorem dX7_readsLine_107 : decode cX7_readsLine 107 = .ok (.goto 19, 3) := by decide +kernel
theorem dX7_readsLine_110 : decode cX7_readsLine 110 = .ok (.iload_n 1, 1) := by decide +kernel
theorem dX7_readsLine_111 : decode cX7_readsLine 111 = .ok (.iconst 1, 1) := by decide +kernel
theorem dX7_readsLine_112 : decode cX7_readsLine 112 = .ok (.if_icmp .ne 10, 3) := by decide +kernel
theorem dX7_readsLine_115 : decode cX7_readsLine 115 = .ok (.aload_n 0, 1) := by decide +kernel
theorem dX7_readsLine_116 : decode cX7_readsLine 116 = .ok (.invokevirtual 159, 3) := by decide +kernel
theorem dX7_readsLine_119 : decode cX7_readsLine 119 = .ok (.goto 7, 3) := by decide +kernel
theorem dX7_readsLine_122 : decode cX7_readsLine 122 = .ok (.aload_n 0, 1) := by decide +kernel
theorem dX7_readsLine_123 : decode cX7_readsLine 123 = .ok (.invokevirtual 162, 3) := by decide +kernel
theorem dX7_readsLine_126 : decode cX7_readsLine 126 = .ok (.aload_n 0, 1) := by decide +kernel
theorem dX7_readsLine_127 : decode cX7_readsLine 127 = .ok (.aload_n 0, 1) := by decide +kernel
theorem dX7_readsLine_128 : decode cX7_readsLine 128 = .ok (.getfield 81, 3) := by decide +kernel
theorem dX7_readsLine_131 : decode cX7_readsLine 131 = .ok (.ifCond .gt 12, 3) := by decide +kernel
theorem dX7_readsLine_134 : decode cX7_readsLine 134 = .ok (.aload_n 0, 1) := by decide +kernel
theorem dX7_readsLine_135 : decode cX7_readsLine 135 = .ok (.bipush 59, 2) := by decide +kernel
theorem dX7_readsLine_137 : decode cX7_readsLine 137 = .ok (.invokevirtual 149, 3) := by decide +kernel
theorem dX7_readsLine_140 : decode cX7_readsLine 140 = .ok (.ifCond .eq 7, 3) := by decide +kernel
theorem dX7_readsLine_143 : decode cX7_readsLine 143 = .ok (.iconst 1, 1) := by decide +kernel
theorem dX7_readsLine_144 : decode cX7_readsLine 144 = .ok (.goto 4, 3) := by decide +kernel
theorem dX7_readsLine_147 : decode cX7_readsLine 147 = .ok (.iconst 0, 1) := by decide +kernel
theorem dX7_readsLine_148 : decode cX7_readsLine 148 = .ok (.iconst 2, 1) := by decide +kernel
theorem dX7_readsLine_149 : decode cX7_readsLine 149 = .ok (.invokevirtual 111, 3) := by decide +kernel
theorem dX7_readsLine_152 : decode cX7_readsLine 152 = .ok (.aload_n 0, 1) := by decide +kernel
theorem dX7_readsLine_153 : decode cX7_readsLine 153 = .ok (.invokevirtual 115, 3) := by decide +kernel
theorem dX7_readsLine_156 : decode cX7_readsLine 156 = .ok (.return_, 1) := by decide +kernel
theorem dX7_text_0 : decode cX7_text 0 = .ok (.aload_n 0, 1) := by decide +kernel
theorem dX7_text_1 : decode cX7_text 1 = .ok (.iconst 0, 1) := by decide +kernel
theorem dX7_text_2 : decode cX7_text 2 = .ok (.putfield 81, 3) := by decide +kernel
theorem dX7_text_5 : decode cX7_text 5 = .ok (.aload_n 0, 1) := by decide +kernel
theorem dX7_text_6 : decode cX7_text 6 = .ok (.iconst 0, 1) := by decide +kernel
theorem dX7_text_7 : decode cX7_text 7 = .ok (.putfield 90, 3) := by decide +kernel
theorem dX7_text_10 : decode cX7_text 10 = .ok (.aload_n 0, 1) := by decide +kernel
theorem dX7_text_11 : decode cX7_text 11 = .ok (.iconst 0, 1) := by decide +kernel
theorem dX7_text_12 : decode cX7_text 12 = .ok (.putfield 131, 3) := by decide +kernel
theorem dX7_text_15 : decode cX7_text 15 = .ok (.iconst 0, 1) := by decide +kernel
theorem dX7_text_16 : decode cX7_text 16 = .ok (.istore_n 1, 1) := by decide +kernel
theorem dX7_text_17 : decode cX7_text 17 = .ok (.iload_n 1, 1) := by decide +kernel
theorem dX7_text_18 : decode cX7_text 18 = .ok (.sipush 591, 3) := by decide +kernel
theorem dX7_text_21 : decode cX7_text 21 = .ok (.if_icmp .ge 32, 3) := by decide +kernel
theorem dX7_text_24 : decode cX7_text 24 = .ok (.aload_n 0, 1) := by decide +kernel
theorem dX7_text_25 : decode cX7_text 25 = .ok (.getfield 13, 3) := by decide +kernel
theorem dX7_text_28 : decode cX7_text 28 = .ok (.iload_n 1, 1) := by decide +kernel
theorem dX7_text_29 : decode cX7_text 29 = .ok (.iload_n 1, 1) := by decide +kernel
theorem dX7_text_30 : decode cX7_text 30 = .ok (.sipush 585, 3) := by decide +kernel
theorem dX7_text_33 : decode cX7_text 33 = .ok (.if_icmp .ge 7, 3) := by decide +kernel
theorem dX7_text_36 : decode cX7_text 36 = .ok (.iconst 0, 1) := by decide +kernel
theorem dX7_text_37 : decode cX7_text 37 = .ok (.goto 9, 3) := by decide +kernel
theorem dX7_text_40 : decode cX7_text 40 = .ok (.aload_n 0, 1) := by decide +kernel
theorem dX7_text_41 : decode cX7_text 41 = .ok (.getfield 7, 3) := by decide +kernel
theorem dX7_text_44 : decode cX7_text 44 = .ok (.iload_n 1, 1) := by decide +kernel
theorem dX7_text_45 : decode cX7_text 45 = .ok (.iaload, 1) := by decide +kernel
theorem dX7_text_46 : decode cX7_text 46 = .ok (.iastore, 1) := by decide +kernel
theorem dX7_text_47 : decode cX7_text 47 = .ok (.iinc 1 1, 3) := by decide +kernel
theorem dX7_text_50 : decode cX7_text 50 = .ok (.goto (-33), 3) := by decide +kernel
theorem dX7_text_53 : decode cX7_text 53 = .ok (.iconst 0, 1) := by decide +kernel
theorem dX7_text_54 : decode cX7_text 54 = .ok (.istore_n 1, 1) := by decide +kernel
theorem dX7_text_55 : decode cX7_text 55 = .ok (.iload_n 1, 1) := by decide +kernel
theorem dX7_text_56 : decode cX7_text 56 = .ok (.bipush 6, 2) := by decide +kernel
theorem dX7_text_58 : decode cX7_text 58 = .ok (.if_icmp .ge 16, 3) := by decide +kernel
theorem dX7_text_61 : decode cX7_text 61 = .ok (.aload_n 0, 1) := by decide +kernel
theorem dX7_text_62 : decode cX7_text 62 = .ok (.getfield 38, 3) := by decide +kernel
theorem dX7_text_65 : decode cX7_text 65 = .ok (.iload_n 1, 1) := by decide +kernel
theorem dX7_text_66 : decode cX7_text 66 = .ok (.iconst 0, 1) := by decide +kernel
theorem dX7_text_67 : decode cX7_text 67 = .ok (.bastore, 1) := by decide +kernel
theorem dX7_text_68 : decode cX7_text 68 = .ok (.iinc 1 1, 3) := by decide +kernel
theorem dX7_text_71 : decode cX7_text 71 = .ok (.goto (-16), 3) := by decide +kernel
theorem dX7_text_74 : decode cX7_text 74 = .ok (.iconst 0, 1) := by decide +kernel
theorem dX7_text_75 : decode cX7_text 75 = .ok (.istore_n 1, 1) := by decide +kernel
theorem dX7_text_76 : decode cX7_text 76 = .ok (.aload_n 0, 1) := by decide +kernel
theorem dX7_text_77 : decode cX7_text 77 = .ok (.invokevirtual 115, 3) := by decide +kernel
theorem dX7_text_80 : decode cX7_text 80 = .ok (.aload_n 0, 1) := by decide +kernel
theorem dX7_text_81 : decode cX7_text 81 = .ok (.getfield 81, 3) := by decide +kernel
theorem dX7_text_84 : decode cX7_text 84 = .ok (.ifCond .ne 20, 3) := by decide +kernel
theorem dX7_text_87 : decode cX7_text 87 = .ok (.aload_n 0, 1) := by decide +kernel
theorem dX7_text_88 : decode cX7_text 88 = .ok (.getfield 100, 3) := by decide +kernel
theorem dX7_text_91 : decode cX7_text 91 = .ok (.ifCond .eq 13, 3) := by decide +kernel
theorem dX7_text_94 : decode cX7_text 94 = .ok (.aload_n 0, 1) := by decide +kernel
theorem dX7_text_95 : decode cX7_text 95 = .ok (.invokevirtual 165, 3) := by decide +kernel
theorem dX7_text_98 : decode cX7_text 98 = .ok (.iinc 1 1, 3) := by decide +kernel
theorem dX7_text_101 : decode cX7_text 101 = .ok (.goto (-21), 3) := by decide +kernel
theorem dX7_text_104 : decode cX7_text 104 = .ok (.aload_n 0, 1) := by decide +kernel
theorem dX7_text_105 : decode cX7_text 105 = .ok (.iconst 0, 1) := by decide +kernel
theorem dX7_text_106 : decode cX7_text 106 = .ok (.putfield 77, 3) := by decide +kernel
theorem dX7_text_109 : decode cX7_text 109 = .ok (.aload_n 0, 1) := by decide +kernel
theorem dX7_text_110 : decode cX7_text 110 = .ok (.getfield 81, 3) := by decide +kernel
theorem dX7_text_113 : decode cX7_text 113 = .ok (.ifCond .le 11, 3) := by decide +kernel
theorem dX7_text_116 : decode cX7_text 116 = .ok (.bipush (-10), 2) := by decide +kernel
theorem dX7_text_118 : decode cX7_text 118 = .ok (.aload_n 0, 1) := by decide +kernel
theorem dX7_text_119 : decode cX7_text 119 = .ok (.getfield 87, 3) := by decide +kernel
theorem dX7_text_122 : decode cX7_text 122 = .ok (.isub, 1) := by decide +kernel
theorem dX7_text_123 : decode cX7_text 123 = .ok (.ireturn, 1) := by decide +kernel
theorem dX7_text_124 : decode cX7_text 124 = .ok (.iconst 0, 1) := by decide +kernel
theorem dX7_text_125 : decode cX7_text 125 = .ok (.istore_n 2, 1) := by decide +kernel
theorem dX7_text_126 : decode cX7_text 126 = .ok (.iload_n 2, 1) := by decide +kernel
theorem dX7_text_127 : decode cX7_text 127 = .ok (.sipush 591, 3) := by decide +kernel
theorem dX7_text_130 : decode cX7_text 130 = .ok (.if_icmp .ge 21, 3) := by decide +kernel
theorem dX7_text_133 : decode cX7_text 133 = .ok (.aload_n 0, 1) := by decide +kernel
theorem dX7_text_134 : decode cX7_text 134 = .ok (.getfield 7, 3) := by decide +kernel
theorem dX7_text_137 : decode cX7_text 137 = .ok (.iload_n 2, 1) := by decide +kernel
theorem dX7_text_138 : decode cX7_text 138 = .ok (.aload_n 0, 1) := by decide +kernel
theorem dX7_text_139 : decode cX7_text 139 = .ok (.getfield 13, 3) := by decide +kernel
theorem dX7_text_142 : decode cX7_text 142 = .ok (.iload_n 2, 1) := by decide +kernel
theorem dX7_text_143 : decode cX7_text 143 = .ok (.iaload, 1) := by decide +kernel
theorem dX7_text_144 : decode cX7_text 144 = .ok (.iastore, 1) := by decide +kernel
theorem dX7_text_145 : decode cX7_text 145 = .ok (.iinc 2 1, 3) := by decide +kernel
theorem dX7_text_148 : decode cX7_text 148 = .ok (.goto (-22), 3) := by decide +kernel
theorem dX7_text_151 : decode cX7_text 151 = .ok (.iconst 0, 1) := by decide +kernel
theorem dX7_text_152 : decode cX7_text 152 = .ok (.istore_n 2, 1) := by decide +kernel
theorem dX7_text_153 : decode cX7_text 153 = .ok (.iload_n 2, 1) := by decide +kernel
theorem dX7_text_154 : decode cX7_text 154 = .ok (.bipush 19, 2) := by decide +kernel
theorem dX7_text_156 : decode cX7_text 156 = .ok (.aload_n 0, 1) := by decide +kernel
theorem dX7_text_157 : decode cX7_text 157 = .ok (.getfield 131, 3) := by decide +kernel
theorem dX7_text_160 : decode cX7_text 160 = .ok (.imul, 1) := by decide +kernel
theorem dX7_text_161 : decode cX7_text 161 = .ok (.if_icmp .ge 21, 3) := by decide +kernel
theorem dX7_text_164 : decode cX7_text 164 = .ok (.aload_n 0, 1) := by decide +kernel
theorem dX7_text_165 : decode cX7_text 165 = .ok (.getfield 16, 3) := by decide +kernel
theorem dX7_text_168 : decode cX7_text 168 = .ok (.iload_n 2, 1) := by decide +kernel
theorem dX7_text_169 : decode cX7_text 169 = .ok (.aload_n 0, 1) := by decide +kernel
theorem dX7_text_170 : decode cX7_text 170 = .ok (.getfield 19, 3) := by decide +kernel
theorem dX7_text_173 : decode cX7_text 173 = .ok (.iload_n 2, 1) := by decide +kernel
theorem dX7_text_174 : decode cX7_text 174 = .ok (.iaload, 1) := by decide +kernel
theorem dX7_text_175 : decode cX7_text 175 = .ok (.iastore, 1) := by decide +kernel
theorem dX7_text_176 : decode cX7_text 176 = .ok (.iinc 2 1, 3) := by decide +kernel
theorem dX7_text_179 : decode cX7_text 179 = .ok (.goto (-26), 3) := by decide +kernel
theorem dX7_text_182 : decode cX7_text 182 = .ok (.aload_n 0, 1) := by decide +kernel
theorem dX7_text_183 : decode cX7_text 183 = .ok (.aload_n 0, 1) := by decide +kernel
theorem dX7_text_184 : decode cX7_text 184 = .ok (.getfield 131, 3) := by decide +kernel
theorem dX7_text_187 : decode cX7_text 187 = .ok (.putfield 168, 3) := by decide +kernel
theorem dX7_text_190 : decode cX7_text 190 = .ok (.aload_n 0, 1) := by decide +kernel
theorem dX7_text_191 : decode cX7_text 191 = .ok (.getfield 25, 3) := by decide +kernel
theorem dX7_text_194 : decode cX7_text 194 = .ok (.iconst 0, 1) := by decide +kernel
theorem dX7_text_195 : decode cX7_text 195 = .ok (.iconst 0, 1) := by decide +kernel
theorem dX7_text_196 : decode cX7_text 196 = .ok (.bastore, 1) := by decide +kernel
theorem dX7_text_197 : decode cX7_text 197 = .ok (.aload_n 0, 1) := by decide +kernel
theorem dX7_text_198 : decode cX7_text 198 = .ok (.getfield 25, 3) := by decide +kernel
theorem dX7_text_201 : decode cX7_text 201 = .ok (.iconst 1, 1) := by decide +kernel
theorem dX7_text_202 : decode cX7_text 202 = .ok (.iconst 0, 1) := by decide +kernel
theorem dX7_text_203 : decode cX7_text 203 = .ok (.bastore, 1) := by decide +kernel
theorem dX7_text_204 : decode cX7_text 204 = .ok (.iload_n 1, 1) := by decide +kernel
theorem dX7_text_205 : decode cX7_text 205 = .ok (.ireturn, 1) := by decide +kernel
theorem dX7_fault_0 : decode cX7_fault 0 = .ok (.aload_n 0, 1) := by decide +kernel
theorem dX7_fault_1 : decode cX7_fault 1 = .ok (.getfield 81, 3) := by decide +kernel
theorem dX7_fault_4 : decode cX7_fault 4 = .ok (.ireturn, 1) := by decide +kernel
theorem dX7_parShape_0 : decode cX7_parShape 0 = .ok (.aload_n 0, 1) := by decide +kernel
theorem dX7_parShape_1 : decode cX7_parShape 1 = .ok (.getfield 7, 3) := by decide +kernel
theorem dX7_parShape_4 : decode cX7_parShape 4 = .ok (.iconst 1, 1) := by decide +kernel
theorem dX7_parShape_5 : decode cX7_parShape 5 = .ok (.iconst 3, 1) := by decide +kernel
theorem dX7_parShape_6 : decode cX7_parShape 6 = .ok (.iload_n 1, 1) := by decide +kernel
theorem dX7_parShape_7 : decode cX7_parShape 7 = .ok (.imul, 1) := by decide +kernel
theorem dX7_parShape_8 : decode cX7_parShape 8 = .ok (.iadd, 1) := by decide +kernel
theorem dX7_parShape_9 : decode cX7_parShape 9 = .ok (.iaload, 1) := by decide +kernel
theorem dX7_parShape_10 : decode cX7_parShape 10 = .ok (.ireturn, 1) := by decide +kernel
theorem dX7_parDrop_0 : decode cX7_parDrop 0 = .ok (.aload_n 0, 1) := by decide +kernel
theorem dX7_parDrop_1 : decode cX7_parDrop 1 = .ok (.getfield 7, 3) := by decide +kernel
theorem dX7_parDrop_4 : decode cX7_parDrop 4 = .ok (.iconst 1, 1) := by decide +kernel
theorem dX7_parDrop_5 : decode cX7_parDrop 5 = .ok (.iconst 3, 1) := by decide +kernel
theorem dX7_parDrop_6 : decode cX7_parDrop 6 = .ok (.iload_n 1, 1) := by decide +kernel
theorem dX7_parDrop_7 : decode cX7_parDrop 7 = .ok (.imul, 1) := by decide +kernel
theorem dX7_parDrop_8 : decode cX7_parDrop 8 = .ok (.iadd, 1) := by decide +kernel
theorem dX7_parDrop_9 : decode cX7_parDrop 9 = .ok (.iconst 1, 1) := by decide +kernel
theorem dX7_parDrop_10 : decode cX7_parDrop 10 = .ok (.iadd, 1) := by decide +kernel
theorem dX7_parDrop_11 : decode cX7_parDrop 11 = .ok (.iaload, 1) := by decide +kernel
theorem dX7_parDrop_12 : decode cX7_parDrop 12 = .ok (.ireturn, 1) := by decide +kernel
theorem dX7_parWords_0 : decode cX7_parWords 0 = .ok (.aload_n 0, 1) := by decide +kernel
theorem dX7_parWords_1 : decode cX7_parWords 1 = .ok (.getfield 7, 3) := by decide +kernel
theorem dX7_parWords_4 : decode cX7_parWords 4 = .ok (.iconst 1, 1) := by decide +kernel
theorem dX7_parWords_5 : decode cX7_parWords 5 = .ok (.iconst 3, 1) := by decide +kernel
theorem dX7_parWords_6 : decode cX7_parWords 6 = .ok (.iload_n 1, 1) := by decide +kernel
theorem dX7_parWords_7 : decode cX7_parWords 7 = .ok (.imul, 1) := by decide +kernel
theorem dX7_parWords_8 : decode cX7_parWords 8 = .ok (.iadd, 1) := by decide +kernel
theorem dX7_parWords_9 : decode cX7_parWords 9 = .ok (.iconst 2, 1) := by decide +kernel
theorem dX7_parWords_10 : decode cX7_parWords 10 = .ok (.iadd, 1) := by decide +kernel
theorem dX7_parWords_11 : decode cX7_parWords 11 = .ok (.iaload, 1) := by decide +kernel
theorem dX7_parWords_12 : decode cX7_parWords 12 = .ok (.ireturn, 1) := by decide +kernel
theorem dX7_firstWord_0 : decode cX7_firstWord 0 = .ok (.iconst 0, 1) := by decide +kernel
theorem dX7_firstWord_1 : decode cX7_firstWord 1 = .ok (.istore_n 2, 1) := by decide +kernel
theorem dX7_firstWord_2 : decode cX7_firstWord 2 = .ok (.iconst 0, 1) := by decide +kernel
theorem dX7_firstWord_3 : decode cX7_firstWord 3 = .ok (.istore_n 3, 1) := by decide +kernel
theorem dX7_firstWord_4 : decode cX7_firstWord 4 = .ok (.iload_n 3, 1) := by decide +kernel
theorem dX7_firstWord_5 : decode cX7_firstWord 5 = .ok (.iload_n 1, 1) := by decide +kernel
theorem dX7_firstWord_6 : decode cX7_firstWord 6 = .ok (.if_icmp .ge 17, 3) := by decide +kernel
theorem dX7_firstWord_9 : decode cX7_firstWord 9 = .ok (.iload_n 2, 1) := by decide +kernel
theorem dX7_firstWord_10 : decode cX7_firstWord 10 = .ok (.aload_n 0, 1) := by decide +kernel
theorem dX7_firstWord_11 : decode cX7_firstWord 11 = .ok (.iload_n 3, 1) := by decide +kernel
theorem dX7_firstWord_12 : decode cX7_firstWord 12 = .ok (.invokevirtual 171, 3) := by decide +kernel
theorem dX7_firstWord_15 : decode cX7_firstWord 15 = .ok (.iadd, 1) := by decide +kernel
theorem dX7_firstWord_16 : decode cX7_firstWord 16 = .ok (.istore_n 2, 1) := by decide +kernel
theorem dX7_firstWord_17 : decode cX7_firstWord 17 = .ok (.iinc 3 1, 3) := by decide +kernel
theorem dX7_firstWord_20 : decode cX7_firstWord 20 = .ok (.goto (-16), 3) := by decide +kernel
theorem dX7_firstWord_23 : decode cX7_firstWord 23 = .ok (.iload_n 2, 1) := by decide +kernel
theorem dX7_firstWord_24 : decode cX7_firstWord 24 = .ok (.ireturn, 1) := by decide +kernel
theorem dX7_heightOf_0 : decode cX7_heightOf 0 = .ok (.aload_n 0, 1) := by decide +kernel
theorem dX7_heightOf_1 : decode cX7_heightOf 1 = .ok (.iload_n 1, 1) := by decide +kernel
theorem dX7_heightOf_2 : decode cX7_heightOf 2 = .ok (.invokevirtual 174, 3) := by decide +kernel
theorem dX7_heightOf_5 : decode cX7_heightOf 5 = .ok (.bipush (-4), 2) := by decide +kernel
theorem dX7_heightOf_7 : decode cX7_heightOf 7 = .ok (.if_icmp .ne 7, 3) := by decide +kernel
theorem dX7_heightOf_10 : decode cX7_heightOf 10 = .ok (.iconst 0, 1) := by decide +kernel
theorem dX7_heightOf_11 : decode cX7_heightOf 11 = .ok (.goto 28, 3) := by decide +kernel
theorem dX7_heightOf_14 : decode cX7_heightOf 14 = .ok (.aload_n 0, 1) := by decide +kernel
theorem dX7_heightOf_15 : decode cX7_heightOf 15 = .ok (.iload_n 1, 1) := by decide +kernel
theorem dX7_heightOf_16 : decode cX7_heightOf 16 = .ok (.invokevirtual 177, 3) := by decide +kernel
theorem dX7_heightOf_19 : decode cX7_heightOf 19 = .ok (.iconst 1, 1) := by decide +kernel
theorem dX7_heightOf_20 : decode cX7_heightOf 20 = .ok (.isub, 1) := by decide +kernel
theorem dX7_heightOf_21 : decode cX7_heightOf 21 = .ok (.aload_n 0, 1) := by decide +kernel
theorem dX7_heightOf_22 : decode cX7_heightOf 22 = .ok (.getfield 7, 3) := by decide +kernel
theorem dX7_heightOf_25 : decode cX7_heightOf 25 = .ok (.sipush 586, 3) := by decide +kernel
theorem dX7_heightOf_28 : decode cX7_heightOf 28 = .ok (.iaload, 1) := by decide +kernel
theorem dX7_heightOf_29 : decode cX7_heightOf 29 = .ok (.imul, 1) := by decide +kernel
theorem dX7_heightOf_30 : decode cX7_heightOf 30 = .ok (.aload_n 0, 1) := by decide +kernel
theorem dX7_heightOf_31 : decode cX7_heightOf 31 = .ok (.getfield 7, 3) := by decide +kernel
theorem dX7_heightOf_34 : decode cX7_heightOf 34 = .ok (.sipush 587, 3) := by decide +kernel
theorem dX7_heightOf_37 : decode cX7_heightOf 37 = .ok (.iaload, 1) := by decide +kernel
theorem dX7_heightOf_38 : decode cX7_heightOf 38 = .ok (.iadd, 1) := by decide +kernel
theorem dX7_heightOf_39 : decode cX7_heightOf 39 = .ok (.ireturn, 1) := by decide +kernel
theorem dX7_ofShape_0 : decode cX7_ofShape 0 = .ok (.aload_n 0, 1) := by decide +kernel
theorem dX7_ofShape_1 : decode cX7_ofShape 1 = .ok (.getfield 16, 3) := by decide +kernel
theorem dX7_ofShape_4 : decode cX7_ofShape 4 = .ok (.bipush 19, 2) := by decide +kernel
theorem dX7_ofShape_6 : decode cX7_ofShape 6 = .ok (.aload_n 0, 1) := by decide +kernel
theorem dX7_ofShape_7 : decode cX7_ofShape 7 = .ok (.iload_n 1, 1) := by decide +kernel
theorem dX7_ofShape_8 : decode cX7_ofShape 8 = .ok (.invokevirtual 174, 3) := by decide +kernel
theorem dX7_ofShape_11 : decode cX7_ofShape 11 = .ok (.imul, 1) := by decide +kernel
theorem dX7_ofShape_12 : decode cX7_ofShape 12 = .ok (.iload_n 2, 1) := by decide +kernel
theorem dX7_ofShape_13 : decode cX7_ofShape 13 = .ok (.iadd, 1) := by decide +kernel
theorem dX7_ofShape_14 : decode cX7_ofShape 14 = .ok (.iaload, 1) := by decide +kernel
theorem dX7_ofShape_15 : decode cX7_ofShape 15 = .ok (.ireturn, 1) := by decide +kernel
theorem dX7_drawnBegin_0 : decode cX7_drawnBegin 0 = .ok (.iload_n 2, 1) := by decide +kernel
theorem dX7_drawnBegin_1 : decode cX7_drawnBegin 1 = .ok (.aload_n 0, 1) := by decide +kernel
theorem dX7_drawnBegin_2 : decode cX7_drawnBegin 2 = .ok (.iload_n 1, 1) := by decide +kernel
theorem dX7_drawnBegin_3 : decode cX7_drawnBegin 3 = .ok (.iconst 2, 1) := by decide +kernel
theorem dX7_drawnBegin_4 : decode cX7_drawnBegin 4 = .ok (.invokevirtual 180, 3) := by decide +kernel
theorem dX7_drawnBegin_7 : decode cX7_drawnBegin 7 = .ok (.if_icmp .ne 11, 3) := by decide +kernel
theorem dX7_drawnBegin_10 : decode cX7_drawnBegin 10 = .ok (.aload_n 0, 1) := by decide +kernel
theorem dX7_drawnBegin_11 : decode cX7_drawnBegin 11 = .ok (.iload_n 1, 1) := by decide +kernel
theorem dX7_drawnBegin_12 : decode cX7_drawnBegin 12 = .ok (.invokevirtual 183, 3) := by decide +kernel
theorem dX7_drawnBegin_15 : decode cX7_drawnBegin 15 = .ok (.goto 24, 3) := by decide +kernel
theorem dX7_drawnBegin_18 : decode cX7_drawnBegin 18 = .ok (.aload_n 0, 1) := by decide +kernel
theorem dX7_drawnBegin_19 : decode cX7_drawnBegin 19 = .ok (.iload_n 1, 1) := by decide +kernel
theorem dX7_drawnBegin_20 : decode cX7_drawnBegin 20 = .ok (.iconst 3, 1) := by decide +kernel
theorem dX7_drawnBegin_21 : decode cX7_drawnBegin 21 = .ok (.iload_n 2, 1) := by decide +kernel
theorem dX7_drawnBegin_22 : decode cX7_drawnBegin 22 = .ok (.iadd, 1) := by decide +kernel
theorem dX7_drawnBegin_23 : decode cX7_drawnBegin 23 = .ok (.invokevirtual 180, 3) := by decide +kernel
theorem dX7_drawnBegin_26 : decode cX7_drawnBegin 26 = .ok (.aload_n 0, 1) := by decide +kernel
theorem dX7_drawnBegin_27 : decode cX7_drawnBegin 27 = .ok (.iload_n 1, 1) := by decide +kernel
theorem dX7_drawnBegin_28 : decode cX7_drawnBegin 28 = .ok (.invokevirtual 183, 3) := by decide +kernel
theorem dX7_drawnBegin_31 : decode cX7_drawnBegin 31 = .ok (.imul, 1) := by decide +kernel
theorem dX7_drawnBegin_32 : decode cX7_drawnBegin 32 = .ok (.aload_n 0, 1) := by decide +kernel
theorem dX7_drawnBegin_33 : decode cX7_drawnBegin 33 = .ok (.iload_n 1, 1) := by decide +kernel
theorem dX7_drawnBegin_34 : decode cX7_drawnBegin 34 = .ok (.iconst 1, 1) := by decide +kernel
theorem dX7_drawnBegin_35 : decode cX7_drawnBegin 35 = .ok (.invokevirtual 180, 3) := by decide +kernel
theorem dX7_drawnBegin_38 : decode cX7_drawnBegin 38 = .ok (.idiv, 1) := by decide +kernel
theorem dX7_drawnBegin_39 : decode cX7_drawnBegin 39 = .ok (.ireturn, 1) := by decide +kernel
theorem dX7_drawnExtent_0 : decode cX7_drawnExtent 0 = .ok (.aload_n 0, 1) := by decide +kernel
theorem dX7_drawnExtent_1 : decode cX7_drawnExtent 1 = .ok (.iload_n 1, 1) := by decide +kernel
theorem dX7_drawnExtent_2 : decode cX7_drawnExtent 2 = .ok (.bipush 11, 2) := by decide +kernel
theorem dX7_drawnExtent_4 : decode cX7_drawnExtent 4 = .ok (.iload_n 2, 1) := by decide +kernel
theorem dX7_drawnExtent_5 : decode cX7_drawnExtent 5 = .ok (.iadd, 1) := by decide +kernel
theorem dX7_drawnExtent_6 : decode cX7_drawnExtent 6 = .ok (.invokevirtual 180, 3) := by decide +kernel
theorem dX7_drawnExtent_9 : decode cX7_drawnExtent 9 = .ok (.aload_n 0, 1) := by decide +kernel
theorem dX7_drawnExtent_10 : decode cX7_drawnExtent 10 = .ok (.iload_n 1, 1) := by decide +kernel
theorem dX7_drawnExtent_11 : decode cX7_drawnExtent 11 = .ok (.invokevirtual 183, 3) := by decide +kernel
theorem dX7_drawnExtent_14 : decode cX7_drawnExtent 14 = .ok (.imul, 1) := by decide +kernel
theorem dX7_drawnExtent_15 : decode cX7_drawnExtent 15 = .ok (.aload_n 0, 1) := by decide +kernel
theorem dX7_drawnExtent_16 : decode cX7_drawnExtent 16 = .ok (.iload_n 1, 1) := by decide +kernel
theorem dX7_drawnExtent_17 : decode cX7_drawnExtent 17 = .ok (.iconst 1, 1) := by decide +kernel
theorem dX7_drawnExtent_18 : decode cX7_drawnExtent 18 = .ok (.invokevirtual 180, 3) := by decide +kernel
theorem dX7_drawnExtent_21 : decode cX7_drawnExtent 21 = .ok (.iadd, 1) := by decide +kernel
theorem dX7_drawnExtent_22 : decode cX7_drawnExtent 22 = .ok (.iconst 1, 1) := by decide +kernel
theorem dX7_drawnExtent_23 : decode cX7_drawnExtent 23 = .ok (.isub, 1) := by decide +kernel
theorem dX7_drawnExtent_24 : decode cX7_drawnExtent 24 = .ok (.aload_n 0, 1) := by decide +kernel
theorem dX7_drawnExtent_25 : decode cX7_drawnExtent 25 = .ok (.iload_n 1, 1) := by decide +kernel
theorem dX7_drawnExtent_26 : decode cX7_drawnExtent 26 = .ok (.iconst 1, 1) := by decide +kernel
theorem dX7_drawnExtent_27 : decode cX7_drawnExtent 27 = .ok (.invokevirtual 180, 3) := by decide +kernel
theorem dX7_drawnExtent_30 : decode cX7_drawnExtent 30 = .ok (.idiv, 1) := by decide +kernel
theorem dX7_drawnExtent_31 : decode cX7_drawnExtent 31 = .ok (.ireturn, 1) := by decide +kernel
theorem dX7_reachOf_0 : decode cX7_reachOf 0 = .ok (.aload_n 0, 1) := by decide +kernel
theorem dX7_reachOf_1 : decode cX7_reachOf 1 = .ok (.iload_n 1, 1) := by decide +kernel
theorem dX7_reachOf_2 : decode cX7_reachOf 2 = .ok (.invokevirtual 174, 3) := by decide +kernel
theorem dX7_reachOf_5 : decode cX7_reachOf 5 = .ok (.bipush (-4), 2) := by decide +kernel
theorem dX7_reachOf_7 : decode cX7_reachOf 7 = .ok (.if_icmp .eq 7, 3) := by decide +kernel
theorem dX7_reachOf_10 : decode cX7_reachOf 10 = .ok (.iload_n 2, 1) := by decide +kernel
theorem dX7_reachOf_11 : decode cX7_reachOf 11 = .ok (.ifCond .ge 5, 3) := by decide +kernel
theorem dX7_reachOf_14 : decode cX7_reachOf 14 = .ok (.iconst 0, 1) := by decide +kernel
theorem dX7_reachOf_15 : decode cX7_reachOf 15 = .ok (.ireturn, 1) := by decide +kernel
theorem dX7_reachOf_16 : decode cX7_reachOf 16 = .ok (.iload_n 2, 1) := by decide +kernel
theorem dX7_reachOf_17 : decode cX7_reachOf 17 = .ok (.i2l, 1) := by decide +kernel
theorem dX7_reachOf_18 : decode cX7_reachOf 18 = .ok (.aload_n 0, 1) := by decide +kernel
theorem dX7_reachOf_19 : decode cX7_reachOf 19 = .ok (.getfield 7, 3) := by decide +kernel
theorem dX7_reachOf_22 : decode cX7_reachOf 22 = .ok (.sipush 586, 3) := by decide +kernel
theorem dX7_reachOf_25 : decode cX7_reachOf 25 = .ok (.iaload, 1) := by decide +kernel
theorem dX7_reachOf_26 : decode cX7_reachOf 26 = .ok (.i2l, 1) := by decide +kernel
theorem dX7_reachOf_27 : decode cX7_reachOf 27 = .ok (.lmul, 1) := by decide +kernel
theorem dX7_reachOf_28 : decode cX7_reachOf 28 = .ok (.lstore_n 3, 1) := by decide +kernel
theorem dX7_reachOf_29 : decode cX7_reachOf 29 = .ok (.bipush (-4), 2) := by decide +kernel
theorem dX7_reachOf_31 : decode cX7_reachOf 31 = .ok (.istore 5, 2) := by decide +kernel
theorem dX7_reachOf_33 : decode cX7_reachOf 33 = .ok (.iconst 0, 1) := by decide +kernel
theorem dX7_reachOf_34 : decode cX7_reachOf 34 = .ok (.istore 6, 2) := by decide +kernel
theorem dX7_reachOf_36 : decode cX7_reachOf 36 = .ok (.iload 6, 2) := by decide +kernel
theorem dX7_reachOf_38 : decode cX7_reachOf 38 = .ok (.aload_n 0, 1) := by decide +kernel
theorem dX7_reachOf_39 : decode cX7_reachOf 39 = .ok (.iload_n 1, 1) := by decide +kernel
theorem dX7_reachOf_40 : decode cX7_reachOf 40 = .ok (.iconst 2, 1) := by decide +kernel
theorem dX7_reachOf_41 : decode cX7_reachOf 41 = .ok (.invokevirtual 180, 3) := by decide +kernel
theorem dX7_reachOf_44 : decode cX7_reachOf 44 = .ok (.if_icmp .ge 83, 3) := by decide +kernel
theorem dX7_reachOf_47 : decode cX7_reachOf 47 = .ok (.aload_n 0, 1) := by decide +kernel
theorem dX7_reachOf_48 : decode cX7_reachOf 48 = .ok (.iload_n 1, 1) := by decide +kernel
theorem dX7_reachOf_49 : decode cX7_reachOf 49 = .ok (.iload 6, 2) := by decide +kernel
theorem dX7_reachOf_51 : decode cX7_reachOf 51 = .ok (.invokevirtual 186, 3) := by decide +kernel
theorem dX7_reachOf_54 : decode cX7_reachOf 54 = .ok (.istore 7, 2) := by decide +kernel
theorem dX7_reachOf_56 : decode cX7_reachOf 56 = .ok (.aload_n 0, 1) := by decide +kernel
theorem dX7_reachOf_57 : decode cX7_reachOf 57 = .ok (.iload_n 1, 1) := by decide +kernel
theorem dX7_reachOf_58 : decode cX7_reachOf 58 = .ok (.iload 6, 2) := by decide +kernel
theorem dX7_reachOf_60 : decode cX7_reachOf 60 = .ok (.iconst 1, 1) := by decide +kernel
theorem dX7_reachOf_61 : decode cX7_reachOf 61 = .ok (.iadd, 1) := by decide +kernel
theorem dX7_reachOf_62 : decode cX7_reachOf 62 = .ok (.invokevirtual 186, 3) := by decide +kernel
theorem dX7_reachOf_65 : decode cX7_reachOf 65 = .ok (.istore 8, 2) := by decide +kernel
theorem dX7_reachOf_67 : decode cX7_reachOf 67 = .ok (.iload 7, 2) := by decide +kernel
theorem dX7_reachOf_69 : decode cX7_reachOf 69 = .ok (.iload 8, 2) := by decide +kernel
theorem dX7_reachOf_71 : decode cX7_reachOf 71 = .ok (.if_icmp .ge 50, 3) := by decide +kernel
theorem dX7_reachOf_74 : decode cX7_reachOf 74 = .ok (.iload 7, 2) := by decide +kernel
theorem dX7_reachOf_76 : decode cX7_reachOf 76 = .ok (.i2l, 1) := by decide +kernel
theorem dX7_reachOf_77 : decode cX7_reachOf 77 = .ok (.lload_n 3, 1) := by decide +kernel
theorem dX7_reachOf_78 : decode cX7_reachOf 78 = .ok (.aload_n 0, 1) := by decide +kernel
theorem dX7_reachOf_79 : decode cX7_reachOf 79 = .ok (.getfield 7, 3) := by decide +kernel
theorem dX7_reachOf_82 : decode cX7_reachOf 82 = .ok (.sipush 586, 3) := by decide +kernel
theorem dX7_reachOf_85 : decode cX7_reachOf 85 = .ok (.iaload, 1) := by decide +kernel
theorem dX7_reachOf_86 : decode cX7_reachOf 86 = .ok (.i2l, 1) := by decide +kernel
theorem dX7_reachOf_87 : decode cX7_reachOf 87 = .ok (.ladd, 1) := by decide +kernel
theorem dX7_reachOf_88 : decode cX7_reachOf 88 = .ok (.lcmp, 1) := by decide +kernel
theorem dX7_reachOf_89 : decode cX7_reachOf 89 = .ok (.ifCond .ge 32, 3) := by decide +kernel
theorem dX7_reachOf_92 : decode cX7_reachOf 92 = .ok (.iload 8, 2) := by decide +kernel
theorem dX7_reachOf_94 : decode cX7_reachOf 94 = .ok (.i2l, 1) := by decide +kernel
theorem dX7_reachOf_95 : decode cX7_reachOf 95 = .ok (.lload_n 3, 1) := by decide +kernel
theorem dX7_reachOf_96 : decode cX7_reachOf 96 = .ok (.lcmp, 1) := by decide +kernel
theorem dX7_reachOf_97 : decode cX7_reachOf 97 = .ok (.ifCond .le 24, 3) := by decide +kernel
theorem dX7_reachOf_100 : decode cX7_reachOf 100 = .ok (.aload_n 0, 1) := by decide +kernel
theorem dX7_reachOf_101 : decode cX7_reachOf 101 = .ok (.iload_n 1, 1) := by decide +kernel
theorem dX7_reachOf_102 : decode cX7_reachOf 102 = .ok (.iload 6, 2) := by decide +kernel
theorem dX7_reachOf_104 : decode cX7_reachOf 104 = .ok (.invokevirtual 189, 3) := by decide +kernel
theorem dX7_reachOf_107 : decode cX7_reachOf 107 = .ok (.iload 5, 2) := by decide +kernel
theorem dX7_reachOf_109 : decode cX7_reachOf 109 = .ok (.if_icmp .le 12, 3) := by decide +kernel
theorem dX7_reachOf_112 : decode cX7_reachOf 112 = .ok (.aload_n 0, 1) := by decide +kernel
theorem dX7_reachOf_113 : decode cX7_reachOf 113 = .ok (.iload_n 1, 1) := by decide +kernel
theorem dX7_reachOf_114 : decode cX7_reachOf 114 = .ok (.iload 6, 2) := by decide +kernel
theorem dX7_reachOf_116 : decode cX7_reachOf 116 = .ok (.invokevirtual 189, 3) := by decide +kernel
theorem dX7_reachOf_119 : decode cX7_reachOf 119 = .ok (.istore 5, 2) := by decide +kernel
theorem dX7_reachOf_121 : decode cX7_reachOf 121 = .ok (.iinc 6 1, 3) := by decide +kernel
theorem dX7_reachOf_124 : decode cX7_reachOf 124 = .ok (.goto (-88), 3) := by decide +kernel
theorem dX7_reachOf_127 : decode cX7_reachOf 127 = .ok (.iload 5, 2) := by decide +kernel
theorem dX7_reachOf_129 : decode cX7_reachOf 129 = .ok (.bipush (-4), 2) := by decide +kernel
theorem dX7_reachOf_131 : decode cX7_reachOf 131 = .ok (.if_icmp .ne 7, 3) := by decide +kernel
theorem dX7_reachOf_134 : decode cX7_reachOf 134 = .ok (.iconst 0, 1) := by decide +kernel
theorem dX7_reachOf_135 : decode cX7_reachOf 135 = .ok (.goto 14, 3) := by decide +kernel
theorem dX7_reachOf_138 : decode cX7_reachOf 138 = .ok (.iload 5, 2) := by decide +kernel
theorem dX7_reachOf_140 : decode cX7_reachOf 140 = .ok (.aload_n 0, 1) := by decide +kernel
theorem dX7_reachOf_141 : decode cX7_reachOf 141 = .ok (.getfield 7, 3) := by decide +kernel
theorem dX7_reachOf_144 : decode cX7_reachOf 144 = .ok (.sipush 588, 3) := by decide +kernel
theorem dX7_reachOf_147 : decode cX7_reachOf 147 = .ok (.iaload, 1) := by decide +kernel
theorem dX7_reachOf_148 : decode cX7_reachOf 148 = .ok (.iadd, 1) := by decide +kernel
theorem dX7_reachOf_149 : decode cX7_reachOf 149 = .ok (.ireturn, 1) := by decide +kernel
theorem dX7_reachedBy_0 : decode cX7_reachedBy 0 = .ok (.iconst 0, 1) := by decide +kernel
theorem dX7_reachedBy_1 : decode cX7_reachedBy 1 = .ok (.istore_n 2, 1) := by decide +kernel
theorem dX7_reachedBy_2 : decode cX7_reachedBy 2 = .ok (.iconst 0, 1) := by decide +kernel
theorem dX7_reachedBy_3 : decode cX7_reachedBy 3 = .ok (.istore_n 3, 1) := by decide +kernel
theorem dX7_reachedBy_4 : decode cX7_reachedBy 4 = .ok (.iload_n 3, 1) := by decide +kernel
theorem dX7_reachedBy_5 : decode cX7_reachedBy 5 = .ok (.aload_n 0, 1) := by decide +kernel
theorem dX7_reachedBy_6 : decode cX7_reachedBy 6 = .ok (.getfield 7, 3) := by decide +kernel
theorem dX7_reachedBy_9 : decode cX7_reachedBy 9 = .ok (.sipush 586, 3) := by decide +kernel
theorem dX7_reachedBy_12 : decode cX7_reachedBy 12 = .ok (.iaload, 1) := by decide +kernel
theorem dX7_reachedBy_13 : decode cX7_reachedBy 13 = .ok (.imul, 1) := by decide +kernel
theorem dX7_reachedBy_14 : decode cX7_reachedBy 14 = .ok (.aload_n 0, 1) := by decide +kernel
theorem dX7_reachedBy_15 : decode cX7_reachedBy 15 = .ok (.iload_n 1, 1) := by decide +kernel
theorem dX7_reachedBy_16 : decode cX7_reachedBy 16 = .ok (.invokevirtual 183, 3) := by decide +kernel
theorem dX7_reachedBy_19 : decode cX7_reachedBy 19 = .ok (.if_icmp .ge 33, 3) := by decide +kernel
theorem dX7_reachedBy_22 : decode cX7_reachedBy 22 = .ok (.aload_n 0, 1) := by decide +kernel
theorem dX7_reachedBy_23 : decode cX7_reachedBy 23 = .ok (.iload_n 1, 1) := by decide +kernel
theorem dX7_reachedBy_24 : decode cX7_reachedBy 24 = .ok (.iload_n 3, 1) := by decide +kernel
theorem dX7_reachedBy_25 : decode cX7_reachedBy 25 = .ok (.invokevirtual 192, 3) := by decide +kernel
theorem dX7_reachedBy_28 : decode cX7_reachedBy 28 = .ok (.ifCond .le 16, 3) := by decide +kernel
theorem dX7_reachedBy_31 : decode cX7_reachedBy 31 = .ok (.aload_n 0, 1) := by decide +kernel
theorem dX7_reachedBy_32 : decode cX7_reachedBy 32 = .ok (.getfield 41, 3) := by decide +kernel
theorem dX7_reachedBy_35 : decode cX7_reachedBy 35 = .ok (.iload_n 1, 1) := by decide +kernel
theorem dX7_reachedBy_36 : decode cX7_reachedBy 36 = .ok (.iaload, 1) := by decide +kernel
theorem dX7_reachedBy_37 : decode cX7_reachedBy 37 = .ok (.iload_n 3, 1) := by decide +kernel
theorem dX7_reachedBy_38 : decode cX7_reachedBy 38 = .ok (.iadd, 1) := by decide +kernel
theorem dX7_reachedBy_39 : decode cX7_reachedBy 39 = .ok (.iconst 1, 1) := by decide +kernel
theorem dX7_reachedBy_40 : decode cX7_reachedBy 40 = .ok (.iadd, 1) := by decide +kernel
theorem dX7_reachedBy_41 : decode cX7_reachedBy 41 = .ok (.goto 4, 3) := by decide +kernel
theorem dX7_reachedBy_44 : decode cX7_reachedBy 44 = .ok (.iload_n 2, 1) := by decide +kernel
theorem dX7_reachedBy_45 : decode cX7_reachedBy 45 = .ok (.istore_n 2, 1) := by decide +kernel
theorem dX7_reachedBy_46 : decode cX7_reachedBy 46 = .ok (.iinc 3 1, 3) := by decide +kernel
theorem dX7_reachedBy_49 : decode cX7_reachedBy 49 = .ok (.goto (-45), 3) := by decide +kernel
theorem dX7_reachedBy_52 : decode cX7_reachedBy 52 = .ok (.iload_n 2, 1) := by decide +kernel
theorem dX7_reachedBy_53 : decode cX7_reachedBy 53 = .ok (.ireturn, 1) := by decide +kernel
theorem dX7_widthOf_0 : decode cX7_widthOf 0 = .ok (.iconst 0, 1) := by decide +kernel
theorem dX7_widthOf_1 : decode cX7_widthOf 1 = .ok (.istore_n 2, 1) := by decide +kernel
theorem dX7_widthOf_2 : decode cX7_widthOf 2 = .ok (.iconst 0, 1) := by decide +kernel
theorem dX7_widthOf_3 : decode cX7_widthOf 3 = .ok (.istore_n 3, 1) := by decide +kernel
theorem dX7_widthOf_4 : decode cX7_widthOf 4 = .ok (.iload_n 3, 1) := by decide +kernel
theorem dX7_widthOf_5 : decode cX7_widthOf 5 = .ok (.aload_n 0, 1) := by decide +kernel
theorem dX7_widthOf_6 : decode cX7_widthOf 6 = .ok (.getfield 7, 3) := by decide +kernel
theorem dX7_widthOf_9 : decode cX7_widthOf 9 = .ok (.bipush 25, 2) := by decide +kernel
theorem dX7_widthOf_11 : decode cX7_widthOf 11 = .ok (.bipush 7, 2) := by decide +kernel
theorem dX7_widthOf_13 : decode cX7_widthOf 13 = .ok (.iload_n 1, 1) := by decide +kernel
theorem dX7_widthOf_14 : decode cX7_widthOf 14 = .ok (.imul, 1) := by decide +kernel
theorem dX7_widthOf_15 : decode cX7_widthOf 15 = .ok (.iadd, 1) := by decide +kernel
theorem dX7_widthOf_16 : decode cX7_widthOf 16 = .ok (.iaload, 1) := by decide +kernel
theorem dX7_widthOf_17 : decode cX7_widthOf 17 = .ok (.if_icmp .ge 86, 3) := by decide +kernel
theorem dX7_widthOf_20 : decode cX7_widthOf 20 = .ok (.aload_n 0, 1) := by decide +kernel
theorem dX7_widthOf_21 : decode cX7_widthOf 21 = .ok (.getfield 7, 3) := by decide +kernel
theorem dX7_widthOf_24 : decode cX7_widthOf 24 = .ok (.bipush 25, 2) := by decide +kernel
theorem dX7_widthOf_26 : decode cX7_widthOf 26 = .ok (.bipush 7, 2) := by decide +kernel
theorem dX7_widthOf_28 : decode cX7_widthOf 28 = .ok (.iload_n 1, 1) := by decide +kernel
theorem dX7_widthOf_29 : decode cX7_widthOf 29 = .ok (.imul, 1) := by decide +kernel
theorem dX7_widthOf_30 : decode cX7_widthOf 30 = .ok (.iadd, 1) := by decide +kernel
theorem dX7_widthOf_31 : decode cX7_widthOf 31 = .ok (.iconst 1, 1) := by decide +kernel
theorem dX7_widthOf_32 : decode cX7_widthOf 32 = .ok (.iadd, 1) := by decide +kernel
theorem dX7_widthOf_33 : decode cX7_widthOf 33 = .ok (.iload_n 3, 1) := by decide +kernel
theorem dX7_widthOf_34 : decode cX7_widthOf 34 = .ok (.iadd, 1) := by decide +kernel
theorem dX7_widthOf_35 : decode cX7_widthOf 35 = .ok (.iaload, 1) := by decide +kernel
theorem dX7_widthOf_36 : decode cX7_widthOf 36 = .ok (.bipush 97, 2) := by decide +kernel
theorem dX7_widthOf_38 : decode cX7_widthOf 38 = .ok (.iadd, 1) := by decide +kernel
theorem dX7_widthOf_39 : decode cX7_widthOf 39 = .ok (.iconst 1, 1) := by decide +kernel
theorem dX7_widthOf_40 : decode cX7_widthOf 40 = .ok (.isub, 1) := by decide +kernel
theorem dX7_widthOf_41 : decode cX7_widthOf 41 = .ok (.istore 4, 2) := by decide +kernel
theorem dX7_widthOf_43 : decode cX7_widthOf 43 = .ok (.iload_n 2, 1) := by decide +kernel
theorem dX7_widthOf_44 : decode cX7_widthOf 44 = .ok (.iload 4, 2) := by decide +kernel
theorem dX7_widthOf_46 : decode cX7_widthOf 46 = .ok (.bipush 105, 2) := by decide +kernel
theorem dX7_widthOf_48 : decode cX7_widthOf 48 = .ok (.if_icmp .eq 24, 3) := by decide +kernel
theorem dX7_widthOf_51 : decode cX7_widthOf 51 = .ok (.iload 4, 2) := by decide +kernel
theorem dX7_widthOf_53 : decode cX7_widthOf 53 = .ok (.bipush 106, 2) := by decide +kernel
theorem dX7_widthOf_55 : decode cX7_widthOf 55 = .ok (.if_icmp .eq 17, 3) := by decide +kernel
theorem dX7_widthOf_58 : decode cX7_widthOf 58 = .ok (.iload 4, 2) := by decide +kernel
theorem dX7_widthOf_60 : decode cX7_widthOf 60 = .ok (.bipush 108, 2) := by decide +kernel
theorem dX7_widthOf_62 : decode cX7_widthOf 62 = .ok (.if_icmp .eq 10, 3) := by decide +kernel
theorem dX7_widthOf_65 : decode cX7_widthOf 65 = .ok (.iload 4, 2) := by decide +kernel
theorem dX7_widthOf_67 : decode cX7_widthOf 67 = .ok (.bipush 116, 2) := by decide +kernel
theorem dX7_widthOf_69 : decode cX7_widthOf 69 = .ok (.if_icmp .ne 7, 3) := by decide +kernel
theorem dX7_widthOf_72 : decode cX7_widthOf 72 = .ok (.iconst 1, 1) := by decide +kernel
theorem dX7_widthOf_73 : decode cX7_widthOf 73 = .ok (.goto 22, 3) := by decide +kernel
theorem dX7_widthOf_76 : decode cX7_widthOf 76 = .ok (.iload 4, 2) := by decide +kernel
theorem dX7_widthOf_78 : decode cX7_widthOf 78 = .ok (.bipush 109, 2) := by decide +kernel
theorem dX7_widthOf_80 : decode cX7_widthOf 80 = .ok (.if_icmp .eq 10, 3) := by decide +kernel
theorem dX7_widthOf_83 : decode cX7_widthOf 83 = .ok (.iload 4, 2) := by decide +kernel
theorem dX7_widthOf_85 : decode cX7_widthOf 85 = .ok (.bipush 119, 2) := by decide +kernel
theorem dX7_widthOf_87 : decode cX7_widthOf 87 = .ok (.if_icmp .ne 7, 3) := by decide +kernel
theorem dX7_widthOf_90 : decode cX7_widthOf 90 = .ok (.iconst 3, 1) := by decide +kernel
theorem dX7_widthOf_91 : decode cX7_widthOf 91 = .ok (.goto 4, 3) := by decide +kernel
theorem dX7_widthOf_94 : decode cX7_widthOf 94 = .ok (.iconst 2, 1) := by decide +kernel
theorem dX7_widthOf_95 : decode cX7_widthOf 95 = .ok (.iadd, 1) := by decide +kernel
theorem dX7_widthOf_96 : decode cX7_widthOf 96 = .ok (.istore_n 2, 1) := by decide +kernel
theorem dX7_widthOf_97 : decode cX7_widthOf 97 = .ok (.iinc 3 1, 3) := by decide +kernel
theorem dX7_widthOf_100 : decode cX7_widthOf 100 = .ok (.goto (-96), 3) := by decide +kernel
theorem dX7_widthOf_103 : decode cX7_widthOf 103 = .ok (.iload_n 2, 1) := by decide +kernel
theorem dX7_widthOf_104 : decode cX7_widthOf 104 = .ok (.ireturn, 1) := by decide +kernel
theorem dX7_usedBy_0 : decode cX7_usedBy 0 = .ok (.iload_n 2, 1) := by decide +kernel
theorem dX7_usedBy_1 : decode cX7_usedBy 1 = .ok (.iconst 1, 1) := by decide +kernel
theorem dX7_usedBy_2 : decode cX7_usedBy 2 = .ok (.isub, 1) := by decide +kernel
theorem dX7_usedBy_3 : decode cX7_usedBy 3 = .ok (.istore_n 3, 1) := by decide +kernel
theorem dX7_usedBy_4 : decode cX7_usedBy 4 = .ok (.iconst 0, 1) := by decide +kernel
theorem dX7_usedBy_5 : decode cX7_usedBy 5 = .ok (.istore 4, 2) := by decide +kernel
theorem dX7_usedBy_7 : decode cX7_usedBy 7 = .ok (.iload 4, 2) := by decide +kernel
theorem dX7_usedBy_9 : decode cX7_usedBy 9 = .ok (.iload_n 2, 1) := by decide +kernel
theorem dX7_usedBy_10 : decode cX7_usedBy 10 = .ok (.if_icmp .ge 20, 3) := by decide +kernel
theorem dX7_usedBy_13 : decode cX7_usedBy 13 = .ok (.iload_n 3, 1) := by decide +kernel
theorem dX7_usedBy_14 : decode cX7_usedBy 14 = .ok (.aload_n 0, 1) := by decide +kernel
theorem dX7_usedBy_15 : decode cX7_usedBy 15 = .ok (.iload_n 1, 1) := by decide +kernel
theorem dX7_usedBy_16 : decode cX7_usedBy 16 = .ok (.iload 4, 2) := by decide +kernel
theorem dX7_usedBy_18 : decode cX7_usedBy 18 = .ok (.iadd, 1) := by decide +kernel
theorem dX7_usedBy_19 : decode cX7_usedBy 19 = .ok (.invokevirtual 195, 3) := by decide +kernel
theorem dX7_usedBy_22 : decode cX7_usedBy 22 = .ok (.iadd, 1) := by decide +kernel
theorem dX7_usedBy_23 : decode cX7_usedBy 23 = .ok (.istore_n 3, 1) := by decide +kernel
theorem dX7_usedBy_24 : decode cX7_usedBy 24 = .ok (.iinc 4 1, 3) := by decide +kernel
theorem dX7_usedBy_27 : decode cX7_usedBy 27 = .ok (.goto (-20), 3) := by decide +kernel
theorem dX7_usedBy_30 : decode cX7_usedBy 30 = .ok (.iload_n 3, 1) := by decide +kernel
theorem dX7_usedBy_31 : decode cX7_usedBy 31 = .ok (.ireturn, 1) := by decide +kernel
theorem dX7_indentAt_0 : decode cX7_indentAt 0 = .ok (.aload_n 0, 1) := by decide +kernel
theorem dX7_indentAt_1 : decode cX7_indentAt 1 = .ok (.iload_n 1, 1) := by decide +kernel
theorem dX7_indentAt_2 : decode cX7_indentAt 2 = .ok (.invokevirtual 174, 3) := by decide +kernel
theorem dX7_indentAt_5 : decode cX7_indentAt 5 = .ok (.bipush (-4), 2) := by decide +kernel
theorem dX7_indentAt_7 : decode cX7_indentAt 7 = .ok (.if_icmp .eq 17, 3) := by decide +kernel
theorem dX7_indentAt_10 : decode cX7_indentAt 10 = .ok (.aload_n 0, 1) := by decide +kernel
theorem dX7_indentAt_11 : decode cX7_indentAt 11 = .ok (.iload_n 1, 1) := by decide +kernel
theorem dX7_indentAt_12 : decode cX7_indentAt 12 = .ok (.iload_n 2, 1) := by decide +kernel
theorem dX7_indentAt_13 : decode cX7_indentAt 13 = .ok (.aload_n 0, 1) := by decide +kernel
theorem dX7_indentAt_14 : decode cX7_indentAt 14 = .ok (.getfield 41, 3) := by decide +kernel
theorem dX7_indentAt_17 : decode cX7_indentAt 17 = .ok (.iload_n 1, 1) := by decide +kernel
theorem dX7_indentAt_18 : decode cX7_indentAt 18 = .ok (.iaload, 1) := by decide +kernel
theorem dX7_indentAt_19 : decode cX7_indentAt 19 = .ok (.isub, 1) := by decide +kernel
theorem dX7_indentAt_20 : decode cX7_indentAt 20 = .ok (.invokevirtual 192, 3) := by decide +kernel
theorem dX7_indentAt_23 : decode cX7_indentAt 23 = .ok (.ireturn, 1) := by decide +kernel
theorem dX7_indentAt_24 : decode cX7_indentAt 24 = .ok (.iconst 0, 1) := by decide +kernel
theorem dX7_indentAt_25 : decode cX7_indentAt 25 = .ok (.istore_n 3, 1) := by decide +kernel
theorem dX7_indentAt_26 : decode cX7_indentAt 26 = .ok (.iconst 0, 1) := by decide +kernel
theorem dX7_indentAt_27 : decode cX7_indentAt 27 = .ok (.istore 4, 2) := by decide +kernel
theorem dX7_indentAt_29 : decode cX7_indentAt 29 = .ok (.iload 4, 2) := by decide +kernel
theorem dX7_indentAt_31 : decode cX7_indentAt 31 = .ok (.iload_n 1, 1) := by decide +kernel
theorem dX7_indentAt_32 : decode cX7_indentAt 32 = .ok (.if_icmp .ge 51, 3) := by decide +kernel
theorem dX7_indentAt_35 : decode cX7_indentAt 35 = .ok (.aload_n 0, 1) := by decide +kernel
theorem dX7_indentAt_36 : decode cX7_indentAt 36 = .ok (.getfield 7, 3) := by decide +kernel
theorem dX7_indentAt_39 : decode cX7_indentAt 39 = .ok (.sipush 590, 3) := by decide +kernel
theorem dX7_indentAt_42 : decode cX7_indentAt 42 = .ok (.iaload, 1) := by decide +kernel
theorem dX7_indentAt_43 : decode cX7_indentAt 43 = .ok (.iconst 2, 1) := by decide +kernel
theorem dX7_indentAt_44 : decode cX7_indentAt 44 = .ok (.if_icmp .ne 39, 3) := by decide +kernel
theorem dX7_indentAt_47 : decode cX7_indentAt 47 = .ok (.aload_n 0, 1) := by decide +kernel
theorem dX7_indentAt_48 : decode cX7_indentAt 48 = .ok (.iload 4, 2) := by decide +kernel
theorem dX7_indentAt_50 : decode cX7_indentAt 50 = .ok (.iload_n 2, 1) := by decide +kernel
theorem dX7_indentAt_51 : decode cX7_indentAt 51 = .ok (.aload_n 0, 1) := by decide +kernel
theorem dX7_indentAt_52 : decode cX7_indentAt 52 = .ok (.getfield 41, 3) := by decide +kernel
theorem dX7_indentAt_55 : decode cX7_indentAt 55 = .ok (.iload 4, 2) := by decide +kernel
theorem dX7_indentAt_57 : decode cX7_indentAt 57 = .ok (.iaload, 1) := by decide +kernel
theorem dX7_indentAt_58 : decode cX7_indentAt 58 = .ok (.isub, 1) := by decide +kernel
theorem dX7_indentAt_59 : decode cX7_indentAt 59 = .ok (.invokevirtual 192, 3) := by decide +kernel
theorem dX7_indentAt_62 : decode cX7_indentAt 62 = .ok (.istore 5, 2) := by decide +kernel
theorem dX7_indentAt_64 : decode cX7_indentAt 64 = .ok (.iload 5, 2) := by decide +kernel
theorem dX7_indentAt_66 : decode cX7_indentAt 66 = .ok (.iload_n 3, 1) := by decide +kernel
theorem dX7_indentAt_67 : decode cX7_indentAt 67 = .ok (.if_icmp .le 8, 3) := by decide +kernel
theorem dX7_indentAt_70 : decode cX7_indentAt 70 = .ok (.iload 5, 2) := by decide +kernel
theorem dX7_indentAt_72 : decode cX7_indentAt 72 = .ok (.goto 4, 3) := by decide +kernel
theorem dX7_indentAt_75 : decode cX7_indentAt 75 = .ok (.iload_n 3, 1) := by decide +kernel
theorem dX7_indentAt_76 : decode cX7_indentAt 76 = .ok (.istore_n 3, 1) := by decide +kernel
theorem dX7_indentAt_77 : decode cX7_indentAt 77 = .ok (.iinc 4 1, 3) := by decide +kernel
theorem dX7_indentAt_80 : decode cX7_indentAt 80 = .ok (.goto (-51), 3) := by decide +kernel
theorem dX7_indentAt_83 : decode cX7_indentAt 83 = .ok (.iload_n 3, 1) := by decide +kernel
theorem dX7_indentAt_84 : decode cX7_indentAt 84 = .ok (.ireturn, 1) := by decide +kernel
theorem dX7_roomAt_0 : decode cX7_roomAt 0 = .ok (.aload_n 0, 1) := by decide +kernel
theorem dX7_roomAt_1 : decode cX7_roomAt 1 = .ok (.getfield 7, 3) := by decide +kernel
theorem dX7_roomAt_4 : decode cX7_roomAt 4 = .ok (.sipush 585, 3) := by decide +kernel
theorem dX7_roomAt_7 : decode cX7_roomAt 7 = .ok (.iaload, 1) := by decide +kernel
theorem dX7_roomAt_8 : decode cX7_roomAt 8 = .ok (.aload_n 0, 1) := by decide +kernel
theorem dX7_roomAt_9 : decode cX7_roomAt 9 = .ok (.iload_n 1, 1) := by decide +kernel
theorem dX7_roomAt_10 : decode cX7_roomAt 10 = .ok (.iload_n 2, 1) := by decide +kernel
theorem dX7_roomAt_11 : decode cX7_roomAt 11 = .ok (.invokevirtual 198, 3) := by decide +kernel
theorem dX7_roomAt_14 : decode cX7_roomAt 14 = .ok (.isub, 1) := by decide +kernel
theorem dX7_roomAt_15 : decode cX7_roomAt 15 = .ok (.istore_n 3, 1) := by decide +kernel
theorem dX7_roomAt_16 : decode cX7_roomAt 16 = .ok (.iload_n 3, 1) := by decide +kernel
theorem dX7_roomAt_17 : decode cX7_roomAt 17 = .ok (.ifCond .ge 7, 3) := by decide +kernel
theorem dX7_roomAt_20 : decode cX7_roomAt 20 = .ok (.iconst 0, 1) := by decide +kernel
theorem dX7_roomAt_21 : decode cX7_roomAt 21 = .ok (.goto 4, 3) := by decide +kernel
theorem dX7_roomAt_24 : decode cX7_roomAt 24 = .ok (.iload_n 3, 1) := by decide +kernel
theorem dX7_roomAt_25 : decode cX7_roomAt 25 = .ok (.ireturn, 1) := by decide +kernel
theorem dX7_laysFirst_0 : decode cX7_laysFirst 0 = .ok (.aload_n 0, 1) := by decide +kernel
theorem dX7_laysFirst_1 : decode cX7_laysFirst 1 = .ok (.iload_n 1, 1) := by decide +kernel
theorem dX7_laysFirst_2 : decode cX7_laysFirst 2 = .ok (.invokevirtual 201, 3) := by decide +kernel
theorem dX7_laysFirst_5 : decode cX7_laysFirst 5 = .ok (.istore_n 2, 1) := by decide +kernel
theorem dX7_laysFirst_6 : decode cX7_laysFirst 6 = .ok (.iload_n 2, 1) := by decide +kernel
theorem dX7_laysFirst_7 : decode cX7_laysFirst 7 = .ok (.aload_n 0, 1) := by decide +kernel
theorem dX7_laysFirst_8 : decode cX7_laysFirst 8 = .ok (.iload_n 1, 1) := by decide +kernel
theorem dX7_laysFirst_9 : decode cX7_laysFirst 9 = .ok (.invokevirtual 171, 3) := by decide +kernel
theorem dX7_laysFirst_12 : decode cX7_laysFirst 12 = .ok (.iadd, 1) := by decide +kernel
theorem dX7_laysFirst_13 : decode cX7_laysFirst 13 = .ok (.istore_n 3, 1) := by decide +kernel
theorem dX7_laysFirst_14 : decode cX7_laysFirst 14 = .ok (.aload_n 0, 1) := by decide +kernel
theorem dX7_laysFirst_15 : decode cX7_laysFirst 15 = .ok (.getfield 41, 3) := by decide +kernel
theorem dX7_laysFirst_18 : decode cX7_laysFirst 18 = .ok (.iload_n 1, 1) := by decide +kernel
theorem dX7_laysFirst_19 : decode cX7_laysFirst 19 = .ok (.iaload, 1) := by decide +kernel
theorem dX7_laysFirst_20 : decode cX7_laysFirst 20 = .ok (.istore 4, 2) := by decide +kernel
theorem dX7_laysFirst_22 : decode cX7_laysFirst 22 = .ok (.iload_n 2, 1) := by decide +kernel
theorem dX7_laysFirst_23 : decode cX7_laysFirst 23 = .ok (.iload_n 3, 1) := by decide +kernel
theorem dX7_laysFirst_24 : decode cX7_laysFirst 24 = .ok (.if_icmp .ge 71, 3) := by decide +kernel
theorem dX7_laysFirst_27 : decode cX7_laysFirst 27 = .ok (.aload_n 0, 1) := by decide +kernel
theorem dX7_laysFirst_28 : decode cX7_laysFirst 28 = .ok (.iload_n 1, 1) := by decide +kernel
theorem dX7_laysFirst_29 : decode cX7_laysFirst 29 = .ok (.iload 4, 2) := by decide +kernel
theorem dX7_laysFirst_31 : decode cX7_laysFirst 31 = .ok (.invokevirtual 204, 3) := by decide +kernel
theorem dX7_laysFirst_34 : decode cX7_laysFirst 34 = .ok (.istore 5, 2) := by decide +kernel
theorem dX7_laysFirst_36 : decode cX7_laysFirst 36 = .ok (.iconst 1, 1) := by decide +kernel
theorem dX7_laysFirst_37 : decode cX7_laysFirst 37 = .ok (.istore 6, 2) := by decide +kernel
theorem dX7_laysFirst_39 : decode cX7_laysFirst 39 = .ok (.iload_n 2, 1) := by decide +kernel
theorem dX7_laysFirst_40 : decode cX7_laysFirst 40 = .ok (.iload 6, 2) := by decide +kernel
theorem dX7_laysFirst_42 : decode cX7_laysFirst 42 = .ok (.iadd, 1) := by decide +kernel
theorem dX7_laysFirst_43 : decode cX7_laysFirst 43 = .ok (.iload_n 3, 1) := by decide +kernel
theorem dX7_laysFirst_44 : decode cX7_laysFirst 44 = .ok (.if_icmp .ge 23, 3) := by decide +kernel
theorem dX7_laysFirst_47 : decode cX7_laysFirst 47 = .ok (.aload_n 0, 1) := by decide +kernel
theorem dX7_laysFirst_48 : decode cX7_laysFirst 48 = .ok (.iload_n 2, 1) := by decide +kernel
theorem dX7_laysFirst_49 : decode cX7_laysFirst 49 = .ok (.iload 6, 2) := by decide +kernel
theorem dX7_laysFirst_51 : decode cX7_laysFirst 51 = .ok (.iconst 1, 1) := by decide +kernel
theorem dX7_laysFirst_52 : decode cX7_laysFirst 52 = .ok (.iadd, 1) := by decide +kernel
theorem dX7_laysFirst_53 : decode cX7_laysFirst 53 = .ok (.invokevirtual 207, 3) := by decide +kernel
theorem dX7_laysFirst_56 : decode cX7_laysFirst 56 = .ok (.iload 5, 2) := by decide +kernel
theorem dX7_laysFirst_58 : decode cX7_laysFirst 58 = .ok (.if_icmp .gt 9, 3) := by decide +kernel
theorem dX7_laysFirst_61 : decode cX7_laysFirst 61 = .ok (.iinc 6 1, 3) := by decide +kernel
theorem dX7_laysFirst_64 : decode cX7_laysFirst 64 = .ok (.goto (-25), 3) := by decide +kernel
theorem dX7_laysFirst_67 : decode cX7_laysFirst 67 = .ok (.aload_n 0, 1) := by decide +kernel
theorem dX7_laysFirst_68 : decode cX7_laysFirst 68 = .ok (.getfield 50, 3) := by decide +kernel
theorem dX7_laysFirst_71 : decode cX7_laysFirst 71 = .ok (.iload 4, 2) := by decide +kernel
theorem dX7_laysFirst_73 : decode cX7_laysFirst 73 = .ok (.iload_n 2, 1) := by decide +kernel
theorem dX7_laysFirst_74 : decode cX7_laysFirst 74 = .ok (.iastore, 1) := by decide +kernel
theorem dX7_laysFirst_75 : decode cX7_laysFirst 75 = .ok (.aload_n 0, 1) := by decide +kernel
theorem dX7_laysFirst_76 : decode cX7_laysFirst 76 = .ok (.getfield 53, 3) := by decide +kernel
theorem dX7_laysFirst_79 : decode cX7_laysFirst 79 = .ok (.iload 4, 2) := by decide +kernel
theorem dX7_laysFirst_81 : decode cX7_laysFirst 81 = .ok (.iload 6, 2) := by decide +kernel
theorem dX7_laysFirst_83 : decode cX7_laysFirst 83 = .ok (.iastore, 1) := by decide +kernel
theorem dX7_laysFirst_84 : decode cX7_laysFirst 84 = .ok (.iload_n 2, 1) := by decide +kernel
theorem dX7_laysFirst_85 : decode cX7_laysFirst 85 = .ok (.iload 6, 2) := by decide +kernel
theorem dX7_laysFirst_87 : decode cX7_laysFirst 87 = .ok (.iadd, 1) := by decide +kernel
theorem dX7_laysFirst_88 : decode cX7_laysFirst 88 = .ok (.istore_n 2, 1) := by decide +kernel
theorem dX7_laysFirst_89 : decode cX7_laysFirst 89 = .ok (.iinc 4 1, 3) := by decide +kernel
theorem dX7_laysFirst_92 : decode cX7_laysFirst 92 = .ok (.goto (-70), 3) := by decide +kernel
theorem dX7_laysFirst_95 : decode cX7_laysFirst 95 = .ok (.iload 4, 2) := by decide +kernel
theorem dX7_laysFirst_97 : decode cX7_laysFirst 97 = .ok (.aload_n 0, 1) := by decide +kernel
theorem dX7_laysFirst_98 : decode cX7_laysFirst 98 = .ok (.getfield 41, 3) := by decide +kernel
theorem dX7_laysFirst_101 : decode cX7_laysFirst 101 = .ok (.iload_n 1, 1) := by decide +kernel
theorem dX7_laysFirst_102 : decode cX7_laysFirst 102 = .ok (.iaload, 1) := by decide +kernel
theorem dX7_laysFirst_103 : decode cX7_laysFirst 103 = .ok (.isub, 1) := by decide +kernel
theorem dX7_laysFirst_104 : decode cX7_laysFirst 104 = .ok (.ireturn, 1) := by decide +kernel
theorem dX7_laysEven_0 : decode cX7_laysEven 0 = .ok (.aload_n 0, 1) := by decide +kernel
theorem dX7_laysEven_1 : decode cX7_laysEven 1 = .ok (.iload_n 1, 1) := by decide +kernel
theorem dX7_laysEven_2 : decode cX7_laysEven 2 = .ok (.invokevirtual 171, 3) := by decide +kernel
theorem dX7_laysEven_5 : decode cX7_laysEven 5 = .ok (.istore_n 3, 1) := by decide +kernel
theorem dX7_laysEven_6 : decode cX7_laysEven 6 = .ok (.aload_n 0, 1) := by decide +kernel
theorem dX7_laysEven_7 : decode cX7_laysEven 7 = .ok (.iload_n 1, 1) := by decide +kernel
theorem dX7_laysEven_8 : decode cX7_laysEven 8 = .ok (.invokevirtual 201, 3) := by decide +kernel
theorem dX7_laysEven_11 : decode cX7_laysEven 11 = .ok (.istore 4, 2) := by decide +kernel
theorem dX7_laysEven_13 : decode cX7_laysEven 13 = .ok (.iload_n 2, 1) := by decide +kernel
theorem dX7_laysEven_14 : decode cX7_laysEven 14 = .ok (.iconst 1, 1) := by decide +kernel
theorem dX7_laysEven_15 : decode cX7_laysEven 15 = .ok (.isub, 1) := by decide +kernel
theorem dX7_laysEven_16 : decode cX7_laysEven 16 = .ok (.istore 5, 2) := by decide +kernel
theorem dX7_laysEven_18 : decode cX7_laysEven 18 = .ok (.iload 5, 2) := by decide +kernel
theorem dX7_laysEven_20 : decode cX7_laysEven 20 = .ok (.ifCond .lt 76, 3) := by decide +kernel
theorem dX7_laysEven_23 : decode cX7_laysEven 23 = .ok (.aload_n 0, 1) := by decide +kernel
theorem dX7_laysEven_24 : decode cX7_laysEven 24 = .ok (.iload_n 1, 1) := by decide +kernel
theorem dX7_laysEven_25 : decode cX7_laysEven 25 = .ok (.aload_n 0, 1) := by decide +kernel
theorem dX7_laysEven_26 : decode cX7_laysEven 26 = .ok (.getfield 41, 3) := by decide +kernel
theorem dX7_laysEven_29 : decode cX7_laysEven 29 = .ok (.iload_n 1, 1) := by decide +kernel
theorem dX7_laysEven_30 : decode cX7_laysEven 30 = .ok (.iaload, 1) := by decide +kernel
theorem dX7_laysEven_31 : decode cX7_laysEven 31 = .ok (.iload 5, 2) := by decide +kernel
theorem dX7_laysEven_33 : decode cX7_laysEven 33 = .ok (.iadd, 1) := by decide +kernel
theorem dX7_laysEven_34 : decode cX7_laysEven 34 = .ok (.invokevirtual 204, 3) := by decide +kernel
theorem dX7_laysEven_37 : decode cX7_laysEven 37 = .ok (.istore 6, 2) := by decide +kernel
theorem dX7_laysEven_39 : decode cX7_laysEven 39 = .ok (.iconst 0, 1) := by decide +kernel
theorem dX7_laysEven_40 : decode cX7_laysEven 40 = .ok (.istore 7, 2) := by decide +kernel
theorem dX7_laysEven_42 : decode cX7_laysEven 42 = .ok (.iload 7, 2) := by decide +kernel
theorem dX7_laysEven_44 : decode cX7_laysEven 44 = .ok (.iload_n 3, 1) := by decide +kernel
theorem dX7_laysEven_45 : decode cX7_laysEven 45 = .ok (.if_icmp .ge 45, 3) := by decide +kernel
theorem dX7_laysEven_48 : decode cX7_laysEven 48 = .ok (.aload_n 0, 1) := by decide +kernel
theorem dX7_laysEven_49 : decode cX7_laysEven 49 = .ok (.bipush 81, 2) := by decide +kernel
theorem dX7_laysEven_51 : decode cX7_laysEven 51 = .ok (.iload 5, 2) := by decide +kernel
theorem dX7_laysEven_53 : decode cX7_laysEven 53 = .ok (.imul, 1) := by decide +kernel
theorem dX7_laysEven_54 : decode cX7_laysEven 54 = .ok (.iload 7, 2) := by decide +kernel
theorem dX7_laysEven_56 : decode cX7_laysEven 56 = .ok (.iadd, 1) := by decide +kernel
theorem dX7_laysEven_57 : decode cX7_laysEven 57 = .ok (.iload 4, 2) := by decide +kernel
theorem dX7_laysEven_59 : decode cX7_laysEven 59 = .ok (.iload 7, 2) := by decide +kernel
theorem dX7_laysEven_61 : decode cX7_laysEven 61 = .ok (.iadd, 1) := by decide +kernel
theorem dX7_laysEven_62 : decode cX7_laysEven 62 = .ok (.iload_n 3, 1) := by decide +kernel
theorem dX7_laysEven_63 : decode cX7_laysEven 63 = .ok (.iload 7, 2) := by decide +kernel
theorem dX7_laysEven_65 : decode cX7_laysEven 65 = .ok (.isub, 1) := by decide +kernel
theorem dX7_laysEven_66 : decode cX7_laysEven 66 = .ok (.iload 5, 2) := by decide +kernel
theorem dX7_laysEven_68 : decode cX7_laysEven 68 = .ok (.iload_n 2, 1) := by decide +kernel
theorem dX7_laysEven_69 : decode cX7_laysEven 69 = .ok (.iconst 1, 1) := by decide +kernel
theorem dX7_laysEven_70 : decode cX7_laysEven 70 = .ok (.isub, 1) := by decide +kernel
theorem dX7_laysEven_71 : decode cX7_laysEven 71 = .ok (.if_icmp .ne 7, 3) := by decide +kernel
theorem dX7_laysEven_74 : decode cX7_laysEven 74 = .ok (.iconst 1, 1) := by decide +kernel
theorem dX7_laysEven_75 : decode cX7_laysEven 75 = .ok (.goto 4, 3) := by decide +kernel
theorem dX7_laysEven_78 : decode cX7_laysEven 78 = .ok (.iconst 0, 1) := by decide +kernel
theorem dX7_laysEven_79 : decode cX7_laysEven 79 = .ok (.iload 6, 2) := by decide +kernel
theorem dX7_laysEven_81 : decode cX7_laysEven 81 = .ok (.invokevirtual 210, 3) := by decide +kernel
theorem dX7_laysEven_84 : decode cX7_laysEven 84 = .ok (.iinc 7 1, 3) := by decide +kernel
theorem dX7_laysEven_87 : decode cX7_laysEven 87 = .ok (.goto (-45), 3) := by decide +kernel
theorem dX7_laysEven_90 : decode cX7_laysEven 90 = .ok (.iinc 5 (-1), 3) := by decide +kernel
theorem dX7_laysEven_93 : decode cX7_laysEven 93 = .ok (.goto (-75), 3) := by decide +kernel
theorem dX7_laysEven_96 : decode cX7_laysEven 96 = .ok (.iconst 0, 1) := by decide +kernel
theorem dX7_laysEven_97 : decode cX7_laysEven 97 = .ok (.istore 5, 2) := by decide +kernel
theorem dX7_laysEven_99 : decode cX7_laysEven 99 = .ok (.iconst 0, 1) := by decide +kernel
theorem dX7_laysEven_100 : decode cX7_laysEven 100 = .ok (.istore 6, 2) := by decide +kernel
theorem dX7_laysEven_102 : decode cX7_laysEven 102 = .ok (.iload 6, 2) := by decide +kernel
theorem dX7_laysEven_104 : decode cX7_laysEven 104 = .ok (.iload_n 2, 1) := by decide +kernel
theorem dX7_laysEven_105 : decode cX7_laysEven 105 = .ok (.if_icmp .ge 73, 3) := by decide +kernel
theorem dX7_laysEven_108 : decode cX7_laysEven 108 = .ok (.aload_n 0, 1) := by decide +kernel
theorem dX7_laysEven_109 : decode cX7_laysEven 109 = .ok (.getfield 50, 3) := by decide +kernel
theorem dX7_laysEven_112 : decode cX7_laysEven 112 = .ok (.aload_n 0, 1) := by decide +kernel
theorem dX7_laysEven_113 : decode cX7_laysEven 113 = .ok (.getfield 41, 3) := by decide +kernel
theorem dX7_laysEven_116 : decode cX7_laysEven 116 = .ok (.iload_n 1, 1) := by decide +kernel
theorem dX7_laysEven_117 : decode cX7_laysEven 117 = .ok (.iaload, 1) := by decide +kernel
theorem dX7_laysEven_118 : decode cX7_laysEven 118 = .ok (.iload 6, 2) := by decide +kernel
theorem dX7_laysEven_120 : decode cX7_laysEven 120 = .ok (.iadd, 1) := by decide +kernel
theorem dX7_laysEven_121 : decode cX7_laysEven 121 = .ok (.iload 4, 2) := by decide +kernel
theorem dX7_laysEven_123 : decode cX7_laysEven 123 = .ok (.iload 5, 2) := by decide +kernel
theorem dX7_laysEven_125 : decode cX7_laysEven 125 = .ok (.iadd, 1) := by decide +kernel
theorem dX7_laysEven_126 : decode cX7_laysEven 126 = .ok (.iastore, 1) := by decide +kernel
theorem dX7_laysEven_127 : decode cX7_laysEven 127 = .ok (.aload_n 0, 1) := by decide +kernel
theorem dX7_laysEven_128 : decode cX7_laysEven 128 = .ok (.getfield 53, 3) := by decide +kernel
theorem dX7_laysEven_131 : decode cX7_laysEven 131 = .ok (.aload_n 0, 1) := by decide +kernel
theorem dX7_laysEven_132 : decode cX7_laysEven 132 = .ok (.getfield 41, 3) := by decide +kernel
theorem dX7_laysEven_135 : decode cX7_laysEven 135 = .ok (.iload_n 1, 1) := by decide +kernel
theorem dX7_laysEven_136 : decode cX7_laysEven 136 = .ok (.iaload, 1) := by decide +kernel
theorem dX7_laysEven_137 : decode cX7_laysEven 137 = .ok (.iload 6, 2) := by decide +kernel
theorem dX7_laysEven_139 : decode cX7_laysEven 139 = .ok (.iadd, 1) := by decide +kernel
theorem dX7_laysEven_140 : decode cX7_laysEven 140 = .ok (.aload_n 0, 1) := by decide +kernel
theorem dX7_laysEven_141 : decode cX7_laysEven 141 = .ok (.getfield 65, 3) := by decide +kernel
theorem dX7_laysEven_144 : decode cX7_laysEven 144 = .ok (.bipush 81, 2) := by decide +kernel
theorem dX7_laysEven_146 : decode cX7_laysEven 146 = .ok (.iload 6, 2) := by decide +kernel
theorem dX7_laysEven_148 : decode cX7_laysEven 148 = .ok (.imul, 1) := by decide +kernel
theorem dX7_laysEven_149 : decode cX7_laysEven 149 = .ok (.iload 5, 2) := by decide +kernel
theorem dX7_laysEven_151 : decode cX7_laysEven 151 = .ok (.iadd, 1) := by decide +kernel
theorem dX7_laysEven_152 : decode cX7_laysEven 152 = .ok (.iaload, 1) := by decide +kernel
theorem dX7_laysEven_153 : decode cX7_laysEven 153 = .ok (.iastore, 1) := by decide +kernel
theorem dX7_laysEven_154 : decode cX7_laysEven 154 = .ok (.iload 5, 2) := by decide +kernel
theorem dX7_laysEven_156 : decode cX7_laysEven 156 = .ok (.aload_n 0, 1) := by decide +kernel
theorem dX7_laysEven_157 : decode cX7_laysEven 157 = .ok (.getfield 65, 3) := by decide +kernel
theorem dX7_laysEven_160 : decode cX7_laysEven 160 = .ok (.bipush 81, 2) := by decide +kernel
theorem dX7_laysEven_162 : decode cX7_laysEven 162 = .ok (.iload 6, 2) := by decide +kernel
theorem dX7_laysEven_164 : decode cX7_laysEven 164 = .ok (.imul, 1) := by decide +kernel
theorem dX7_laysEven_165 : decode cX7_laysEven 165 = .ok (.iload 5, 2) := by decide +kernel
theorem dX7_laysEven_167 : decode cX7_laysEven 167 = .ok (.iadd, 1) := by decide +kernel
theorem dX7_laysEven_168 : decode cX7_laysEven 168 = .ok (.iaload, 1) := by decide +kernel
theorem dX7_laysEven_169 : decode cX7_laysEven 169 = .ok (.iadd, 1) := by decide +kernel
theorem dX7_laysEven_170 : decode cX7_laysEven 170 = .ok (.istore 5, 2) := by decide +kernel
theorem dX7_laysEven_172 : decode cX7_laysEven 172 = .ok (.iinc 6 1, 3) := by decide +kernel
theorem dX7_laysEven_175 : decode cX7_laysEven 175 = .ok (.goto (-73), 3) := by decide +kernel
theorem dX7_laysEven_178 : decode cX7_laysEven 178 = .ok (.return_, 1) := by decide +kernel
theorem dX7_choosesAt_0 : decode cX7_choosesAt 0 = .ok (.aload_n 0, 1) := by decide +kernel
theorem dX7_choosesAt_1 : decode cX7_choosesAt 1 = .ok (.getfield 65, 3) := by decide +kernel
theorem dX7_choosesAt_4 : decode cX7_choosesAt 4 = .ok (.iload_n 1, 1) := by decide +kernel
theorem dX7_choosesAt_5 : decode cX7_choosesAt 5 = .ok (.iconst 0, 1) := by decide +kernel
theorem dX7_choosesAt_6 : decode cX7_choosesAt 6 = .ok (.iastore, 1) := by decide +kernel
theorem dX7_choosesAt_7 : decode cX7_choosesAt 7 = .ok (.iconst (-1), 1) := by decide +kernel
theorem dX7_choosesAt_8 : decode cX7_choosesAt 8 = .ok (.istore 6, 2) := by decide +kernel
theorem dX7_choosesAt_10 : decode cX7_choosesAt 10 = .ok (.iconst 1, 1) := by decide +kernel
theorem dX7_choosesAt_11 : decode cX7_choosesAt 11 = .ok (.istore 7, 2) := by decide +kernel
theorem dX7_choosesAt_13 : decode cX7_choosesAt 13 = .ok (.iload 7, 2) := by decide +kernel
theorem dX7_choosesAt_15 : decode cX7_choosesAt 15 = .ok (.iload_n 3, 1) := by decide +kernel
theorem dX7_choosesAt_16 : decode cX7_choosesAt 16 = .ok (.if_icmp .gt 253, 3) := by decide +kernel
theorem dX7_choosesAt_19 : decode cX7_choosesAt 19 = .ok (.iload 6, 2) := by decide +kernel
theorem dX7_choosesAt_21 : decode cX7_choosesAt 21 = .ok (.iconst 1, 1) := by decide +kernel
theorem dX7_choosesAt_22 : decode cX7_choosesAt 22 = .ok (.aload_n 0, 1) := by decide +kernel
theorem dX7_choosesAt_23 : decode cX7_choosesAt 23 = .ok (.iload_n 2, 1) := by decide +kernel
theorem dX7_choosesAt_24 : decode cX7_choosesAt 24 = .ok (.iload 7, 2) := by decide +kernel
theorem dX7_choosesAt_26 : decode cX7_choosesAt 26 = .ok (.iadd, 1) := by decide +kernel
theorem dX7_choosesAt_27 : decode cX7_choosesAt 27 = .ok (.iconst 1, 1) := by decide +kernel
theorem dX7_choosesAt_28 : decode cX7_choosesAt 28 = .ok (.isub, 1) := by decide +kernel
theorem dX7_choosesAt_29 : decode cX7_choosesAt 29 = .ok (.invokevirtual 195, 3) := by decide +kernel
theorem dX7_choosesAt_32 : decode cX7_choosesAt 32 = .ok (.iadd, 1) := by decide +kernel
theorem dX7_choosesAt_33 : decode cX7_choosesAt 33 = .ok (.iadd, 1) := by decide +kernel
theorem dX7_choosesAt_34 : decode cX7_choosesAt 34 = .ok (.istore 6, 2) := by decide +kernel
theorem dX7_choosesAt_36 : decode cX7_choosesAt 36 = .ok (.iload 6, 2) := by decide +kernel
theorem dX7_choosesAt_38 : decode cX7_choosesAt 38 = .ok (.iload 5, 2) := by decide +kernel
theorem dX7_choosesAt_40 : decode cX7_choosesAt 40 = .ok (.if_icmp .gt 7, 3) := by decide +kernel
theorem dX7_choosesAt_43 : decode cX7_choosesAt 43 = .ok (.iconst 1, 1) := by decide +kernel
theorem dX7_choosesAt_44 : decode cX7_choosesAt 44 = .ok (.goto 4, 3) := by decide +kernel
theorem dX7_choosesAt_47 : decode cX7_choosesAt 47 = .ok (.iconst 0, 1) := by decide +kernel
theorem dX7_choosesAt_48 : decode cX7_choosesAt 48 = .ok (.istore 8, 2) := by decide +kernel
theorem dX7_choosesAt_50 : decode cX7_choosesAt 50 = .ok (.iload 7, 2) := by decide +kernel
theorem dX7_choosesAt_52 : decode cX7_choosesAt 52 = .ok (.iconst 1, 1) := by decide +kernel
theorem dX7_choosesAt_53 : decode cX7_choosesAt 53 = .ok (.if_icmp .le 9, 3) := by decide +kernel
theorem dX7_choosesAt_56 : decode cX7_choosesAt 56 = .ok (.iload 8, 2) := by decide +kernel
theorem dX7_choosesAt_58 : decode cX7_choosesAt 58 = .ok (.ifCond .ne 4, 3) := by decide +kernel
theorem dX7_choosesAt_61 : decode cX7_choosesAt 61 = .ok (.return_, 1) := by decide +kernel
theorem dX7_choosesAt_62 : decode cX7_choosesAt 62 = .ok (.iload 8, 2) := by decide +kernel
theorem dX7_choosesAt_64 : decode cX7_choosesAt 64 = .ok (.ifCond .eq 7, 3) := by decide +kernel
theorem dX7_choosesAt_67 : decode cX7_choosesAt 67 = .ok (.iconst 0, 1) := by decide +kernel
theorem dX7_choosesAt_68 : decode cX7_choosesAt 68 = .ok (.goto 4, 3) := by decide +kernel
theorem dX7_choosesAt_71 : decode cX7_choosesAt 71 = .ok (.iconst 1, 1) := by decide +kernel
theorem dX7_choosesAt_72 : decode cX7_choosesAt 72 = .ok (.istore 9, 2) := by decide +kernel
theorem dX7_choosesAt_74 : decode cX7_choosesAt 74 = .ok (.iload 4, 2) := by decide +kernel
theorem dX7_choosesAt_76 : decode cX7_choosesAt 76 = .ok (.ifCond .ne 8, 3) := by decide +kernel
theorem dX7_choosesAt_79 : decode cX7_choosesAt 79 = .ok (.iload 8, 2) := by decide +kernel
theorem dX7_choosesAt_81 : decode cX7_choosesAt 81 = .ok (.ifCond .ne 7, 3) := by decide +kernel
theorem dX7_choosesAt_84 : decode cX7_choosesAt 84 = .ok (.iconst 0, 1) := by decide +kernel
theorem dX7_choosesAt_85 : decode cX7_choosesAt 85 = .ok (.goto 14, 3) := by decide +kernel
theorem dX7_choosesAt_88 : decode cX7_choosesAt 88 = .ok (.iload 5, 2) := by decide +kernel
theorem dX7_choosesAt_90 : decode cX7_choosesAt 90 = .ok (.iload 6, 2) := by decide +kernel
theorem dX7_choosesAt_92 : decode cX7_choosesAt 92 = .ok (.isub, 1) := by decide +kernel
theorem dX7_choosesAt_93 : decode cX7_choosesAt 93 = .ok (.iload 5, 2) := by decide +kernel
theorem dX7_choosesAt_95 : decode cX7_choosesAt 95 = .ok (.iload 6, 2) := by decide +kernel
theorem dX7_choosesAt_97 : decode cX7_choosesAt 97 = .ok (.isub, 1) := by decide +kernel
theorem dX7_choosesAt_98 : decode cX7_choosesAt 98 = .ok (.imul, 1) := by decide +kernel
theorem dX7_choosesAt_99 : decode cX7_choosesAt 99 = .ok (.istore 10, 2) := by decide +kernel
theorem dX7_choosesAt_101 : decode cX7_choosesAt 101 = .ok (.iload 4, 2) := by decide +kernel
theorem dX7_choosesAt_103 : decode cX7_choosesAt 103 = .ok (.ifCond .eq 17, 3) := by decide +kernel
theorem dX7_choosesAt_106 : decode cX7_choosesAt 106 = .ok (.iload 7, 2) := by decide +kernel
theorem dX7_choosesAt_108 : decode cX7_choosesAt 108 = .ok (.iload_n 3, 1) := by decide +kernel
theorem dX7_choosesAt_109 : decode cX7_choosesAt 109 = .ok (.if_icmp .ne 7, 3) := by decide +kernel
theorem dX7_choosesAt_112 : decode cX7_choosesAt 112 = .ok (.iconst 1, 1) := by decide +kernel
theorem dX7_choosesAt_113 : decode cX7_choosesAt 113 = .ok (.goto 33, 3) := by decide +kernel
theorem dX7_choosesAt_116 : decode cX7_choosesAt 116 = .ok (.iconst 0, 1) := by decide +kernel
theorem dX7_choosesAt_117 : decode cX7_choosesAt 117 = .ok (.goto 29, 3) := by decide +kernel
theorem dX7_choosesAt_120 : decode cX7_choosesAt 120 = .ok (.iload 7, 2) := by decide +kernel
theorem dX7_choosesAt_122 : decode cX7_choosesAt 122 = .ok (.iload_n 3, 1) := by decide +kernel
theorem dX7_choosesAt_123 : decode cX7_choosesAt 123 = .ok (.if_icmp .ge 22, 3) := by decide +kernel
theorem dX7_choosesAt_126 : decode cX7_choosesAt 126 = .ok (.aload_n 0, 1) := by decide +kernel
theorem dX7_choosesAt_127 : decode cX7_choosesAt 127 = .ok (.getfield 65, 3) := by decide +kernel
theorem dX7_choosesAt_130 : decode cX7_choosesAt 130 = .ok (.iload_n 1, 1) := by decide +kernel
theorem dX7_choosesAt_131 : decode cX7_choosesAt 131 = .ok (.bipush 81, 2) := by decide +kernel
theorem dX7_choosesAt_133 : decode cX7_choosesAt 133 = .ok (.iadd, 1) := by decide +kernel
theorem dX7_choosesAt_134 : decode cX7_choosesAt 134 = .ok (.iload 7, 2) := by decide +kernel
theorem dX7_choosesAt_136 : decode cX7_choosesAt 136 = .ok (.iadd, 1) := by decide +kernel
theorem dX7_choosesAt_137 : decode cX7_choosesAt 137 = .ok (.iaload, 1) := by decide +kernel
theorem dX7_choosesAt_138 : decode cX7_choosesAt 138 = .ok (.ifCond .le 7, 3) := by decide +kernel
theorem dX7_choosesAt_141 : decode cX7_choosesAt 141 = .ok (.iconst 1, 1) := by decide +kernel
theorem dX7_choosesAt_142 : decode cX7_choosesAt 142 = .ok (.goto 4, 3) := by decide +kernel
theorem dX7_choosesAt_145 : decode cX7_choosesAt 145 = .ok (.iconst 0, 1) := by decide +kernel
theorem dX7_choosesAt_146 : decode cX7_choosesAt 146 = .ok (.istore 11, 2) := by decide +kernel
theorem dX7_choosesAt_148 : decode cX7_choosesAt 148 = .ok (.iload 11, 2) := by decide +kernel
theorem dX7_choosesAt_150 : decode cX7_choosesAt 150 = .ok (.ifCond .eq 42, 3) := by decide +kernel
theorem dX7_choosesAt_153 : decode cX7_choosesAt 153 = .ok (.iload 4, 2) := by decide +kernel
theorem dX7_choosesAt_155 : decode cX7_choosesAt 155 = .ok (.ifCond .ne 37, 3) := by decide +kernel
theorem dX7_choosesAt_158 : decode cX7_choosesAt 158 = .ok (.iload 9, 2) := by decide +kernel
theorem dX7_choosesAt_160 : decode cX7_choosesAt 160 = .ok (.aload_n 0, 1) := by decide +kernel
theorem dX7_choosesAt_161 : decode cX7_choosesAt 161 = .ok (.getfield 59, 3) := by decide +kernel
theorem dX7_choosesAt_164 : decode cX7_choosesAt 164 = .ok (.iload_n 1, 1) := by decide +kernel
theorem dX7_choosesAt_165 : decode cX7_choosesAt 165 = .ok (.bipush 81, 2) := by decide +kernel
theorem dX7_choosesAt_167 : decode cX7_choosesAt 167 = .ok (.iadd, 1) := by decide +kernel
theorem dX7_choosesAt_168 : decode cX7_choosesAt 168 = .ok (.iload 7, 2) := by decide +kernel
theorem dX7_choosesAt_170 : decode cX7_choosesAt 170 = .ok (.iadd, 1) := by decide +kernel
theorem dX7_choosesAt_171 : decode cX7_choosesAt 171 = .ok (.iaload, 1) := by decide +kernel
theorem dX7_choosesAt_172 : decode cX7_choosesAt 172 = .ok (.iadd, 1) := by decide +kernel
theorem dX7_choosesAt_173 : decode cX7_choosesAt 173 = .ok (.istore 9, 2) := by decide +kernel
theorem dX7_choosesAt_175 : decode cX7_choosesAt 175 = .ok (.iload 10, 2) := by decide +kernel
theorem dX7_choosesAt_177 : decode cX7_choosesAt 177 = .ok (.aload_n 0, 1) := by decide +kernel
theorem dX7_choosesAt_178 : decode cX7_choosesAt 178 = .ok (.getfield 62, 3) := by decide +kernel
theorem dX7_choosesAt_181 : decode cX7_choosesAt 181 = .ok (.iload_n 1, 1) := by decide +kernel
theorem dX7_choosesAt_182 : decode cX7_choosesAt 182 = .ok (.bipush 81, 2) := by decide +kernel
theorem dX7_choosesAt_184 : decode cX7_choosesAt 184 = .ok (.iadd, 1) := by decide +kernel
theorem dX7_choosesAt_185 : decode cX7_choosesAt 185 = .ok (.iload 7, 2) := by decide +kernel
theorem dX7_choosesAt_187 : decode cX7_choosesAt 187 = .ok (.iadd, 1) := by decide +kernel
theorem dX7_choosesAt_188 : decode cX7_choosesAt 188 = .ok (.iaload, 1) := by decide +kernel
theorem dX7_choosesAt_189 : decode cX7_choosesAt 189 = .ok (.iadd, 1) := by decide +kernel
theorem dX7_choosesAt_190 : decode cX7_choosesAt 190 = .ok (.istore 10, 2) := by decide +kernel
theorem dX7_choosesAt_192 : decode cX7_choosesAt 192 = .ok (.iload 11, 2) := by decide +kernel
theorem dX7_choosesAt_194 : decode cX7_choosesAt 194 = .ok (.ifCond .eq 69, 3) := by decide +kernel
theorem dX7_choosesAt_197 : decode cX7_choosesAt 197 = .ok (.aload_n 0, 1) := by decide +kernel
theorem dX7_choosesAt_198 : decode cX7_choosesAt 198 = .ok (.getfield 65, 3) := by decide +kernel
theorem dX7_choosesAt_201 : decode cX7_choosesAt 201 = .ok (.iload_n 1, 1) := by decide +kernel
theorem dX7_choosesAt_202 : decode cX7_choosesAt 202 = .ok (.iaload, 1) := by decide +kernel
theorem dX7_choosesAt_203 : decode cX7_choosesAt 203 = .ok (.ifCond .eq 36, 3) := by decide +kernel
theorem dX7_choosesAt_206 : decode cX7_choosesAt 206 = .ok (.iload 9, 2) := by decide +kernel
theorem dX7_choosesAt_208 : decode cX7_choosesAt 208 = .ok (.aload_n 0, 1) := by decide +kernel
theorem dX7_choosesAt_209 : decode cX7_choosesAt 209 = .ok (.getfield 59, 3) := by decide +kernel
theorem dX7_choosesAt_212 : decode cX7_choosesAt 212 = .ok (.iload_n 1, 1) := by decide +kernel
theorem dX7_choosesAt_213 : decode cX7_choosesAt 213 = .ok (.iaload, 1) := by decide +kernel
theorem dX7_choosesAt_214 : decode cX7_choosesAt 214 = .ok (.if_icmp .lt 25, 3) := by decide +kernel
theorem dX7_choosesAt_217 : decode cX7_choosesAt 217 = .ok (.iload 9, 2) := by decide +kernel
theorem dX7_choosesAt_219 : decode cX7_choosesAt 219 = .ok (.aload_n 0, 1) := by decide +kernel
theorem dX7_choosesAt_220 : decode cX7_choosesAt 220 = .ok (.getfield 59, 3) := by decide +kernel
theorem dX7_choosesAt_223 : decode cX7_choosesAt 223 = .ok (.iload_n 1, 1) := by decide +kernel
theorem dX7_choosesAt_224 : decode cX7_choosesAt 224 = .ok (.iaload, 1) := by decide +kernel
theorem dX7_choosesAt_225 : decode cX7_choosesAt 225 = .ok (.if_icmp .ne 38, 3) := by decide +kernel
theorem dX7_choosesAt_228 : decode cX7_choosesAt 228 = .ok (.iload 10, 2) := by decide +kernel
theorem dX7_choosesAt_230 : decode cX7_choosesAt 230 = .ok (.aload_n 0, 1) := by decide +kernel
theorem dX7_choosesAt_231 : decode cX7_choosesAt 231 = .ok (.getfield 62, 3) := by decide +kernel
theorem dX7_choosesAt_234 : decode cX7_choosesAt 234 = .ok (.iload_n 1, 1) := by decide +kernel
theorem dX7_choosesAt_235 : decode cX7_choosesAt 235 = .ok (.iaload, 1) := by decide +kernel
theorem dX7_choosesAt_236 : decode cX7_choosesAt 236 = .ok (.if_icmp .gt 27, 3) := by decide +kernel
theorem dX7_choosesAt_239 : decode cX7_choosesAt 239 = .ok (.aload_n 0, 1) := by decide +kernel
theorem dX7_choosesAt_240 : decode cX7_choosesAt 240 = .ok (.getfield 65, 3) := by decide +kernel
theorem dX7_choosesAt_243 : decode cX7_choosesAt 243 = .ok (.iload_n 1, 1) := by decide +kernel
theorem dX7_choosesAt_244 : decode cX7_choosesAt 244 = .ok (.iload 7, 2) := by decide +kernel
theorem dX7_choosesAt_246 : decode cX7_choosesAt 246 = .ok (.iastore, 1) := by decide +kernel
theorem dX7_choosesAt_247 : decode cX7_choosesAt 247 = .ok (.aload_n 0, 1) := by decide +kernel
theorem dX7_choosesAt_248 : decode cX7_choosesAt 248 = .ok (.getfield 59, 3) := by decide +kernel
theorem dX7_choosesAt_251 : decode cX7_choosesAt 251 = .ok (.iload_n 1, 1) := by decide +kernel
theorem dX7_choosesAt_252 : decode cX7_choosesAt 252 = .ok (.iload 9, 2) := by decide +kernel
theorem dX7_choosesAt_254 : decode cX7_choosesAt 254 = .ok (.iastore, 1) := by decide +kernel
theorem dX7_choosesAt_255 : decode cX7_choosesAt 255 = .ok (.aload_n 0, 1) := by decide +kernel
theorem dX7_choosesAt_256 : decode cX7_choosesAt 256 = .ok (.getfield 62, 3) := by decide +kernel
theorem dX7_choosesAt_259 : decode cX7_choosesAt 259 = .ok (.iload_n 1, 1) := by decide +kernel
theorem dX7_choosesAt_260 : decode cX7_choosesAt 260 = .ok (.iload 10, 2) := by decide +kernel
theorem dX7_choosesAt_262 : decode cX7_choosesAt 262 = .ok (.iastore, 1) := by decide +kernel
theorem dX7_choosesAt_263 : decode cX7_choosesAt 263 = .ok (.iinc 7 1, 3) := by decide +kernel
theorem dX7_choosesAt_266 : decode cX7_choosesAt 266 = .ok (.goto (-253), 3) := by decide +kernel
theorem dX7_choosesAt_269 : decode cX7_choosesAt 269 = .ok (.return_, 1) := by decide +kernel
theorem dX7_lays_0 : decode cX7_lays 0 = .ok (.aload_n 0, 1) := by decide +kernel
theorem dX7_lays_1 : decode cX7_lays 1 = .ok (.iconst 0, 1) := by decide +kernel
theorem dX7_lays_2 : decode cX7_lays 2 = .ok (.putfield 214, 3) := by decide +kernel
theorem dX7_lays_5 : decode cX7_lays 5 = .ok (.iconst 0, 1) := by decide +kernel
theorem dX7_lays_6 : decode cX7_lays 6 = .ok (.istore_n 1, 1) := by decide +kernel
theorem dX7_lays_7 : decode cX7_lays 7 = .ok (.iload_n 1, 1) := by decide +kernel
theorem dX7_lays_8 : decode cX7_lays 8 = .ok (.aload_n 0, 1) := by decide +kernel
theorem dX7_lays_9 : decode cX7_lays 9 = .ok (.getfield 7, 3) := by decide +kernel
theorem dX7_lays_12 : decode cX7_lays 12 = .ok (.iconst 0, 1) := by decide +kernel
theorem dX7_lays_13 : decode cX7_lays 13 = .ok (.iaload, 1) := by decide +kernel
theorem dX7_lays_14 : decode cX7_lays 14 = .ok (.if_icmp .ge 192, 3) := by decide +kernel
theorem dX7_lays_17 : decode cX7_lays 17 = .ok (.aload_n 0, 1) := by decide +kernel
theorem dX7_lays_18 : decode cX7_lays 18 = .ok (.getfield 214, 3) := by decide +kernel
theorem dX7_lays_21 : decode cX7_lays 21 = .ok (.istore_n 2, 1) := by decide +kernel
theorem dX7_lays_22 : decode cX7_lays 22 = .ok (.aload_n 0, 1) := by decide +kernel
theorem dX7_lays_23 : decode cX7_lays 23 = .ok (.getfield 7, 3) := by decide +kernel
theorem dX7_lays_26 : decode cX7_lays 26 = .ok (.sipush 590, 3) := by decide +kernel
theorem dX7_lays_29 : decode cX7_lays 29 = .ok (.iaload, 1) := by decide +kernel
theorem dX7_lays_30 : decode cX7_lays 30 = .ok (.iconst 1, 1) := by decide +kernel
theorem dX7_lays_31 : decode cX7_lays 31 = .ok (.if_icmp .eq 25, 3) := by decide +kernel
theorem dX7_lays_34 : decode cX7_lays 34 = .ok (.aload_n 0, 1) := by decide +kernel
theorem dX7_lays_35 : decode cX7_lays 35 = .ok (.getfield 7, 3) := by decide +kernel
theorem dX7_lays_38 : decode cX7_lays 38 = .ok (.sipush 590, 3) := by decide +kernel
theorem dX7_lays_41 : decode cX7_lays 41 = .ok (.iaload, 1) := by decide +kernel
theorem dX7_lays_42 : decode cX7_lays 42 = .ok (.iconst 2, 1) := by decide +kernel
theorem dX7_lays_43 : decode cX7_lays 43 = .ok (.if_icmp .ne 45, 3) := by decide +kernel
theorem dX7_lays_46 : decode cX7_lays 46 = .ok (.aload_n 0, 1) := by decide +kernel
theorem dX7_lays_47 : decode cX7_lays 47 = .ok (.iload_n 1, 1) := by decide +kernel
theorem dX7_lays_48 : decode cX7_lays 48 = .ok (.invokevirtual 174, 3) := by decide +kernel
theorem dX7_lays_51 : decode cX7_lays 51 = .ok (.bipush (-4), 2) := by decide +kernel
theorem dX7_lays_53 : decode cX7_lays 53 = .ok (.if_icmp .eq 35, 3) := by decide +kernel
theorem dX7_lays_56 : decode cX7_lays 56 = .ok (.iconst 0, 1) := by decide +kernel
theorem dX7_lays_57 : decode cX7_lays 57 = .ok (.istore_n 3, 1) := by decide +kernel
theorem dX7_lays_58 : decode cX7_lays 58 = .ok (.iload_n 3, 1) := by decide +kernel
theorem dX7_lays_59 : decode cX7_lays 59 = .ok (.iload_n 1, 1) := by decide +kernel
theorem dX7_lays_60 : decode cX7_lays 60 = .ok (.if_icmp .ge 28, 3) := by decide +kernel
theorem dX7_lays_63 : decode cX7_lays 63 = .ok (.aload_n 0, 1) := by decide +kernel
theorem dX7_lays_64 : decode cX7_lays 64 = .ok (.iload_n 3, 1) := by decide +kernel
theorem dX7_lays_65 : decode cX7_lays 65 = .ok (.invokevirtual 217, 3) := by decide +kernel
theorem dX7_lays_68 : decode cX7_lays 68 = .ok (.iload_n 2, 1) := by decide +kernel
theorem dX7_lays_69 : decode cX7_lays 69 = .ok (.if_icmp .le 11, 3) := by decide +kernel
theorem dX7_lays_72 : decode cX7_lays 72 = .ok (.aload_n 0, 1) := by decide +kernel
theorem dX7_lays_73 : decode cX7_lays 73 = .ok (.iload_n 3, 1) := by decide +kernel
theorem dX7_lays_74 : decode cX7_lays 74 = .ok (.invokevirtual 217, 3) := by decide +kernel
theorem dX7_lays_77 : decode cX7_lays 77 = .ok (.goto 4, 3) := by decide +kernel
theorem dX7_lays_80 : decode cX7_lays 80 = .ok (.iload_n 2, 1) := by decide +kernel
theorem dX7_lays_81 : decode cX7_lays 81 = .ok (.istore_n 2, 1) := by decide +kernel
theorem dX7_lays_82 : decode cX7_lays 82 = .ok (.iinc 3 1, 3) := by decide +kernel
theorem dX7_lays_85 : decode cX7_lays 85 = .ok (.goto (-27), 3) := by decide +kernel
theorem dX7_lays_88 : decode cX7_lays 88 = .ok (.aload_n 0, 1) := by decide +kernel
theorem dX7_lays_89 : decode cX7_lays 89 = .ok (.getfield 214, 3) := by decide +kernel
theorem dX7_lays_92 : decode cX7_lays 92 = .ok (.istore_n 3, 1) := by decide +kernel
theorem dX7_lays_93 : decode cX7_lays 93 = .ok (.iload_n 3, 1) := by decide +kernel
theorem dX7_lays_94 : decode cX7_lays 94 = .ok (.iload_n 2, 1) := by decide +kernel
theorem dX7_lays_95 : decode cX7_lays 95 = .ok (.if_icmp .ge 17, 3) := by decide +kernel
theorem dX7_lays_98 : decode cX7_lays 98 = .ok (.aload_n 0, 1) := by decide +kernel
theorem dX7_lays_99 : decode cX7_lays 99 = .ok (.getfield 47, 3) := by decide +kernel
theorem dX7_lays_102 : decode cX7_lays 102 = .ok (.iload_n 3, 1) := by decide +kernel
theorem dX7_lays_103 : decode cX7_lays 103 = .ok (.bipush (-4), 2) := by decide +kernel
theorem dX7_lays_105 : decode cX7_lays 105 = .ok (.iastore, 1) := by decide +kernel
theorem dX7_lays_106 : decode cX7_lays 106 = .ok (.iinc 3 1, 3) := by decide +kernel
theorem dX7_lays_109 : decode cX7_lays 109 = .ok (.goto (-16), 3) := by decide +kernel
theorem dX7_lays_112 : decode cX7_lays 112 = .ok (.aload_n 0, 1) := by decide +kernel
theorem dX7_lays_113 : decode cX7_lays 113 = .ok (.getfield 41, 3) := by decide +kernel
theorem dX7_lays_116 : decode cX7_lays 116 = .ok (.iload_n 1, 1) := by decide +kernel
theorem dX7_lays_117 : decode cX7_lays 117 = .ok (.iload_n 2, 1) := by decide +kernel
theorem dX7_lays_118 : decode cX7_lays 118 = .ok (.iastore, 1) := by decide +kernel
theorem dX7_lays_119 : decode cX7_lays 119 = .ok (.aload_n 0, 1) := by decide +kernel
theorem dX7_lays_120 : decode cX7_lays 120 = .ok (.getfield 44, 3) := by decide +kernel
theorem dX7_lays_123 : decode cX7_lays 123 = .ok (.iload_n 1, 1) := by decide +kernel
theorem dX7_lays_124 : decode cX7_lays 124 = .ok (.aload_n 0, 1) := by decide +kernel
theorem dX7_lays_125 : decode cX7_lays 125 = .ok (.iload_n 1, 1) := by decide +kernel
theorem dX7_lays_126 : decode cX7_lays 126 = .ok (.invokevirtual 220, 3) := by decide +kernel
theorem dX7_lays_129 : decode cX7_lays 129 = .ok (.iastore, 1) := by decide +kernel
theorem dX7_lays_130 : decode cX7_lays 130 = .ok (.aload_n 0, 1) := by decide +kernel
theorem dX7_lays_131 : decode cX7_lays 131 = .ok (.getfield 7, 3) := by decide +kernel
theorem dX7_lays_134 : decode cX7_lays 134 = .ok (.sipush 589, 3) := by decide +kernel
theorem dX7_lays_137 : decode cX7_lays 137 = .ok (.iaload, 1) := by decide +kernel
theorem dX7_lays_138 : decode cX7_lays 138 = .ok (.iconst 1, 1) := by decide +kernel
theorem dX7_lays_139 : decode cX7_lays 139 = .ok (.if_icmp .ne 14, 3) := by decide +kernel
theorem dX7_lays_142 : decode cX7_lays 142 = .ok (.aload_n 0, 1) := by decide +kernel
theorem dX7_lays_143 : decode cX7_lays 143 = .ok (.iload_n 1, 1) := by decide +kernel
theorem dX7_lays_144 : decode cX7_lays 144 = .ok (.aload_n 0, 1) := by decide +kernel
theorem dX7_lays_145 : decode cX7_lays 145 = .ok (.getfield 44, 3) := by decide +kernel
theorem dX7_lays_148 : decode cX7_lays 148 = .ok (.iload_n 1, 1) := by decide +kernel
theorem dX7_lays_149 : decode cX7_lays 149 = .ok (.iaload, 1) := by decide +kernel
theorem dX7_lays_150 : decode cX7_lays 150 = .ok (.invokevirtual 223, 3) := by decide +kernel
theorem dX7_lays_153 : decode cX7_lays 153 = .ok (.aload_n 0, 1) := by decide +kernel
theorem dX7_lays_154 : decode cX7_lays 154 = .ok (.iload_n 2, 1) := by decide +kernel
theorem dX7_lays_155 : decode cX7_lays 155 = .ok (.aload_n 0, 1) := by decide +kernel
theorem dX7_lays_156 : decode cX7_lays 156 = .ok (.getfield 44, 3) := by decide +kernel
theorem dX7_lays_159 : decode cX7_lays 159 = .ok (.iload_n 1, 1) := by decide +kernel
theorem dX7_lays_160 : decode cX7_lays 160 = .ok (.iaload, 1) := by decide +kernel
theorem dX7_lays_161 : decode cX7_lays 161 = .ok (.iadd, 1) := by decide +kernel
theorem dX7_lays_162 : decode cX7_lays 162 = .ok (.putfield 214, 3) := by decide +kernel
theorem dX7_lays_165 : decode cX7_lays 165 = .ok (.iload_n 2, 1) := by decide +kernel
theorem dX7_lays_166 : decode cX7_lays 166 = .ok (.istore_n 3, 1) := by decide +kernel
theorem dX7_lays_167 : decode cX7_lays 167 = .ok (.iload_n 3, 1) := by decide +kernel
theorem dX7_lays_168 : decode cX7_lays 168 = .ok (.aload_n 0, 1) := by decide +kernel
theorem dX7_lays_169 : decode cX7_lays 169 = .ok (.getfield 214, 3) := by decide +kernel
theorem dX7_lays_172 : decode cX7_lays 172 = .ok (.if_icmp .ge 28, 3) := by decide +kernel
theorem dX7_lays_175 : decode cX7_lays 175 = .ok (.aload_n 0, 1) := by decide +kernel
theorem dX7_lays_176 : decode cX7_lays 176 = .ok (.getfield 47, 3) := by decide +kernel
theorem dX7_lays_179 : decode cX7_lays 179 = .ok (.iload_n 3, 1) := by decide +kernel
theorem dX7_lays_180 : decode cX7_lays 180 = .ok (.iload_n 1, 1) := by decide +kernel
theorem dX7_lays_181 : decode cX7_lays 181 = .ok (.iastore, 1) := by decide +kernel
theorem dX7_lays_182 : decode cX7_lays 182 = .ok (.aload_n 0, 1) := by decide +kernel
theorem dX7_lays_183 : decode cX7_lays 183 = .ok (.getfield 56, 3) := by decide +kernel
theorem dX7_lays_186 : decode cX7_lays 186 = .ok (.iload_n 3, 1) := by decide +kernel
theorem dX7_lays_187 : decode cX7_lays 187 = .ok (.aload_n 0, 1) := by decide +kernel
theorem dX7_lays_188 : decode cX7_lays 188 = .ok (.iload_n 1, 1) := by decide +kernel
theorem dX7_lays_189 : decode cX7_lays 189 = .ok (.iload_n 3, 1) := by decide +kernel
theorem dX7_lays_190 : decode cX7_lays 190 = .ok (.invokevirtual 198, 3) := by decide +kernel
theorem dX7_lays_193 : decode cX7_lays 193 = .ok (.iastore, 1) := by decide +kernel
theorem dX7_lays_194 : decode cX7_lays 194 = .ok (.iinc 3 1, 3) := by decide +kernel
theorem dX7_lays_197 : decode cX7_lays 197 = .ok (.goto (-30), 3) := by decide +kernel
theorem dX7_lays_200 : decode cX7_lays 200 = .ok (.iinc 1 1, 3) := by decide +kernel
theorem dX7_lays_203 : decode cX7_lays 203 = .ok (.goto (-196), 3) := by decide +kernel
theorem dX7_lays_206 : decode cX7_lays 206 = .ok (.return_, 1) := by decide +kernel
theorem dX7_isOver_0 : decode cX7_isOver 0 = .ok (.aload_n 0, 1) := by decide +kernel
theorem dX7_isOver_1 : decode cX7_isOver 1 = .ok (.aload_n 0, 1) := by decide +kernel
theorem dX7_isOver_2 : decode cX7_isOver 2 = .ok (.getfield 50, 3) := by decide +kernel
theorem dX7_isOver_5 : decode cX7_isOver 5 = .ok (.iload_n 1, 1) := by decide +kernel
theorem dX7_isOver_6 : decode cX7_isOver 6 = .ok (.iaload, 1) := by decide +kernel
theorem dX7_isOver_7 : decode cX7_isOver 7 = .ok (.aload_n 0, 1) := by decide +kernel
theorem dX7_isOver_8 : decode cX7_isOver 8 = .ok (.getfield 53, 3) := by decide +kernel
theorem dX7_isOver_11 : decode cX7_isOver 11 = .ok (.iload_n 1, 1) := by decide +kernel
theorem dX7_isOver_12 : decode cX7_isOver 12 = .ok (.iaload, 1) := by decide +kernel
theorem dX7_isOver_13 : decode cX7_isOver 13 = .ok (.invokevirtual 207, 3) := by decide +kernel
theorem dX7_isOver_16 : decode cX7_isOver 16 = .ok (.aload_n 0, 1) := by decide +kernel
theorem dX7_isOver_17 : decode cX7_isOver 17 = .ok (.aload_n 0, 1) := by decide +kernel
theorem dX7_isOver_18 : decode cX7_isOver 18 = .ok (.getfield 47, 3) := by decide +kernel
theorem dX7_isOver_21 : decode cX7_isOver 21 = .ok (.iload_n 1, 1) := by decide +kernel
theorem dX7_isOver_22 : decode cX7_isOver 22 = .ok (.iaload, 1) := by decide +kernel
theorem dX7_isOver_23 : decode cX7_isOver 23 = .ok (.iload_n 1, 1) := by decide +kernel
theorem dX7_isOver_24 : decode cX7_isOver 24 = .ok (.invokevirtual 204, 3) := by decide +kernel
theorem dX7_isOver_27 : decode cX7_isOver 27 = .ok (.if_icmp .le 7, 3) := by decide +kernel
theorem dX7_isOver_30 : decode cX7_isOver 30 = .ok (.iconst 1, 1) := by decide +kernel
theorem dX7_isOver_31 : decode cX7_isOver 31 = .ok (.goto 4, 3) := by decide +kernel
theorem dX7_isOver_34 : decode cX7_isOver 34 = .ok (.iconst 0, 1) := by decide +kernel
theorem dX7_isOver_35 : decode cX7_isOver 35 = .ok (.ireturn, 1) := by decide +kernel
theorem dX7_isClash_0 : decode cX7_isClash 0 = .ok (.iconst 0, 1) := by decide +kernel
theorem dX7_isClash_1 : decode cX7_isClash 1 = .ok (.istore_n 2, 1) := by decide +kernel
theorem dX7_isClash_2 : decode cX7_isClash 2 = .ok (.iconst 0, 1) := by decide +kernel
theorem dX7_isClash_3 : decode cX7_isClash 3 = .ok (.istore_n 3, 1) := by decide +kernel
theorem dX7_isClash_4 : decode cX7_isClash 4 = .ok (.iload_n 3, 1) := by decide +kernel
theorem dX7_isClash_5 : decode cX7_isClash 5 = .ok (.aload_n 0, 1) := by decide +kernel
theorem dX7_isClash_6 : decode cX7_isClash 6 = .ok (.getfield 47, 3) := by decide +kernel
theorem dX7_isClash_9 : decode cX7_isClash 9 = .ok (.iload_n 1, 1) := by decide +kernel
theorem dX7_isClash_10 : decode cX7_isClash 10 = .ok (.iaload, 1) := by decide +kernel
theorem dX7_isClash_11 : decode cX7_isClash 11 = .ok (.if_icmp .ge 46, 3) := by decide +kernel
theorem dX7_isClash_14 : decode cX7_isClash 14 = .ok (.aload_n 0, 1) := by decide +kernel
theorem dX7_isClash_15 : decode cX7_isClash 15 = .ok (.getfield 7, 3) := by decide +kernel
theorem dX7_isClash_18 : decode cX7_isClash 18 = .ok (.sipush 590, 3) := by decide +kernel
theorem dX7_isClash_21 : decode cX7_isClash 21 = .ok (.iaload, 1) := by decide +kernel
theorem dX7_isClash_22 : decode cX7_isClash 22 = .ok (.ifCond .ne 35, 3) := by decide +kernel
theorem dX7_isClash_25 : decode cX7_isClash 25 = .ok (.iload_n 2, 1) := by decide +kernel
theorem dX7_isClash_26 : decode cX7_isClash 26 = .ok (.ifCond .ne 19, 3) := by decide +kernel
theorem dX7_isClash_29 : decode cX7_isClash 29 = .ok (.aload_n 0, 1) := by decide +kernel
theorem dX7_isClash_30 : decode cX7_isClash 30 = .ok (.iload_n 3, 1) := by decide +kernel
theorem dX7_isClash_31 : decode cX7_isClash 31 = .ok (.iload_n 1, 1) := by decide +kernel
theorem dX7_isClash_32 : decode cX7_isClash 32 = .ok (.aload_n 0, 1) := by decide +kernel
theorem dX7_isClash_33 : decode cX7_isClash 33 = .ok (.getfield 41, 3) := by decide +kernel
theorem dX7_isClash_36 : decode cX7_isClash 36 = .ok (.iload_n 3, 1) := by decide +kernel
theorem dX7_isClash_37 : decode cX7_isClash 37 = .ok (.iaload, 1) := by decide +kernel
theorem dX7_isClash_38 : decode cX7_isClash 38 = .ok (.isub, 1) := by decide +kernel
theorem dX7_isClash_39 : decode cX7_isClash 39 = .ok (.invokevirtual 192, 3) := by decide +kernel
theorem dX7_isClash_42 : decode cX7_isClash 42 = .ok (.ifCond .le 7, 3) := by decide +kernel
theorem dX7_isClash_45 : decode cX7_isClash 45 = .ok (.iconst 1, 1) := by decide +kernel
theorem dX7_isClash_46 : decode cX7_isClash 46 = .ok (.goto 4, 3) := by decide +kernel
theorem dX7_isClash_49 : decode cX7_isClash 49 = .ok (.iconst 0, 1) := by decide +kernel
theorem dX7_isClash_50 : decode cX7_isClash 50 = .ok (.istore_n 2, 1) := by decide +kernel
theorem dX7_isClash_51 : decode cX7_isClash 51 = .ok (.iinc 3 1, 3) := by decide +kernel
theorem dX7_isClash_54 : decode cX7_isClash 54 = .ok (.goto (-50), 3) := by decide +kernel
theorem dX7_isClash_57 : decode cX7_isClash 57 = .ok (.iload_n 2, 1) := by decide +kernel
theorem dX7_isClash_58 : decode cX7_isClash 58 = .ok (.ireturn, 1) := by decide +kernel
theorem dX7_counted_0 : decode cX7_counted 0 = .ok (.iconst 0, 1) := by decide +kernel
theorem dX7_counted_1 : decode cX7_counted 1 = .ok (.istore_n 2, 1) := by decide +kernel
theorem dX7_counted_2 : decode cX7_counted 2 = .ok (.iconst 0, 1) := by decide +kernel
theorem dX7_counted_3 : decode cX7_counted 3 = .ok (.istore_n 3, 1) := by decide +kernel
theorem dX7_counted_4 : decode cX7_counted 4 = .ok (.iload_n 3, 1) := by decide +kernel
theorem dX7_counted_5 : decode cX7_counted 5 = .ok (.aload_n 0, 1) := by decide +kernel
theorem dX7_counted_6 : decode cX7_counted 6 = .ok (.getfield 214, 3) := by decide +kernel
theorem dX7_counted_9 : decode cX7_counted 9 = .ok (.if_icmp .ge 83, 3) := by decide +kernel
theorem dX7_counted_12 : decode cX7_counted 12 = .ok (.aload_n 0, 1) := by decide +kernel
theorem dX7_counted_13 : decode cX7_counted 13 = .ok (.getfield 47, 3) := by decide +kernel
theorem dX7_counted_16 : decode cX7_counted 16 = .ok (.iload_n 3, 1) := by decide +kernel
theorem dX7_counted_17 : decode cX7_counted 17 = .ok (.iaload, 1) := by decide +kernel
theorem dX7_counted_18 : decode cX7_counted 18 = .ok (.bipush (-4), 2) := by decide +kernel
theorem dX7_counted_20 : decode cX7_counted 20 = .ok (.if_icmp .ne 7, 3) := by decide +kernel
theorem dX7_counted_23 : decode cX7_counted 23 = .ok (.iconst 1, 1) := by decide +kernel
theorem dX7_counted_24 : decode cX7_counted 24 = .ok (.goto 4, 3) := by decide +kernel
theorem dX7_counted_27 : decode cX7_counted 27 = .ok (.iconst 0, 1) := by decide +kernel
theorem dX7_counted_28 : decode cX7_counted 28 = .ok (.istore 4, 2) := by decide +kernel
theorem dX7_counted_30 : decode cX7_counted 30 = .ok (.iload_n 2, 1) := by decide +kernel
theorem dX7_counted_31 : decode cX7_counted 31 = .ok (.iload_n 1, 1) := by decide +kernel
theorem dX7_counted_32 : decode cX7_counted 32 = .ok (.iconst 4, 1) := by decide +kernel
theorem dX7_counted_33 : decode cX7_counted 33 = .ok (.if_icmp .eq 46, 3) := by decide +kernel
theorem dX7_counted_36 : decode cX7_counted 36 = .ok (.iload_n 1, 1) := by decide +kernel
theorem dX7_counted_37 : decode cX7_counted 37 = .ok (.iconst 5, 1) := by decide +kernel
theorem dX7_counted_38 : decode cX7_counted 38 = .ok (.if_icmp .ne 11, 3) := by decide +kernel
theorem dX7_counted_41 : decode cX7_counted 41 = .ok (.iload 4, 2) := by decide +kernel
theorem dX7_counted_43 : decode cX7_counted 43 = .ok (.ifCond .eq 40, 3) := by decide +kernel
theorem dX7_counted_46 : decode cX7_counted 46 = .ok (.goto 33, 3) := by decide +kernel
theorem dX7_counted_49 : decode cX7_counted 49 = .ok (.iload 4, 2) := by decide +kernel
theorem dX7_counted_51 : decode cX7_counted 51 = .ok (.ifCond .ne 32, 3) := by decide +kernel
theorem dX7_counted_54 : decode cX7_counted 54 = .ok (.iload_n 1, 1) := by decide +kernel
theorem dX7_counted_55 : decode cX7_counted 55 = .ok (.bipush 6, 2) := by decide +kernel
theorem dX7_counted_57 : decode cX7_counted 57 = .ok (.if_icmp .ne 14, 3) := by decide +kernel
theorem dX7_counted_60 : decode cX7_counted 60 = .ok (.aload_n 0, 1) := by decide +kernel
theorem dX7_counted_61 : decode cX7_counted 61 = .ok (.iload_n 3, 1) := by decide +kernel
theorem dX7_counted_62 : decode cX7_counted 62 = .ok (.invokevirtual 227, 3) := by decide +kernel
theorem dX7_counted_65 : decode cX7_counted 65 = .ok (.ifCond .eq 18, 3) := by decide +kernel
theorem dX7_counted_68 : decode cX7_counted 68 = .ok (.goto 11, 3) := by decide +kernel
theorem dX7_counted_71 : decode cX7_counted 71 = .ok (.aload_n 0, 1) := by decide +kernel
theorem dX7_counted_72 : decode cX7_counted 72 = .ok (.iload_n 3, 1) := by decide +kernel
theorem dX7_counted_73 : decode cX7_counted 73 = .ok (.invokevirtual 230, 3) := by decide +kernel
theorem dX7_counted_76 : decode cX7_counted 76 = .ok (.ifCond .eq 7, 3) := by decide +kernel
theorem dX7_counted_79 : decode cX7_counted 79 = .ok (.iconst 1, 1) := by decide +kernel
theorem dX7_counted_80 : decode cX7_counted 80 = .ok (.goto 4, 3) := by decide +kernel
theorem dX7_counted_83 : decode cX7_counted 83 = .ok (.iconst 0, 1) := by decide +kernel
theorem dX7_counted_84 : decode cX7_counted 84 = .ok (.iadd, 1) := by decide +kernel
theorem dX7_counted_85 : decode cX7_counted 85 = .ok (.istore_n 2, 1) := by decide +kernel
theorem dX7_counted_86 : decode cX7_counted 86 = .ok (.iinc 3 1, 3) := by decide +kernel
theorem dX7_counted_89 : decode cX7_counted 89 = .ok (.goto (-85), 3) := by decide +kernel
theorem dX7_counted_92 : decode cX7_counted 92 = .ok (.iload_n 2, 1) := by decide +kernel
theorem dX7_counted_93 : decode cX7_counted 93 = .ok (.ireturn, 1) := by decide +kernel
theorem dX7_allWords_0 : decode cX7_allWords 0 = .ok (.aload_n 0, 1) := by decide +kernel
theorem dX7_allWords_1 : decode cX7_allWords 1 = .ok (.aload_n 0, 1) := by decide +kernel
theorem dX7_allWords_2 : decode cX7_allWords 2 = .ok (.getfield 7, 3) := by decide +kernel
theorem dX7_allWords_5 : decode cX7_allWords 5 = .ok (.iconst 0, 1) := by decide +kernel
theorem dX7_allWords_6 : decode cX7_allWords 6 = .ok (.iaload, 1) := by decide +kernel
theorem dX7_allWords_7 : decode cX7_allWords 7 = .ok (.invokevirtual 201, 3) := by decide +kernel
theorem dX7_allWords_10 : decode cX7_allWords 10 = .ok (.ireturn, 1) := by decide +kernel
theorem dX7_isLikeWord_0 : decode cX7_isLikeWord 0 = .ok (.iconst 1, 1) := by decide +kernel
theorem dX7_isLikeWord_1 : decode cX7_isLikeWord 1 = .ok (.istore_n 3, 1) := by decide +kernel
theorem dX7_isLikeWord_2 : decode cX7_isLikeWord 2 = .ok (.iconst 0, 1) := by decide +kernel
theorem dX7_isLikeWord_3 : decode cX7_isLikeWord 3 = .ok (.istore 4, 2) := by decide +kernel
theorem dX7_isLikeWord_5 : decode cX7_isLikeWord 5 = .ok (.iload 4, 2) := by decide +kernel
theorem dX7_isLikeWord_7 : decode cX7_isLikeWord 7 = .ok (.bipush 7, 2) := by decide +kernel
theorem dX7_isLikeWord_9 : decode cX7_isLikeWord 9 = .ok (.if_icmp .ge 52, 3) := by decide +kernel
theorem dX7_isLikeWord_12 : decode cX7_isLikeWord 12 = .ok (.iload_n 3, 1) := by decide +kernel
theorem dX7_isLikeWord_13 : decode cX7_isLikeWord 13 = .ok (.ifCond .eq 40, 3) := by decide +kernel
theorem dX7_isLikeWord_16 : decode cX7_isLikeWord 16 = .ok (.aload_n 0, 1) := by decide +kernel
theorem dX7_isLikeWord_17 : decode cX7_isLikeWord 17 = .ok (.getfield 7, 3) := by decide +kernel
theorem dX7_isLikeWord_20 : decode cX7_isLikeWord 20 = .ok (.bipush 25, 2) := by decide +kernel
theorem dX7_isLikeWord_22 : decode cX7_isLikeWord 22 = .ok (.bipush 7, 2) := by decide +kernel
theorem dX7_isLikeWord_24 : decode cX7_isLikeWord 24 = .ok (.iload_n 1, 1) := by decide +kernel
theorem dX7_isLikeWord_25 : decode cX7_isLikeWord 25 = .ok (.imul, 1) := by decide +kernel
theorem dX7_isLikeWord_26 : decode cX7_isLikeWord 26 = .ok (.iadd, 1) := by decide +kernel
theorem dX7_isLikeWord_27 : decode cX7_isLikeWord 27 = .ok (.iload 4, 2) := by decide +kernel
theorem dX7_isLikeWord_29 : decode cX7_isLikeWord 29 = .ok (.iadd, 1) := by decide +kernel
theorem dX7_isLikeWord_30 : decode cX7_isLikeWord 30 = .ok (.iaload, 1) := by decide +kernel
theorem dX7_isLikeWord_31 : decode cX7_isLikeWord 31 = .ok (.aload_n 0, 1) := by decide +kernel
theorem dX7_isLikeWord_32 : decode cX7_isLikeWord 32 = .ok (.getfield 7, 3) := by decide +kernel
theorem dX7_isLikeWord_35 : decode cX7_isLikeWord 35 = .ok (.bipush 25, 2) := by decide +kernel
theorem dX7_isLikeWord_37 : decode cX7_isLikeWord 37 = .ok (.bipush 7, 2) := by decide +kernel
theorem dX7_isLikeWord_39 : decode cX7_isLikeWord 39 = .ok (.iload_n 2, 1) := by decide +kernel
theorem dX7_isLikeWord_40 : decode cX7_isLikeWord 40 = .ok (.imul, 1) := by decide +kernel
theorem dX7_isLikeWord_41 : decode cX7_isLikeWord 41 = .ok (.iadd, 1) := by decide +kernel
theorem dX7_isLikeWord_42 : decode cX7_isLikeWord 42 = .ok (.iload 4, 2) := by decide +kernel
theorem dX7_isLikeWord_44 : decode cX7_isLikeWord 44 = .ok (.iadd, 1) := by decide +kernel
theorem dX7_isLikeWord_45 : decode cX7_isLikeWord 45 = .ok (.iaload, 1) := by decide +kernel
theorem dX7_isLikeWord_46 : decode cX7_isLikeWord 46 = .ok (.if_icmp .ne 7, 3) := by decide +kernel
theorem dX7_isLikeWord_49 : decode cX7_isLikeWord 49 = .ok (.iconst 1, 1) := by decide +kernel
theorem dX7_isLikeWord_50 : decode cX7_isLikeWord 50 = .ok (.goto 4, 3) := by decide +kernel
theorem dX7_isLikeWord_53 : decode cX7_isLikeWord 53 = .ok (.iconst 0, 1) := by decide +kernel
theorem dX7_isLikeWord_54 : decode cX7_isLikeWord 54 = .ok (.istore_n 3, 1) := by decide +kernel
theorem dX7_isLikeWord_55 : decode cX7_isLikeWord 55 = .ok (.iinc 4 1, 3) := by decide +kernel
theorem dX7_isLikeWord_58 : decode cX7_isLikeWord 58 = .ok (.goto (-53), 3) := by decide +kernel
theorem dX7_isLikeWord_61 : decode cX7_isLikeWord 61 = .ok (.iload_n 3, 1) := by decide +kernel
theorem dX7_isLikeWord_62 : decode cX7_isLikeWord 62 = .ok (.ireturn, 1) := by decide +kernel
theorem dX7_likes_0 : decode cX7_likes 0 = .ok (.iconst 0, 1) := by decide +kernel
theorem dX7_likes_1 : decode cX7_likes 1 = .ok (.istore_n 3, 1) := by decide +kernel
theorem dX7_likes_2 : decode cX7_likes 2 = .ok (.iconst 0, 1) := by decide +kernel
theorem dX7_likes_3 : decode cX7_likes 3 = .ok (.istore 4, 2) := by decide +kernel
theorem dX7_likes_5 : decode cX7_likes 5 = .ok (.iload 4, 2) := by decide +kernel
theorem dX7_likes_7 : decode cX7_likes 7 = .ok (.iload_n 2, 1) := by decide +kernel
theorem dX7_likes_8 : decode cX7_likes 8 = .ok (.if_icmp .ge 27, 3) := by decide +kernel
theorem dX7_likes_11 : decode cX7_likes 11 = .ok (.iload_n 3, 1) := by decide +kernel
theorem dX7_likes_12 : decode cX7_likes 12 = .ok (.aload_n 0, 1) := by decide +kernel
theorem dX7_likes_13 : decode cX7_likes 13 = .ok (.iload_n 1, 1) := by decide +kernel
theorem dX7_likes_14 : decode cX7_likes 14 = .ok (.iload 4, 2) := by decide +kernel
theorem dX7_likes_16 : decode cX7_likes 16 = .ok (.invokevirtual 233, 3) := by decide +kernel
theorem dX7_likes_19 : decode cX7_likes 19 = .ok (.ifCond .eq 7, 3) := by decide +kernel
theorem dX7_likes_22 : decode cX7_likes 22 = .ok (.iconst 1, 1) := by decide +kernel
theorem dX7_likes_23 : decode cX7_likes 23 = .ok (.goto 4, 3) := by decide +kernel
theorem dX7_likes_26 : decode cX7_likes 26 = .ok (.iconst 0, 1) := by decide +kernel
theorem dX7_likes_27 : decode cX7_likes 27 = .ok (.iadd, 1) := by decide +kernel
theorem dX7_likes_28 : decode cX7_likes 28 = .ok (.istore_n 3, 1) := by decide +kernel
theorem dX7_likes_29 : decode cX7_likes 29 = .ok (.iinc 4 1, 3) := by decide +kernel
theorem dX7_likes_32 : decode cX7_likes 32 = .ok (.goto (-27), 3) := by decide +kernel
theorem dX7_likes_35 : decode cX7_likes 35 = .ok (.iload_n 3, 1) := by decide +kernel
theorem dX7_likes_36 : decode cX7_likes 36 = .ok (.ireturn, 1) := by decide +kernel
theorem dX7_unlike_0 : decode cX7_unlike 0 = .ok (.iconst 0, 1) := by decide +kernel
theorem dX7_unlike_1 : decode cX7_unlike 1 = .ok (.istore_n 1, 1) := by decide +kernel
theorem dX7_unlike_2 : decode cX7_unlike 2 = .ok (.iconst 0, 1) := by decide +kernel
theorem dX7_unlike_3 : decode cX7_unlike 3 = .ok (.istore_n 2, 1) := by decide +kernel
theorem dX7_unlike_4 : decode cX7_unlike 4 = .ok (.iload_n 2, 1) := by decide +kernel
theorem dX7_unlike_5 : decode cX7_unlike 5 = .ok (.aload_n 0, 1) := by decide +kernel
theorem dX7_unlike_6 : decode cX7_unlike 6 = .ok (.invokevirtual 237, 3) := by decide +kernel
theorem dX7_unlike_9 : decode cX7_unlike 9 = .ok (.if_icmp .ge 26, 3) := by decide +kernel
theorem dX7_unlike_12 : decode cX7_unlike 12 = .ok (.iload_n 1, 1) := by decide +kernel
theorem dX7_unlike_13 : decode cX7_unlike 13 = .ok (.aload_n 0, 1) := by decide +kernel
theorem dX7_unlike_14 : decode cX7_unlike 14 = .ok (.iload_n 2, 1) := by decide +kernel
theorem dX7_unlike_15 : decode cX7_unlike 15 = .ok (.iload_n 2, 1) := by decide +kernel
theorem dX7_unlike_16 : decode cX7_unlike 16 = .ok (.invokevirtual 240, 3) := by decide +kernel
theorem dX7_unlike_19 : decode cX7_unlike 19 = .ok (.ifCond .ne 7, 3) := by decide +kernel
theorem dX7_unlike_22 : decode cX7_unlike 22 = .ok (.iconst 1, 1) := by decide +kernel
theorem dX7_unlike_23 : decode cX7_unlike 23 = .ok (.goto 4, 3) := by decide +kernel
theorem dX7_unlike_26 : decode cX7_unlike 26 = .ok (.iconst 0, 1) := by decide +kernel
theorem dX7_unlike_27 : decode cX7_unlike 27 = .ok (.iadd, 1) := by decide +kernel
theorem dX7_unlike_28 : decode cX7_unlike 28 = .ok (.istore_n 1, 1) := by decide +kernel
theorem dX7_unlike_29 : decode cX7_unlike 29 = .ok (.iinc 2 1, 3) := by decide +kernel
theorem dX7_unlike_32 : decode cX7_unlike 32 = .ok (.goto (-28), 3) := by decide +kernel
theorem dX7_unlike_35 : decode cX7_unlike 35 = .ok (.iload_n 1, 1) := by decide +kernel
theorem dX7_unlike_36 : decode cX7_unlike 36 = .ok (.ireturn, 1) := by decide +kernel
theorem dX7_rule_0 : decode cX7_rule 0 = .ok (.iload_n 1, 1) := by decide +kernel
theorem dX7_rule_1 : decode cX7_rule 1 = .ok (.i2l, 1) := by decide +kernel
theorem dX7_rule_2 : decode cX7_rule 2 = .ok (.lconst 0, 1) := by decide +kernel
theorem dX7_rule_3 : decode cX7_rule 3 = .ok (.ldc2_w 243, 3) := by decide +kernel
theorem dX7_rule_6 : decode cX7_rule 6 = .ok (.invokestatic 73, 3) := by decide +kernel
theorem dX7_rule_9 : decode cX7_rule 9 = .ok (.ifCond .ne 5, 3) := by decide +kernel
theorem dX7_rule_12 : decode cX7_rule 12 = .ok (.iconst (-1), 1) := by decide +kernel
theorem dX7_rule_13 : decode cX7_rule 13 = .ok (.ireturn, 1) := by decide +kernel
theorem dX7_rule_14 : decode cX7_rule 14 = .ok (.iload_n 1, 1) := by decide +kernel
theorem dX7_rule_15 : decode cX7_rule 15 = .ok (.i2l, 1) := by decide +kernel
theorem dX7_rule_16 : decode cX7_rule 16 = .ok (.ldc2_w 245, 3) := by decide +kernel
theorem dX7_rule_19 : decode cX7_rule 19 = .ok (.ldc2_w 247, 3) := by decide +kernel
theorem dX7_rule_22 : decode cX7_rule 22 = .ok (.invokestatic 73, 3) := by decide +kernel
theorem dX7_rule_25 : decode cX7_rule 25 = .ok (.ifCond .eq 17, 3) := by decide +kernel
theorem dX7_rule_28 : decode cX7_rule 28 = .ok (.aload_n 0, 1) := by decide +kernel
theorem dX7_rule_29 : decode cX7_rule 29 = .ok (.getfield 7, 3) := by decide +kernel
theorem dX7_rule_32 : decode cX7_rule 32 = .ok (.sipush 585, 3) := by decide +kernel
theorem dX7_rule_35 : decode cX7_rule 35 = .ok (.iload_n 1, 1) := by decide +kernel
theorem dX7_rule_36 : decode cX7_rule 36 = .ok (.iadd, 1) := by decide +kernel
theorem dX7_rule_37 : decode cX7_rule 37 = .ok (.bipush 8, 2) := by decide +kernel
theorem dX7_rule_39 : decode cX7_rule 39 = .ok (.isub, 1) := by decide +kernel
theorem dX7_rule_40 : decode cX7_rule 40 = .ok (.iaload, 1) := by decide +kernel
theorem dX7_rule_41 : decode cX7_rule 41 = .ok (.ireturn, 1) := by decide +kernel
theorem dX7_rule_42 : decode cX7_rule 42 = .ok (.iload_n 1, 1) := by decide +kernel
theorem dX7_rule_43 : decode cX7_rule 43 = .ok (.tableswitch 134 0 15 #[77, 82, 89, 94, 134, 134, 134, 134, 134, 134, 134, 134, 134, 134, 99, 104], 77) := by decide +kernel
theorem dX7_rule_120 : decode cX7_rule 120 = .ok (.aload_n 0, 1) := by decide +kernel
theorem dX7_rule_121 : decode cX7_rule 121 = .ok (.getfield 168, 3) := by decide +kernel
theorem dX7_rule_124 : decode cX7_rule 124 = .ok (.ireturn, 1) := by decide +kernel
theorem dX7_rule_125 : decode cX7_rule 125 = .ok (.aload_n 0, 1) := by decide +kernel
theorem dX7_rule_126 : decode cX7_rule 126 = .ok (.getfield 7, 3) := by decide +kernel
theorem dX7_rule_129 : decode cX7_rule 129 = .ok (.iconst 0, 1) := by decide +kernel
theorem dX7_rule_130 : decode cX7_rule 130 = .ok (.iaload, 1) := by decide +kernel
theorem dX7_rule_131 : decode cX7_rule 131 = .ok (.ireturn, 1) := by decide +kernel
theorem dX7_rule_132 : decode cX7_rule 132 = .ok (.aload_n 0, 1) := by decide +kernel
theorem dX7_rule_133 : decode cX7_rule 133 = .ok (.invokevirtual 237, 3) := by decide +kernel
theorem dX7_rule_136 : decode cX7_rule 136 = .ok (.ireturn, 1) := by decide +kernel
theorem dX7_rule_137 : decode cX7_rule 137 = .ok (.aload_n 0, 1) := by decide +kernel
theorem dX7_rule_138 : decode cX7_rule 138 = .ok (.invokevirtual 249, 3) := by decide +kernel
theorem dX7_rule_141 : decode cX7_rule 141 = .ok (.ireturn, 1) := by decide +kernel
theorem dX7_rule_142 : decode cX7_rule 142 = .ok (.aload_n 0, 1) := by decide +kernel
theorem dX7_rule_143 : decode cX7_rule 143 = .ok (.getfield 77, 3) := by decide +kernel
theorem dX7_rule_146 : decode cX7_rule 146 = .ok (.ireturn, 1) := by decide +kernel
theorem dX7_rule_147 : decode cX7_rule 147 = .ok (.aload_n 0, 1) := by decide +kernel
theorem dX7_rule_148 : decode cX7_rule 148 = .ok (.getfield 25, 3) := by decide +kernel
theorem dX7_rule_151 : decode cX7_rule 151 = .ok (.iconst 0, 1) := by decide +kernel
theorem dX7_rule_152 : decode cX7_rule 152 = .ok (.baload, 1) := by decide +kernel
theorem dX7_rule_153 : decode cX7_rule 153 = .ok (.ifCond .eq 7, 3) := by decide +kernel
theorem dX7_rule_156 : decode cX7_rule 156 = .ok (.iconst 1, 1) := by decide +kernel
theorem dX7_rule_157 : decode cX7_rule 157 = .ok (.goto 4, 3) := by decide +kernel
theorem dX7_rule_160 : decode cX7_rule 160 = .ok (.iconst 0, 1) := by decide +kernel
theorem dX7_rule_161 : decode cX7_rule 161 = .ok (.aload_n 0, 1) := by decide +kernel
theorem dX7_rule_162 : decode cX7_rule 162 = .ok (.getfield 25, 3) := by decide +kernel
theorem dX7_rule_165 : decode cX7_rule 165 = .ok (.iconst 1, 1) := by decide +kernel
theorem dX7_rule_166 : decode cX7_rule 166 = .ok (.baload, 1) := by decide +kernel
theorem dX7_rule_167 : decode cX7_rule 167 = .ok (.ifCond .eq 7, 3) := by decide +kernel
theorem dX7_rule_170 : decode cX7_rule 170 = .ok (.iconst 1, 1) := by decide +kernel
theorem dX7_rule_171 : decode cX7_rule 171 = .ok (.goto 4, 3) := by decide +kernel
theorem dX7_rule_174 : decode cX7_rule 174 = .ok (.iconst 0, 1) := by decide +kernel
theorem dX7_rule_175 : decode cX7_rule 175 = .ok (.iadd, 1) := by decide +kernel
theorem dX7_rule_176 : decode cX7_rule 176 = .ok (.ireturn, 1) := by decide +kernel
theorem dX7_rule_177 : decode cX7_rule 177 = .ok (.aload_n 0, 1) := by decide +kernel
theorem dX7_rule_178 : decode cX7_rule 178 = .ok (.invokevirtual 252, 3) := by decide +kernel
theorem dX7_rule_181 : decode cX7_rule 181 = .ok (.aload_n 0, 1) := by decide +kernel
theorem dX7_rule_182 : decode cX7_rule 182 = .ok (.iload_n 1, 1) := by decide +kernel
theorem dX7_rule_183 : decode cX7_rule 183 = .ok (.invokevirtual 255, 3) := by decide +kernel
theorem dX7_rule_186 : decode cX7_rule 186 = .ok (.ireturn, 1) := by decide +kernel
theorem dX7_isShape_0 : decode cX7_isShape 0 = .ok (.iload_n 1, 1) := by decide +kernel
theorem dX7_isShape_1 : decode cX7_isShape 1 = .ok (.i2l, 1) := by decide +kernel
theorem dX7_isShape_2 : decode cX7_isShape 2 = .ok (.lconst 0, 1) := by decide +kernel
theorem dX7_isShape_3 : decode cX7_isShape 3 = .ok (.aload_n 0, 1) := by decide +kernel
theorem dX7_isShape_4 : decode cX7_isShape 4 = .ok (.getfield 168, 3) := by decide +kernel
theorem dX7_isShape_7 : decode cX7_isShape 7 = .ok (.iconst 1, 1) := by decide +kernel
theorem dX7_isShape_8 : decode cX7_isShape 8 = .ok (.isub, 1) := by decide +kernel
theorem dX7_isShape_9 : decode cX7_isShape 9 = .ok (.i2l, 1) := by decide +kernel
theorem dX7_isShape_10 : decode cX7_isShape 10 = .ok (.invokestatic 73, 3) := by decide +kernel
theorem dX7_isShape_13 : decode cX7_isShape 13 = .ok (.ireturn, 1) := by decide +kernel
theorem dX7_shape_0 : decode cX7_shape 0 = .ok (.aload_n 0, 1) := by decide +kernel
theorem dX7_shape_1 : decode cX7_shape 1 = .ok (.iload_n 1, 1) := by decide +kernel
theorem dX7_shape_2 : decode cX7_shape 2 = .ok (.invokevirtual 258, 3) := by decide +kernel
theorem dX7_shape_5 : decode cX7_shape 5 = .ok (.ifCond .eq 15, 3) := by decide +kernel
theorem dX7_shape_8 : decode cX7_shape 8 = .ok (.iload_n 2, 1) := by decide +kernel
theorem dX7_shape_9 : decode cX7_shape 9 = .ok (.i2l, 1) := by decide +kernel
theorem dX7_shape_10 : decode cX7_shape 10 = .ok (.lconst 0, 1) := by decide +kernel
theorem dX7_shape_11 : decode cX7_shape 11 = .ok (.ldc2_w 261, 3) := by decide +kernel
theorem dX7_shape_14 : decode cX7_shape 14 = .ok (.invokestatic 73, 3) := by decide +kernel
theorem dX7_shape_17 : decode cX7_shape 17 = .ok (.ifCond .ne 5, 3) := by decide +kernel
theorem dX7_shape_20 : decode cX7_shape 20 = .ok (.iconst (-1), 1) := by decide +kernel
theorem dX7_shape_21 : decode cX7_shape 21 = .ok (.ireturn, 1) := by decide +kernel
theorem dX7_shape_22 : decode cX7_shape 22 = .ok (.iload_n 2, 1) := by decide +kernel
theorem dX7_shape_23 : decode cX7_shape 23 = .ok (.iconst 3, 1) := by decide +kernel
theorem dX7_shape_24 : decode cX7_shape 24 = .ok (.if_icmp .ge 15, 3) := by decide +kernel
theorem dX7_shape_27 : decode cX7_shape 27 = .ok (.aload_n 0, 1) := by decide +kernel
theorem dX7_shape_28 : decode cX7_shape 28 = .ok (.getfield 16, 3) := by decide +kernel
theorem dX7_shape_31 : decode cX7_shape 31 = .ok (.bipush 19, 2) := by decide +kernel
theorem dX7_shape_33 : decode cX7_shape 33 = .ok (.iload_n 1, 1) := by decide +kernel
theorem dX7_shape_34 : decode cX7_shape 34 = .ok (.imul, 1) := by decide +kernel
theorem dX7_shape_35 : decode cX7_shape 35 = .ok (.iload_n 2, 1) := by decide +kernel
theorem dX7_shape_36 : decode cX7_shape 36 = .ok (.iadd, 1) := by decide +kernel
theorem dX7_shape_37 : decode cX7_shape 37 = .ok (.iaload, 1) := by decide +kernel
theorem dX7_shape_38 : decode cX7_shape 38 = .ok (.ireturn, 1) := by decide +kernel
theorem dX7_shape_39 : decode cX7_shape 39 = .ok (.iconst 0, 1) := by decide +kernel
theorem dX7_shape_40 : decode cX7_shape 40 = .ok (.istore_n 3, 1) := by decide +kernel
theorem dX7_shape_41 : decode cX7_shape 41 = .ok (.iconst 0, 1) := by decide +kernel
theorem dX7_shape_42 : decode cX7_shape 42 = .ok (.istore 4, 2) := by decide +kernel
theorem dX7_shape_44 : decode cX7_shape 44 = .ok (.iload 4, 2) := by decide +kernel
theorem dX7_shape_46 : decode cX7_shape 46 = .ok (.aload_n 0, 1) := by decide +kernel
theorem dX7_shape_47 : decode cX7_shape 47 = .ok (.getfield 16, 3) := by decide +kernel
theorem dX7_shape_50 : decode cX7_shape 50 = .ok (.bipush 19, 2) := by decide +kernel
theorem dX7_shape_52 : decode cX7_shape 52 = .ok (.iload_n 1, 1) := by decide +kernel
theorem dX7_shape_53 : decode cX7_shape 53 = .ok (.imul, 1) := by decide +kernel
theorem dX7_shape_54 : decode cX7_shape 54 = .ok (.iconst 2, 1) := by decide +kernel
theorem dX7_shape_55 : decode cX7_shape 55 = .ok (.iadd, 1) := by decide +kernel
theorem dX7_shape_56 : decode cX7_shape 56 = .ok (.iaload, 1) := by decide +kernel
theorem dX7_shape_57 : decode cX7_shape 57 = .ok (.if_icmp .ge 39, 3) := by decide +kernel
theorem dX7_shape_60 : decode cX7_shape 60 = .ok (.aload_n 0, 1) := by decide +kernel
theorem dX7_shape_61 : decode cX7_shape 61 = .ok (.getfield 16, 3) := by decide +kernel
theorem dX7_shape_64 : decode cX7_shape 64 = .ok (.bipush 19, 2) := by decide +kernel
theorem dX7_shape_66 : decode cX7_shape 66 = .ok (.iload_n 1, 1) := by decide +kernel
theorem dX7_shape_67 : decode cX7_shape 67 = .ok (.imul, 1) := by decide +kernel
theorem dX7_shape_68 : decode cX7_shape 68 = .ok (.bipush 11, 2) := by decide +kernel
theorem dX7_shape_70 : decode cX7_shape 70 = .ok (.iadd, 1) := by decide +kernel
theorem dX7_shape_71 : decode cX7_shape 71 = .ok (.iload 4, 2) := by decide +kernel
theorem dX7_shape_73 : decode cX7_shape 73 = .ok (.iadd, 1) := by decide +kernel
theorem dX7_shape_74 : decode cX7_shape 74 = .ok (.iaload, 1) := by decide +kernel
theorem dX7_shape_75 : decode cX7_shape 75 = .ok (.istore 5, 2) := by decide +kernel
theorem dX7_shape_77 : decode cX7_shape 77 = .ok (.iload 5, 2) := by decide +kernel
theorem dX7_shape_79 : decode cX7_shape 79 = .ok (.iload_n 3, 1) := by decide +kernel
theorem dX7_shape_80 : decode cX7_shape 80 = .ok (.if_icmp .le 8, 3) := by decide +kernel
theorem dX7_shape_83 : decode cX7_shape 83 = .ok (.iload 5, 2) := by decide +kernel
theorem dX7_shape_85 : decode cX7_shape 85 = .ok (.goto 4, 3) := by decide +kernel
theorem dX7_shape_88 : decode cX7_shape 88 = .ok (.iload_n 3, 1) := by decide +kernel
theorem dX7_shape_89 : decode cX7_shape 89 = .ok (.istore_n 3, 1) := by decide +kernel
theorem dX7_shape_90 : decode cX7_shape 90 = .ok (.iinc 4 1, 3) := by decide +kernel
theorem dX7_shape_93 : decode cX7_shape 93 = .ok (.goto (-49), 3) := by decide +kernel
theorem dX7_shape_96 : decode cX7_shape 96 = .ok (.iload_n 3, 1) := by decide +kernel
theorem dX7_shape_97 : decode cX7_shape 97 = .ok (.ireturn, 1) := by decide +kernel
theorem dX7_step_0 : decode cX7_step 0 = .ok (.aload_n 0, 1) := by decide +kernel
theorem dX7_step_1 : decode cX7_step 1 = .ok (.iload_n 1, 1) := by decide +kernel
theorem dX7_step_2 : decode cX7_step 2 = .ok (.invokevirtual 258, 3) := by decide +kernel
theorem dX7_step_5 : decode cX7_step 5 = .ok (.ifCond .eq 17, 3) := by decide +kernel
theorem dX7_step_8 : decode cX7_step 8 = .ok (.iload_n 2, 1) := by decide +kernel
theorem dX7_step_9 : decode cX7_step 9 = .ok (.ifCond .lt 13, 3) := by decide +kernel
theorem dX7_step_12 : decode cX7_step 12 = .ok (.iload_n 3, 1) := by decide +kernel
theorem dX7_step_13 : decode cX7_step 13 = .ok (.i2l, 1) := by decide +kernel
theorem dX7_step_14 : decode cX7_step 14 = .ok (.lconst 0, 1) := by decide +kernel
theorem dX7_step_15 : decode cX7_step 15 = .ok (.lconst 1, 1) := by decide +kernel
theorem dX7_step_16 : decode cX7_step 16 = .ok (.invokestatic 73, 3) := by decide +kernel
theorem dX7_step_19 : decode cX7_step 19 = .ok (.ifCond .ne 5, 3) := by decide +kernel
theorem dX7_step_22 : decode cX7_step 22 = .ok (.iconst (-1), 1) := by decide +kernel
theorem dX7_step_23 : decode cX7_step 23 = .ok (.ireturn, 1) := by decide +kernel
theorem dX7_step_24 : decode cX7_step 24 = .ok (.iload_n 2, 1) := by decide +kernel
theorem dX7_step_25 : decode cX7_step 25 = .ok (.aload_n 0, 1) := by decide +kernel
theorem dX7_step_26 : decode cX7_step 26 = .ok (.getfield 16, 3) := by decide +kernel
theorem dX7_step_29 : decode cX7_step 29 = .ok (.bipush 19, 2) := by decide +kernel
theorem dX7_step_31 : decode cX7_step 31 = .ok (.iload_n 1, 1) := by decide +kernel
theorem dX7_step_32 : decode cX7_step 32 = .ok (.imul, 1) := by decide +kernel
theorem dX7_step_33 : decode cX7_step 33 = .ok (.iconst 2, 1) := by decide +kernel
theorem dX7_step_34 : decode cX7_step 34 = .ok (.iadd, 1) := by decide +kernel
theorem dX7_step_35 : decode cX7_step 35 = .ok (.iaload, 1) := by decide +kernel
theorem dX7_step_36 : decode cX7_step 36 = .ok (.if_icmp .ge 28, 3) := by decide +kernel
theorem dX7_step_39 : decode cX7_step 39 = .ok (.aload_n 0, 1) := by decide +kernel
theorem dX7_step_40 : decode cX7_step 40 = .ok (.getfield 16, 3) := by decide +kernel
theorem dX7_step_43 : decode cX7_step 43 = .ok (.bipush 19, 2) := by decide +kernel
theorem dX7_step_45 : decode cX7_step 45 = .ok (.iload_n 1, 1) := by decide +kernel
theorem dX7_step_46 : decode cX7_step 46 = .ok (.imul, 1) := by decide +kernel
theorem dX7_step_47 : decode cX7_step 47 = .ok (.iload_n 3, 1) := by decide +kernel
theorem dX7_step_48 : decode cX7_step 48 = .ok (.ifCond .ne 7, 3) := by decide +kernel
theorem dX7_step_51 : decode cX7_step 51 = .ok (.iconst 3, 1) := by decide +kernel
theorem dX7_step_52 : decode cX7_step 52 = .ok (.goto 5, 3) := by decide +kernel
theorem dX7_step_55 : decode cX7_step 55 = .ok (.bipush 11, 2) := by decide +kernel
theorem dX7_step_57 : decode cX7_step 57 = .ok (.iadd, 1) := by decide +kernel
theorem dX7_step_58 : decode cX7_step 58 = .ok (.iload_n 2, 1) := by decide +kernel
theorem dX7_step_59 : decode cX7_step 59 = .ok (.iadd, 1) := by decide +kernel
theorem dX7_step_60 : decode cX7_step 60 = .ok (.iaload, 1) := by decide +kernel
theorem dX7_step_61 : decode cX7_step 61 = .ok (.goto 5, 3) := by decide +kernel
theorem dX7_step_64 : decode cX7_step 64 = .ok (.bipush (-4), 2) := by decide +kernel
theorem dX7_step_66 : decode cX7_step 66 = .ok (.ireturn, 1) := by decide +kernel
theorem dX7_isPar_0 : decode cX7_isPar 0 = .ok (.iload_n 1, 1) := by decide +kernel
theorem dX7_isPar_1 : decode cX7_isPar 1 = .ok (.i2l, 1) := by decide +kernel
theorem dX7_isPar_2 : decode cX7_isPar 2 = .ok (.lconst 0, 1) := by decide +kernel
theorem dX7_isPar_3 : decode cX7_isPar 3 = .ok (.aload_n 0, 1) := by decide +kernel
theorem dX7_isPar_4 : decode cX7_isPar 4 = .ok (.getfield 7, 3) := by decide +kernel
theorem dX7_isPar_7 : decode cX7_isPar 7 = .ok (.iconst 0, 1) := by decide +kernel
theorem dX7_isPar_8 : decode cX7_isPar 8 = .ok (.iaload, 1) := by decide +kernel
theorem dX7_isPar_9 : decode cX7_isPar 9 = .ok (.iconst 1, 1) := by decide +kernel
theorem dX7_isPar_10 : decode cX7_isPar 10 = .ok (.isub, 1) := by decide +kernel
theorem dX7_isPar_11 : decode cX7_isPar 11 = .ok (.i2l, 1) := by decide +kernel
theorem dX7_isPar_12 : decode cX7_isPar 12 = .ok (.invokestatic 73, 3) := by decide +kernel
theorem dX7_isPar_15 : decode cX7_isPar 15 = .ok (.ireturn, 1) := by decide +kernel
theorem dX7_slacksOf_0 : decode cX7_slacksOf 0 = .ok (.iconst 0, 1) := by decide +kernel
theorem dX7_slacksOf_1 : decode cX7_slacksOf 1 = .ok (.istore_n 2, 1) := by decide +kernel
theorem dX7_slacksOf_2 : decode cX7_slacksOf 2 = .ok (.aload_n 0, 1) := by decide +kernel
theorem dX7_slacksOf_3 : decode cX7_slacksOf 3 = .ok (.getfield 41, 3) := by decide +kernel
theorem dX7_slacksOf_6 : decode cX7_slacksOf 6 = .ok (.iload_n 1, 1) := by decide +kernel
theorem dX7_slacksOf_7 : decode cX7_slacksOf 7 = .ok (.iaload, 1) := by decide +kernel
theorem dX7_slacksOf_8 : decode cX7_slacksOf 8 = .ok (.istore_n 3, 1) := by decide +kernel
theorem dX7_slacksOf_9 : decode cX7_slacksOf 9 = .ok (.iload_n 3, 1) := by decide +kernel
theorem dX7_slacksOf_10 : decode cX7_slacksOf 10 = .ok (.aload_n 0, 1) := by decide +kernel
theorem dX7_slacksOf_11 : decode cX7_slacksOf 11 = .ok (.getfield 41, 3) := by decide +kernel
theorem dX7_slacksOf_14 : decode cX7_slacksOf 14 = .ok (.iload_n 1, 1) := by decide +kernel
theorem dX7_slacksOf_15 : decode cX7_slacksOf 15 = .ok (.iaload, 1) := by decide +kernel
theorem dX7_slacksOf_16 : decode cX7_slacksOf 16 = .ok (.aload_n 0, 1) := by decide +kernel
theorem dX7_slacksOf_17 : decode cX7_slacksOf 17 = .ok (.getfield 44, 3) := by decide +kernel
theorem dX7_slacksOf_20 : decode cX7_slacksOf 20 = .ok (.iload_n 1, 1) := by decide +kernel
theorem dX7_slacksOf_21 : decode cX7_slacksOf 21 = .ok (.iaload, 1) := by decide +kernel
theorem dX7_slacksOf_22 : decode cX7_slacksOf 22 = .ok (.iadd, 1) := by decide +kernel
theorem dX7_slacksOf_23 : decode cX7_slacksOf 23 = .ok (.iconst 1, 1) := by decide +kernel
theorem dX7_slacksOf_24 : decode cX7_slacksOf 24 = .ok (.isub, 1) := by decide +kernel
theorem dX7_slacksOf_25 : decode cX7_slacksOf 25 = .ok (.if_icmp .ge 54, 3) := by decide +kernel
theorem dX7_slacksOf_28 : decode cX7_slacksOf 28 = .ok (.aload_n 0, 1) := by decide +kernel
theorem dX7_slacksOf_29 : decode cX7_slacksOf 29 = .ok (.iload_n 3, 1) := by decide +kernel
theorem dX7_slacksOf_30 : decode cX7_slacksOf 30 = .ok (.invokevirtual 230, 3) := by decide +kernel
theorem dX7_slacksOf_33 : decode cX7_slacksOf 33 = .ok (.ifCond .eq 7, 3) := by decide +kernel
theorem dX7_slacksOf_36 : decode cX7_slacksOf 36 = .ok (.iconst 0, 1) := by decide +kernel
theorem dX7_slacksOf_37 : decode cX7_slacksOf 37 = .ok (.goto 26, 3) := by decide +kernel
theorem dX7_slacksOf_40 : decode cX7_slacksOf 40 = .ok (.aload_n 0, 1) := by decide +kernel
theorem dX7_slacksOf_41 : decode cX7_slacksOf 41 = .ok (.iload_n 1, 1) := by decide +kernel
theorem dX7_slacksOf_42 : decode cX7_slacksOf 42 = .ok (.iload_n 3, 1) := by decide +kernel
theorem dX7_slacksOf_43 : decode cX7_slacksOf 43 = .ok (.invokevirtual 204, 3) := by decide +kernel
theorem dX7_slacksOf_46 : decode cX7_slacksOf 46 = .ok (.aload_n 0, 1) := by decide +kernel
theorem dX7_slacksOf_47 : decode cX7_slacksOf 47 = .ok (.aload_n 0, 1) := by decide +kernel
theorem dX7_slacksOf_48 : decode cX7_slacksOf 48 = .ok (.getfield 50, 3) := by decide +kernel
theorem dX7_slacksOf_51 : decode cX7_slacksOf 51 = .ok (.iload_n 3, 1) := by decide +kernel
theorem dX7_slacksOf_52 : decode cX7_slacksOf 52 = .ok (.iaload, 1) := by decide +kernel
theorem dX7_slacksOf_53 : decode cX7_slacksOf 53 = .ok (.aload_n 0, 1) := by decide +kernel
theorem dX7_slacksOf_54 : decode cX7_slacksOf 54 = .ok (.getfield 53, 3) := by decide +kernel
theorem dX7_slacksOf_57 : decode cX7_slacksOf 57 = .ok (.iload_n 3, 1) := by decide +kernel
theorem dX7_slacksOf_58 : decode cX7_slacksOf 58 = .ok (.iaload, 1) := by decide +kernel
theorem dX7_slacksOf_59 : decode cX7_slacksOf 59 = .ok (.invokevirtual 207, 3) := by decide +kernel
theorem dX7_slacksOf_62 : decode cX7_slacksOf 62 = .ok (.isub, 1) := by decide +kernel
theorem dX7_slacksOf_63 : decode cX7_slacksOf 63 = .ok (.istore 4, 2) := by decide +kernel
theorem dX7_slacksOf_65 : decode cX7_slacksOf 65 = .ok (.iload_n 2, 1) := by decide +kernel
theorem dX7_slacksOf_66 : decode cX7_slacksOf 66 = .ok (.iload 4, 2) := by decide +kernel
theorem dX7_slacksOf_68 : decode cX7_slacksOf 68 = .ok (.iload 4, 2) := by decide +kernel
theorem dX7_slacksOf_70 : decode cX7_slacksOf 70 = .ok (.imul, 1) := by decide +kernel
theorem dX7_slacksOf_71 : decode cX7_slacksOf 71 = .ok (.iadd, 1) := by decide +kernel
theorem dX7_slacksOf_72 : decode cX7_slacksOf 72 = .ok (.istore_n 2, 1) := by decide +kernel
theorem dX7_slacksOf_73 : decode cX7_slacksOf 73 = .ok (.iinc 3 1, 3) := by decide +kernel
theorem dX7_slacksOf_76 : decode cX7_slacksOf 76 = .ok (.goto (-67), 3) := by decide +kernel
theorem dX7_slacksOf_79 : decode cX7_slacksOf 79 = .ok (.iload_n 2, 1) := by decide +kernel
theorem dX7_slacksOf_80 : decode cX7_slacksOf 80 = .ok (.ireturn, 1) := by decide +kernel
theorem dX7_ofLines_0 : decode cX7_ofLines 0 = .ok (.iconst 0, 1) := by decide +kernel
theorem dX7_ofLines_1 : decode cX7_ofLines 1 = .ok (.istore_n 3, 1) := by decide +kernel
theorem dX7_ofLines_2 : decode cX7_ofLines 2 = .ok (.aload_n 0, 1) := by decide +kernel
theorem dX7_ofLines_3 : decode cX7_ofLines 3 = .ok (.getfield 41, 3) := by decide +kernel
theorem dX7_ofLines_6 : decode cX7_ofLines 6 = .ok (.iload_n 1, 1) := by decide +kernel
theorem dX7_ofLines_7 : decode cX7_ofLines 7 = .ok (.iaload, 1) := by decide +kernel
theorem dX7_ofLines_8 : decode cX7_ofLines 8 = .ok (.istore 4, 2) := by decide +kernel
theorem dX7_ofLines_10 : decode cX7_ofLines 10 = .ok (.iload 4, 2) := by decide +kernel
theorem dX7_ofLines_12 : decode cX7_ofLines 12 = .ok (.aload_n 0, 1) := by decide +kernel
theorem dX7_ofLines_13 : decode cX7_ofLines 13 = .ok (.getfield 41, 3) := by decide +kernel
theorem dX7_ofLines_16 : decode cX7_ofLines 16 = .ok (.iload_n 1, 1) := by decide +kernel
theorem dX7_ofLines_17 : decode cX7_ofLines 17 = .ok (.iaload, 1) := by decide +kernel
theorem dX7_ofLines_18 : decode cX7_ofLines 18 = .ok (.aload_n 0, 1) := by decide +kernel
theorem dX7_ofLines_19 : decode cX7_ofLines 19 = .ok (.getfield 44, 3) := by decide +kernel
theorem dX7_ofLines_22 : decode cX7_ofLines 22 = .ok (.iload_n 1, 1) := by decide +kernel
theorem dX7_ofLines_23 : decode cX7_ofLines 23 = .ok (.iaload, 1) := by decide +kernel
theorem dX7_ofLines_24 : decode cX7_ofLines 24 = .ok (.iadd, 1) := by decide +kernel
theorem dX7_ofLines_25 : decode cX7_ofLines 25 = .ok (.if_icmp .ge 62, 3) := by decide +kernel
theorem dX7_ofLines_28 : decode cX7_ofLines 28 = .ok (.iload_n 2, 1) := by decide +kernel
theorem dX7_ofLines_29 : decode cX7_ofLines 29 = .ok (.bipush 7, 2) := by decide +kernel
theorem dX7_ofLines_31 : decode cX7_ofLines 31 = .ok (.if_icmp .ne 15, 3) := by decide +kernel
theorem dX7_ofLines_34 : decode cX7_ofLines 34 = .ok (.aload_n 0, 1) := by decide +kernel
theorem dX7_ofLines_35 : decode cX7_ofLines 35 = .ok (.iload 4, 2) := by decide +kernel
theorem dX7_ofLines_37 : decode cX7_ofLines 37 = .ok (.invokevirtual 227, 3) := by decide +kernel
theorem dX7_ofLines_40 : decode cX7_ofLines 40 = .ok (.ifCond .eq 6, 3) := by decide +kernel
theorem dX7_ofLines_43 : decode cX7_ofLines 43 = .ok (.iload 4, 2) := by decide +kernel
theorem dX7_ofLines_45 : decode cX7_ofLines 45 = .ok (.ireturn, 1) := by decide +kernel
theorem dX7_ofLines_46 : decode cX7_ofLines 46 = .ok (.iload_n 3, 1) := by decide +kernel
theorem dX7_ofLines_47 : decode cX7_ofLines 47 = .ok (.iload_n 2, 1) := by decide +kernel
theorem dX7_ofLines_48 : decode cX7_ofLines 48 = .ok (.bipush 6, 2) := by decide +kernel
theorem dX7_ofLines_50 : decode cX7_ofLines 50 = .ok (.if_icmp .ne 15, 3) := by decide +kernel
theorem dX7_ofLines_53 : decode cX7_ofLines 53 = .ok (.aload_n 0, 1) := by decide +kernel
theorem dX7_ofLines_54 : decode cX7_ofLines 54 = .ok (.iload 4, 2) := by decide +kernel
theorem dX7_ofLines_56 : decode cX7_ofLines 56 = .ok (.invokevirtual 227, 3) := by decide +kernel
theorem dX7_ofLines_59 : decode cX7_ofLines 59 = .ok (.ifCond .eq 19, 3) := by decide +kernel
theorem dX7_ofLines_62 : decode cX7_ofLines 62 = .ok (.goto 12, 3) := by decide +kernel
theorem dX7_ofLines_65 : decode cX7_ofLines 65 = .ok (.aload_n 0, 1) := by decide +kernel
theorem dX7_ofLines_66 : decode cX7_ofLines 66 = .ok (.iload 4, 2) := by decide +kernel
theorem dX7_ofLines_68 : decode cX7_ofLines 68 = .ok (.invokevirtual 230, 3) := by decide +kernel
theorem dX7_ofLines_71 : decode cX7_ofLines 71 = .ok (.ifCond .eq 7, 3) := by decide +kernel
theorem dX7_ofLines_74 : decode cX7_ofLines 74 = .ok (.iconst 1, 1) := by decide +kernel
theorem dX7_ofLines_75 : decode cX7_ofLines 75 = .ok (.goto 4, 3) := by decide +kernel
theorem dX7_ofLines_78 : decode cX7_ofLines 78 = .ok (.iconst 0, 1) := by decide +kernel
theorem dX7_ofLines_79 : decode cX7_ofLines 79 = .ok (.iadd, 1) := by decide +kernel
theorem dX7_ofLines_80 : decode cX7_ofLines 80 = .ok (.istore_n 3, 1) := by decide +kernel
theorem dX7_ofLines_81 : decode cX7_ofLines 81 = .ok (.iinc 4 1, 3) := by decide +kernel
theorem dX7_ofLines_84 : decode cX7_ofLines 84 = .ok (.goto (-74), 3) := by decide +kernel
theorem dX7_ofLines_87 : decode cX7_ofLines 87 = .ok (.iload_n 2, 1) := by decide +kernel
theorem dX7_ofLines_88 : decode cX7_ofLines 88 = .ok (.bipush 7, 2) := by decide +kernel
theorem dX7_ofLines_90 : decode cX7_ofLines 90 = .ok (.if_icmp .ne 8, 3) := by decide +kernel
theorem dX7_ofLines_93 : decode cX7_ofLines 93 = .ok (.bipush (-4), 2) := by decide +kernel
theorem dX7_ofLines_95 : decode cX7_ofLines 95 = .ok (.goto 4, 3) := by decide +kernel
theorem dX7_ofLines_98 : decode cX7_ofLines 98 = .ok (.iload_n 3, 1) := by decide +kernel
theorem dX7_ofLines_99 : decode cX7_ofLines 99 = .ok (.ireturn, 1) := by decide +kernel
theorem dX7_par_0 : decode cX7_par 0 = .ok (.aload_n 0, 1) := by decide +kernel
theorem dX7_par_1 : decode cX7_par 1 = .ok (.iload_n 1, 1) := by decide +kernel
theorem dX7_par_2 : decode cX7_par 2 = .ok (.invokevirtual 263, 3) := by decide +kernel
theorem dX7_par_5 : decode cX7_par 5 = .ok (.ifCond .eq 15, 3) := by decide +kernel
theorem dX7_par_8 : decode cX7_par 8 = .ok (.iload_n 2, 1) := by decide +kernel
theorem dX7_par_9 : decode cX7_par 9 = .ok (.i2l, 1) := by decide +kernel
theorem dX7_par_10 : decode cX7_par 10 = .ok (.lconst 0, 1) := by decide +kernel
theorem dX7_par_11 : decode cX7_par 11 = .ok (.ldc2_w 266, 3) := by decide +kernel
theorem dX7_par_14 : decode cX7_par 14 = .ok (.invokestatic 73, 3) := by decide +kernel
theorem dX7_par_17 : decode cX7_par 17 = .ok (.ifCond .ne 5, 3) := by decide +kernel
theorem dX7_par_20 : decode cX7_par 20 = .ok (.iconst (-1), 1) := by decide +kernel
theorem dX7_par_21 : decode cX7_par 21 = .ok (.ireturn, 1) := by decide +kernel
theorem dX7_par_22 : decode cX7_par 22 = .ok (.aload_n 0, 1) := by decide +kernel
theorem dX7_par_23 : decode cX7_par 23 = .ok (.invokevirtual 252, 3) := by decide +kernel
theorem dX7_par_26 : decode cX7_par 26 = .ok (.iload_n 2, 1) := by decide +kernel
theorem dX7_par_27 : decode cX7_par 27 = .ok (.tableswitch 97 0 9 #[53, 59, 65, 71, 77, 84, 97, 97, 97, 91], 53) := by decide +kernel
theorem dX7_par_80 : decode cX7_par 80 = .ok (.aload_n 0, 1) := by decide +kernel
theorem dX7_par_81 : decode cX7_par 81 = .ok (.iload_n 1, 1) := by decide +kernel
theorem dX7_par_82 : decode cX7_par 82 = .ok (.invokevirtual 171, 3) := by decide +kernel
theorem dX7_par_85 : decode cX7_par 85 = .ok (.ireturn, 1) := by decide +kernel
theorem dX7_par_86 : decode cX7_par 86 = .ok (.aload_n 0, 1) := by decide +kernel
theorem dX7_par_87 : decode cX7_par 87 = .ok (.iload_n 1, 1) := by decide +kernel
theorem dX7_par_88 : decode cX7_par 88 = .ok (.invokevirtual 174, 3) := by decide +kernel
theorem dX7_par_91 : decode cX7_par 91 = .ok (.ireturn, 1) := by decide +kernel
theorem dX7_par_92 : decode cX7_par 92 = .ok (.aload_n 0, 1) := by decide +kernel
theorem dX7_par_93 : decode cX7_par 93 = .ok (.iload_n 1, 1) := by decide +kernel
theorem dX7_par_94 : decode cX7_par 94 = .ok (.invokevirtual 177, 3) := by decide +kernel
theorem dX7_par_97 : decode cX7_par 97 = .ok (.ireturn, 1) := by decide +kernel
theorem dX7_par_98 : decode cX7_par 98 = .ok (.aload_n 0, 1) := by decide +kernel
theorem dX7_par_99 : decode cX7_par 99 = .ok (.iload_n 1, 1) := by decide +kernel
theorem dX7_par_100 : decode cX7_par 100 = .ok (.invokevirtual 183, 3) := by decide +kernel
theorem dX7_par_103 : decode cX7_par 103 = .ok (.ireturn, 1) := by decide +kernel
theorem dX7_par_104 : decode cX7_par 104 = .ok (.aload_n 0, 1) := by decide +kernel
theorem dX7_par_105 : decode cX7_par 105 = .ok (.getfield 41, 3) := by decide +kernel
theorem dX7_par_108 : decode cX7_par 108 = .ok (.iload_n 1, 1) := by decide +kernel
theorem dX7_par_109 : decode cX7_par 109 = .ok (.iaload, 1) := by decide +kernel
theorem dX7_par_110 : decode cX7_par 110 = .ok (.ireturn, 1) := by decide +kernel
theorem dX7_par_111 : decode cX7_par 111 = .ok (.aload_n 0, 1) := by decide +kernel
theorem dX7_par_112 : decode cX7_par 112 = .ok (.getfield 44, 3) := by decide +kernel
theorem dX7_par_115 : decode cX7_par 115 = .ok (.iload_n 1, 1) := by decide +kernel
theorem dX7_par_116 : decode cX7_par 116 = .ok (.iaload, 1) := by decide +kernel
theorem dX7_par_117 : decode cX7_par 117 = .ok (.ireturn, 1) := by decide +kernel
theorem dX7_par_118 : decode cX7_par 118 = .ok (.aload_n 0, 1) := by decide +kernel
theorem dX7_par_119 : decode cX7_par 119 = .ok (.iload_n 1, 1) := by decide +kernel
theorem dX7_par_120 : decode cX7_par 120 = .ok (.invokevirtual 268, 3) := by decide +kernel
theorem dX7_par_123 : decode cX7_par 123 = .ok (.ireturn, 1) := by decide +kernel
theorem dX7_par_124 : decode cX7_par 124 = .ok (.aload_n 0, 1) := by decide +kernel
theorem dX7_par_125 : decode cX7_par 125 = .ok (.iload_n 1, 1) := by decide +kernel
theorem dX7_par_126 : decode cX7_par 126 = .ok (.iload_n 2, 1) := by decide +kernel
theorem dX7_par_127 : decode cX7_par 127 = .ok (.invokevirtual 271, 3) := by decide +kernel
theorem dX7_par_130 : decode cX7_par 130 = .ok (.ireturn, 1) := by decide +kernel
theorem dX7_lineOfWord_0 : decode cX7_lineOfWord 0 = .ok (.iconst 0, 1) := by decide +kernel
theorem dX7_lineOfWord_1 : decode cX7_lineOfWord 1 = .ok (.istore_n 2, 1) := by decide +kernel
theorem dX7_lineOfWord_2 : decode cX7_lineOfWord 2 = .ok (.aload_n 0, 1) := by decide +kernel
theorem dX7_lineOfWord_3 : decode cX7_lineOfWord 3 = .ok (.getfield 47, 3) := by decide +kernel
theorem dX7_lineOfWord_6 : decode cX7_lineOfWord 6 = .ok (.iload_n 2, 1) := by decide +kernel
theorem dX7_lineOfWord_7 : decode cX7_lineOfWord 7 = .ok (.iaload, 1) := by decide +kernel
theorem dX7_lineOfWord_8 : decode cX7_lineOfWord 8 = .ok (.bipush (-4), 2) := by decide +kernel
theorem dX7_lineOfWord_10 : decode cX7_lineOfWord 10 = .ok (.if_icmp .eq 30, 3) := by decide +kernel
theorem dX7_lineOfWord_13 : decode cX7_lineOfWord 13 = .ok (.iload_n 1, 1) := by decide +kernel
theorem dX7_lineOfWord_14 : decode cX7_lineOfWord 14 = .ok (.aload_n 0, 1) := by decide +kernel
theorem dX7_lineOfWord_15 : decode cX7_lineOfWord 15 = .ok (.getfield 50, 3) := by decide +kernel
theorem dX7_lineOfWord_18 : decode cX7_lineOfWord 18 = .ok (.iload_n 2, 1) := by decide +kernel
theorem dX7_lineOfWord_19 : decode cX7_lineOfWord 19 = .ok (.iaload, 1) := by decide +kernel
theorem dX7_lineOfWord_20 : decode cX7_lineOfWord 20 = .ok (.if_icmp .lt 20, 3) := by decide +kernel
theorem dX7_lineOfWord_23 : decode cX7_lineOfWord 23 = .ok (.iload_n 1, 1) := by decide +kernel
theorem dX7_lineOfWord_24 : decode cX7_lineOfWord 24 = .ok (.aload_n 0, 1) := by decide +kernel
theorem dX7_lineOfWord_25 : decode cX7_lineOfWord 25 = .ok (.getfield 50, 3) := by decide +kernel
theorem dX7_lineOfWord_28 : decode cX7_lineOfWord 28 = .ok (.iload_n 2, 1) := by decide +kernel
theorem dX7_lineOfWord_29 : decode cX7_lineOfWord 29 = .ok (.iaload, 1) := by decide +kernel
theorem dX7_lineOfWord_30 : decode cX7_lineOfWord 30 = .ok (.aload_n 0, 1) := by decide +kernel
theorem dX7_lineOfWord_31 : decode cX7_lineOfWord 31 = .ok (.getfield 53, 3) := by decide +kernel
theorem dX7_lineOfWord_34 : decode cX7_lineOfWord 34 = .ok (.iload_n 2, 1) := by decide +kernel
theorem dX7_lineOfWord_35 : decode cX7_lineOfWord 35 = .ok (.iaload, 1) := by decide +kernel
theorem dX7_lineOfWord_36 : decode cX7_lineOfWord 36 = .ok (.iadd, 1) := by decide +kernel
theorem dX7_lineOfWord_37 : decode cX7_lineOfWord 37 = .ok (.if_icmp .lt 9, 3) := by decide +kernel
theorem dX7_lineOfWord_40 : decode cX7_lineOfWord 40 = .ok (.iinc 2 1, 3) := by decide +kernel
theorem dX7_lineOfWord_43 : decode cX7_lineOfWord 43 = .ok (.goto (-41), 3) := by decide +kernel
theorem dX7_lineOfWord_46 : decode cX7_lineOfWord 46 = .ok (.iload_n 2, 1) := by decide +kernel
theorem dX7_lineOfWord_47 : decode cX7_lineOfWord 47 = .ok (.ireturn, 1) := by decide +kernel
theorem dX7_beginOf_0 : decode cX7_beginOf 0 = .ok (.aload_n 0, 1) := by decide +kernel
theorem dX7_beginOf_1 : decode cX7_beginOf 1 = .ok (.iload_n 1, 1) := by decide +kernel
theorem dX7_beginOf_2 : decode cX7_beginOf 2 = .ok (.invokevirtual 274, 3) := by decide +kernel
theorem dX7_beginOf_5 : decode cX7_beginOf 5 = .ok (.istore_n 2, 1) := by decide +kernel
theorem dX7_beginOf_6 : decode cX7_beginOf 6 = .ok (.iload_n 1, 1) := by decide +kernel
theorem dX7_beginOf_7 : decode cX7_beginOf 7 = .ok (.aload_n 0, 1) := by decide +kernel
theorem dX7_beginOf_8 : decode cX7_beginOf 8 = .ok (.getfield 50, 3) := by decide +kernel
theorem dX7_beginOf_11 : decode cX7_beginOf 11 = .ok (.iload_n 2, 1) := by decide +kernel
theorem dX7_beginOf_12 : decode cX7_beginOf 12 = .ok (.iaload, 1) := by decide +kernel
theorem dX7_beginOf_13 : decode cX7_beginOf 13 = .ok (.isub, 1) := by decide +kernel
theorem dX7_beginOf_14 : decode cX7_beginOf 14 = .ok (.istore_n 3, 1) := by decide +kernel
theorem dX7_beginOf_15 : decode cX7_beginOf 15 = .ok (.aload_n 0, 1) := by decide +kernel
theorem dX7_beginOf_16 : decode cX7_beginOf 16 = .ok (.getfield 56, 3) := by decide +kernel
theorem dX7_beginOf_19 : decode cX7_beginOf 19 = .ok (.iload_n 2, 1) := by decide +kernel
theorem dX7_beginOf_20 : decode cX7_beginOf 20 = .ok (.iaload, 1) := by decide +kernel
theorem dX7_beginOf_21 : decode cX7_beginOf 21 = .ok (.iload_n 3, 1) := by decide +kernel
theorem dX7_beginOf_22 : decode cX7_beginOf 22 = .ok (.ifCond .ne 7, 3) := by decide +kernel
theorem dX7_beginOf_25 : decode cX7_beginOf 25 = .ok (.iconst 0, 1) := by decide +kernel
theorem dX7_beginOf_26 : decode cX7_beginOf 26 = .ok (.goto 16, 3) := by decide +kernel
theorem dX7_beginOf_29 : decode cX7_beginOf 29 = .ok (.aload_n 0, 1) := by decide +kernel
theorem dX7_beginOf_30 : decode cX7_beginOf 30 = .ok (.aload_n 0, 1) := by decide +kernel
theorem dX7_beginOf_31 : decode cX7_beginOf 31 = .ok (.getfield 50, 3) := by decide +kernel
theorem dX7_beginOf_34 : decode cX7_beginOf 34 = .ok (.iload_n 2, 1) := by decide +kernel
theorem dX7_beginOf_35 : decode cX7_beginOf 35 = .ok (.iaload, 1) := by decide +kernel
theorem dX7_beginOf_36 : decode cX7_beginOf 36 = .ok (.iload_n 3, 1) := by decide +kernel
theorem dX7_beginOf_37 : decode cX7_beginOf 37 = .ok (.invokevirtual 207, 3) := by decide +kernel
theorem dX7_beginOf_40 : decode cX7_beginOf 40 = .ok (.iconst 1, 1) := by decide +kernel
theorem dX7_beginOf_41 : decode cX7_beginOf 41 = .ok (.iadd, 1) := by decide +kernel
theorem dX7_beginOf_42 : decode cX7_beginOf 42 = .ok (.iadd, 1) := by decide +kernel
theorem dX7_beginOf_43 : decode cX7_beginOf 43 = .ok (.ireturn, 1) := by decide +kernel
theorem dX7_word_0 : decode cX7_word 0 = .ok (.aload_n 0, 1) := by decide +kernel
theorem dX7_word_1 : decode cX7_word 1 = .ok (.iload_n 1, 1) := by decide +kernel
theorem dX7_word_2 : decode cX7_word 2 = .ok (.invokevirtual 263, 3) := by decide +kernel
theorem dX7_word_5 : decode cX7_word 5 = .ok (.ifCond .eq 19, 3) := by decide +kernel
theorem dX7_word_8 : decode cX7_word 8 = .ok (.iload_n 2, 1) := by decide +kernel
theorem dX7_word_9 : decode cX7_word 9 = .ok (.ifCond .lt 15, 3) := by decide +kernel
theorem dX7_word_12 : decode cX7_word 12 = .ok (.iload_n 3, 1) := by decide +kernel
theorem dX7_word_13 : decode cX7_word 13 = .ok (.i2l, 1) := by decide +kernel
theorem dX7_word_14 : decode cX7_word 14 = .ok (.lconst 0, 1) := by decide +kernel
theorem dX7_word_15 : decode cX7_word 15 = .ok (.ldc2_w 277, 3) := by decide +kernel
theorem dX7_word_18 : decode cX7_word 18 = .ok (.invokestatic 73, 3) := by decide +kernel
theorem dX7_word_21 : decode cX7_word 21 = .ok (.ifCond .ne 5, 3) := by decide +kernel
theorem dX7_word_24 : decode cX7_word 24 = .ok (.iconst (-1), 1) := by decide +kernel
theorem dX7_word_25 : decode cX7_word 25 = .ok (.ireturn, 1) := by decide +kernel
theorem dX7_word_26 : decode cX7_word 26 = .ok (.iload_n 2, 1) := by decide +kernel
theorem dX7_word_27 : decode cX7_word 27 = .ok (.aload_n 0, 1) := by decide +kernel
theorem dX7_word_28 : decode cX7_word 28 = .ok (.iload_n 1, 1) := by decide +kernel
theorem dX7_word_29 : decode cX7_word 29 = .ok (.invokevirtual 171, 3) := by decide +kernel
theorem dX7_word_32 : decode cX7_word 32 = .ok (.if_icmp .lt 6, 3) := by decide +kernel
theorem dX7_word_35 : decode cX7_word 35 = .ok (.bipush (-4), 2) := by decide +kernel
theorem dX7_word_37 : decode cX7_word 37 = .ok (.ireturn, 1) := by decide +kernel
theorem dX7_word_38 : decode cX7_word 38 = .ok (.aload_n 0, 1) := by decide +kernel
theorem dX7_word_39 : decode cX7_word 39 = .ok (.iload_n 1, 1) := by decide +kernel
theorem dX7_word_40 : decode cX7_word 40 = .ok (.invokevirtual 201, 3) := by decide +kernel
theorem dX7_word_43 : decode cX7_word 43 = .ok (.iload_n 2, 1) := by decide +kernel
theorem dX7_word_44 : decode cX7_word 44 = .ok (.iadd, 1) := by decide +kernel
theorem dX7_word_45 : decode cX7_word 45 = .ok (.istore 4, 2) := by decide +kernel
theorem dX7_word_47 : decode cX7_word 47 = .ok (.aload_n 0, 1) := by decide +kernel
theorem dX7_word_48 : decode cX7_word 48 = .ok (.invokevirtual 252, 3) := by decide +kernel
theorem dX7_word_51 : decode cX7_word 51 = .ok (.iload_n 3, 1) := by decide +kernel
theorem dX7_word_52 : decode cX7_word 52 = .ok (.tableswitch 71 0 3 #[32, 46, 53, 64], 32) := by decide +kernel
theorem dX7_word_84 : decode cX7_word 84 = .ok (.aload_n 0, 1) := by decide +kernel
theorem dX7_word_85 : decode cX7_word 85 = .ok (.getfield 7, 3) := by decide +kernel
theorem dX7_word_88 : decode cX7_word 88 = .ok (.bipush 25, 2) := by decide +kernel
theorem dX7_word_90 : decode cX7_word 90 = .ok (.bipush 7, 2) := by decide +kernel
theorem dX7_word_92 : decode cX7_word 92 = .ok (.iload 4, 2) := by decide +kernel
theorem dX7_word_94 : decode cX7_word 94 = .ok (.imul, 1) := by decide +kernel
theorem dX7_word_95 : decode cX7_word 95 = .ok (.iadd, 1) := by decide +kernel
theorem dX7_word_96 : decode cX7_word 96 = .ok (.iaload, 1) := by decide +kernel
theorem dX7_word_97 : decode cX7_word 97 = .ok (.ireturn, 1) := by decide +kernel
theorem dX7_word_98 : decode cX7_word 98 = .ok (.aload_n 0, 1) := by decide +kernel
theorem dX7_word_99 : decode cX7_word 99 = .ok (.iload 4, 2) := by decide +kernel
theorem dX7_word_101 : decode cX7_word 101 = .ok (.invokevirtual 195, 3) := by decide +kernel
theorem dX7_word_104 : decode cX7_word 104 = .ok (.ireturn, 1) := by decide +kernel
theorem dX7_word_105 : decode cX7_word 105 = .ok (.aload_n 0, 1) := by decide +kernel
theorem dX7_word_106 : decode cX7_word 106 = .ok (.iload 4, 2) := by decide +kernel
theorem dX7_word_108 : decode cX7_word 108 = .ok (.aload_n 0, 1) := by decide +kernel
theorem dX7_word_109 : decode cX7_word 109 = .ok (.invokevirtual 237, 3) := by decide +kernel
theorem dX7_word_112 : decode cX7_word 112 = .ok (.invokevirtual 240, 3) := by decide +kernel
theorem dX7_word_115 : decode cX7_word 115 = .ok (.ireturn, 1) := by decide +kernel
theorem dX7_word_116 : decode cX7_word 116 = .ok (.aload_n 0, 1) := by decide +kernel
theorem dX7_word_117 : decode cX7_word 117 = .ok (.iload 4, 2) := by decide +kernel
theorem dX7_word_119 : decode cX7_word 119 = .ok (.invokevirtual 274, 3) := by decide +kernel
theorem dX7_word_122 : decode cX7_word 122 = .ok (.ireturn, 1) := by decide +kernel
theorem dX7_word_123 : decode cX7_word 123 = .ok (.aload_n 0, 1) := by decide +kernel
theorem dX7_word_124 : decode cX7_word 124 = .ok (.iload 4, 2) := by decide +kernel
theorem dX7_word_126 : decode cX7_word 126 = .ok (.invokevirtual 279, 3) := by decide +kernel
theorem dX7_word_129 : decode cX7_word 129 = .ok (.ireturn, 1) := by decide +kernel
theorem dX7_letter_0 : decode cX7_letter 0 = .ok (.aload_n 0, 1) := by decide +kernel
theorem dX7_letter_1 : decode cX7_letter 1 = .ok (.iload_n 1, 1) := by decide +kernel
theorem dX7_letter_2 : decode cX7_letter 2 = .ok (.invokevirtual 263, 3) := by decide +kernel
theorem dX7_letter_5 : decode cX7_letter 5 = .ok (.ifCond .eq 11, 3) := by decide +kernel
theorem dX7_letter_8 : decode cX7_letter 8 = .ok (.iload_n 2, 1) := by decide +kernel
theorem dX7_letter_9 : decode cX7_letter 9 = .ok (.ifCond .lt 7, 3) := by decide +kernel
theorem dX7_letter_12 : decode cX7_letter 12 = .ok (.iload_n 3, 1) := by decide +kernel
theorem dX7_letter_13 : decode cX7_letter 13 = .ok (.ifCond .ge 5, 3) := by decide +kernel
theorem dX7_letter_16 : decode cX7_letter 16 = .ok (.iconst (-1), 1) := by decide +kernel
theorem dX7_letter_17 : decode cX7_letter 17 = .ok (.ireturn, 1) := by decide +kernel
theorem dX7_letter_18 : decode cX7_letter 18 = .ok (.iload_n 2, 1) := by decide +kernel
theorem dX7_letter_19 : decode cX7_letter 19 = .ok (.aload_n 0, 1) := by decide +kernel
theorem dX7_letter_20 : decode cX7_letter 20 = .ok (.iload_n 1, 1) := by decide +kernel
theorem dX7_letter_21 : decode cX7_letter 21 = .ok (.invokevirtual 171, 3) := by decide +kernel
theorem dX7_letter_24 : decode cX7_letter 24 = .ok (.if_icmp .lt 6, 3) := by decide +kernel
theorem dX7_letter_27 : decode cX7_letter 27 = .ok (.bipush (-4), 2) := by decide +kernel
theorem dX7_letter_29 : decode cX7_letter 29 = .ok (.ireturn, 1) := by decide +kernel
theorem dX7_letter_30 : decode cX7_letter 30 = .ok (.bipush 25, 2) := by decide +kernel
theorem dX7_letter_32 : decode cX7_letter 32 = .ok (.bipush 7, 2) := by decide +kernel
theorem dX7_letter_34 : decode cX7_letter 34 = .ok (.aload_n 0, 1) := by decide +kernel
theorem dX7_letter_35 : decode cX7_letter 35 = .ok (.iload_n 1, 1) := by decide +kernel
theorem dX7_letter_36 : decode cX7_letter 36 = .ok (.invokevirtual 201, 3) := by decide +kernel
theorem dX7_letter_39 : decode cX7_letter 39 = .ok (.iload_n 2, 1) := by decide +kernel
theorem dX7_letter_40 : decode cX7_letter 40 = .ok (.iadd, 1) := by decide +kernel
theorem dX7_letter_41 : decode cX7_letter 41 = .ok (.imul, 1) := by decide +kernel
theorem dX7_letter_42 : decode cX7_letter 42 = .ok (.iadd, 1) := by decide +kernel
theorem dX7_letter_43 : decode cX7_letter 43 = .ok (.istore 4, 2) := by decide +kernel
theorem dX7_letter_45 : decode cX7_letter 45 = .ok (.iload_n 3, 1) := by decide +kernel
theorem dX7_letter_46 : decode cX7_letter 46 = .ok (.aload_n 0, 1) := by decide +kernel
theorem dX7_letter_47 : decode cX7_letter 47 = .ok (.getfield 7, 3) := by decide +kernel
theorem dX7_letter_50 : decode cX7_letter 50 = .ok (.iload 4, 2) := by decide +kernel
theorem dX7_letter_52 : decode cX7_letter 52 = .ok (.iaload, 1) := by decide +kernel
theorem dX7_letter_53 : decode cX7_letter 53 = .ok (.if_icmp .ge 17, 3) := by decide +kernel
theorem dX7_letter_56 : decode cX7_letter 56 = .ok (.aload_n 0, 1) := by decide +kernel
theorem dX7_letter_57 : decode cX7_letter 57 = .ok (.getfield 7, 3) := by decide +kernel
theorem dX7_letter_60 : decode cX7_letter 60 = .ok (.iload 4, 2) := by decide +kernel
theorem dX7_letter_62 : decode cX7_letter 62 = .ok (.iconst 1, 1) := by decide +kernel
theorem dX7_letter_63 : decode cX7_letter 63 = .ok (.iadd, 1) := by decide +kernel
theorem dX7_letter_64 : decode cX7_letter 64 = .ok (.iload_n 3, 1) := by decide +kernel
theorem dX7_letter_65 : decode cX7_letter 65 = .ok (.iadd, 1) := by decide +kernel
theorem dX7_letter_66 : decode cX7_letter 66 = .ok (.iaload, 1) := by decide +kernel
theorem dX7_letter_67 : decode cX7_letter 67 = .ok (.goto 5, 3) := by decide +kernel
theorem dX7_letter_70 : decode cX7_letter 70 = .ok (.bipush (-4), 2) := by decide +kernel
theorem dX7_letter_72 : decode cX7_letter 72 = .ok (.ireturn, 1) := by decide +kernel
theorem dX7_drawn_0 : decode cX7_drawn 0 = .ok (.aload_n 0, 1) := by decide +kernel
theorem dX7_drawn_1 : decode cX7_drawn 1 = .ok (.iload_n 1, 1) := by decide +kernel
theorem dX7_drawn_2 : decode cX7_drawn 2 = .ok (.invokevirtual 263, 3) := by decide +kernel
theorem dX7_drawn_5 : decode cX7_drawn 5 = .ok (.ifCond .eq 19, 3) := by decide +kernel
theorem dX7_drawn_8 : decode cX7_drawn 8 = .ok (.iload_n 2, 1) := by decide +kernel
theorem dX7_drawn_9 : decode cX7_drawn 9 = .ok (.ifCond .lt 15, 3) := by decide +kernel
theorem dX7_drawn_12 : decode cX7_drawn 12 = .ok (.iload_n 3, 1) := by decide +kernel
theorem dX7_drawn_13 : decode cX7_drawn 13 = .ok (.i2l, 1) := by decide +kernel
theorem dX7_drawn_14 : decode cX7_drawn 14 = .ok (.lconst 0, 1) := by decide +kernel
theorem dX7_drawn_15 : decode cX7_drawn 15 = .ok (.ldc2_w 282, 3) := by decide +kernel
theorem dX7_drawn_18 : decode cX7_drawn 18 = .ok (.invokestatic 73, 3) := by decide +kernel
theorem dX7_drawn_21 : decode cX7_drawn 21 = .ok (.ifCond .ne 5, 3) := by decide +kernel
theorem dX7_drawn_24 : decode cX7_drawn 24 = .ok (.iconst (-1), 1) := by decide +kernel
theorem dX7_drawn_25 : decode cX7_drawn 25 = .ok (.ireturn, 1) := by decide +kernel
theorem dX7_drawn_26 : decode cX7_drawn 26 = .ok (.aload_n 0, 1) := by decide +kernel
theorem dX7_drawn_27 : decode cX7_drawn 27 = .ok (.iload_n 1, 1) := by decide +kernel
theorem dX7_drawn_28 : decode cX7_drawn 28 = .ok (.invokevirtual 174, 3) := by decide +kernel
theorem dX7_drawn_31 : decode cX7_drawn 31 = .ok (.bipush (-4), 2) := by decide +kernel
theorem dX7_drawn_33 : decode cX7_drawn 33 = .ok (.if_icmp .eq 13, 3) := by decide +kernel
theorem dX7_drawn_36 : decode cX7_drawn 36 = .ok (.iload_n 2, 1) := by decide +kernel
theorem dX7_drawn_37 : decode cX7_drawn 37 = .ok (.aload_n 0, 1) := by decide +kernel
theorem dX7_drawn_38 : decode cX7_drawn 38 = .ok (.iload_n 1, 1) := by decide +kernel
theorem dX7_drawn_39 : decode cX7_drawn 39 = .ok (.iconst 2, 1) := by decide +kernel
theorem dX7_drawn_40 : decode cX7_drawn 40 = .ok (.invokevirtual 180, 3) := by decide +kernel
theorem dX7_drawn_43 : decode cX7_drawn 43 = .ok (.if_icmp .lt 6, 3) := by decide +kernel
theorem dX7_drawn_46 : decode cX7_drawn 46 = .ok (.bipush (-4), 2) := by decide +kernel
theorem dX7_drawn_48 : decode cX7_drawn 48 = .ok (.ireturn, 1) := by decide +kernel
theorem dX7_drawn_49 : decode cX7_drawn 49 = .ok (.iload_n 3, 1) := by decide +kernel
theorem dX7_drawn_50 : decode cX7_drawn 50 = .ok (.iconst 2, 1) := by decide +kernel
theorem dX7_drawn_51 : decode cX7_drawn 51 = .ok (.if_icmp .ne 12, 3) := by decide +kernel
theorem dX7_drawn_54 : decode cX7_drawn 54 = .ok (.aload_n 0, 1) := by decide +kernel
theorem dX7_drawn_55 : decode cX7_drawn 55 = .ok (.iload_n 1, 1) := by decide +kernel
theorem dX7_drawn_56 : decode cX7_drawn 56 = .ok (.iload_n 2, 1) := by decide +kernel
theorem dX7_drawn_57 : decode cX7_drawn 57 = .ok (.invokevirtual 189, 3) := by decide +kernel
theorem dX7_drawn_60 : decode cX7_drawn 60 = .ok (.goto 11, 3) := by decide +kernel
theorem dX7_drawn_63 : decode cX7_drawn 63 = .ok (.aload_n 0, 1) := by decide +kernel
theorem dX7_drawn_64 : decode cX7_drawn 64 = .ok (.iload_n 1, 1) := by decide +kernel
theorem dX7_drawn_65 : decode cX7_drawn 65 = .ok (.iload_n 2, 1) := by decide +kernel
theorem dX7_drawn_66 : decode cX7_drawn 66 = .ok (.iload_n 3, 1) := by decide +kernel
theorem dX7_drawn_67 : decode cX7_drawn 67 = .ok (.iadd, 1) := by decide +kernel
theorem dX7_drawn_68 : decode cX7_drawn 68 = .ok (.invokevirtual 186, 3) := by decide +kernel
theorem dX7_drawn_71 : decode cX7_drawn 71 = .ok (.ireturn, 1) := by decide +kernel
theorem dX7_reach_0 : decode cX7_reach 0 = .ok (.aload_n 0, 1) := by decide +kernel
theorem dX7_reach_1 : decode cX7_reach 1 = .ok (.iload_n 1, 1) := by decide +kernel
theorem dX7_reach_2 : decode cX7_reach 2 = .ok (.invokevirtual 263, 3) := by decide +kernel
theorem dX7_reach_5 : decode cX7_reach 5 = .ok (.ifCond .eq 7, 3) := by decide +kernel
theorem dX7_reach_8 : decode cX7_reach 8 = .ok (.iload_n 2, 1) := by decide +kernel
theorem dX7_reach_9 : decode cX7_reach 9 = .ok (.ifCond .ge 5, 3) := by decide +kernel
theorem dX7_reach_12 : decode cX7_reach 12 = .ok (.iconst (-1), 1) := by decide +kernel
theorem dX7_reach_13 : decode cX7_reach 13 = .ok (.ireturn, 1) := by decide +kernel
theorem dX7_reach_14 : decode cX7_reach 14 = .ok (.aload_n 0, 1) := by decide +kernel
theorem dX7_reach_15 : decode cX7_reach 15 = .ok (.iload_n 1, 1) := by decide +kernel
theorem dX7_reach_16 : decode cX7_reach 16 = .ok (.invokevirtual 174, 3) := by decide +kernel
theorem dX7_reach_19 : decode cX7_reach 19 = .ok (.bipush (-4), 2) := by decide +kernel
theorem dX7_reach_21 : decode cX7_reach 21 = .ok (.if_icmp .ne 8, 3) := by decide +kernel
theorem dX7_reach_24 : decode cX7_reach 24 = .ok (.bipush (-4), 2) := by decide +kernel
theorem dX7_reach_26 : decode cX7_reach 26 = .ok (.goto 9, 3) := by decide +kernel
theorem dX7_reach_29 : decode cX7_reach 29 = .ok (.aload_n 0, 1) := by decide +kernel
theorem dX7_reach_30 : decode cX7_reach 30 = .ok (.iload_n 1, 1) := by decide +kernel
theorem dX7_reach_31 : decode cX7_reach 31 = .ok (.iload_n 2, 1) := by decide +kernel
theorem dX7_reach_32 : decode cX7_reach 32 = .ok (.invokevirtual 192, 3) := by decide +kernel
theorem dX7_reach_35 : decode cX7_reach 35 = .ok (.ireturn, 1) := by decide +kernel
theorem dX7_line_0 : decode cX7_line 0 = .ok (.aload_n 0, 1) := by decide +kernel
theorem dX7_line_1 : decode cX7_line 1 = .ok (.invokevirtual 252, 3) := by decide +kernel
theorem dX7_line_4 : decode cX7_line 4 = .ok (.iload_n 1, 1) := by decide +kernel
theorem dX7_line_5 : decode cX7_line 5 = .ok (.i2l, 1) := by decide +kernel
theorem dX7_line_6 : decode cX7_line 6 = .ok (.lconst 0, 1) := by decide +kernel
theorem dX7_line_7 : decode cX7_line 7 = .ok (.aload_n 0, 1) := by decide +kernel
theorem dX7_line_8 : decode cX7_line 8 = .ok (.getfield 214, 3) := by decide +kernel
theorem dX7_line_11 : decode cX7_line 11 = .ok (.iconst 1, 1) := by decide +kernel
theorem dX7_line_12 : decode cX7_line 12 = .ok (.isub, 1) := by decide +kernel
theorem dX7_line_13 : decode cX7_line 13 = .ok (.i2l, 1) := by decide +kernel
theorem dX7_line_14 : decode cX7_line 14 = .ok (.invokestatic 73, 3) := by decide +kernel
theorem dX7_line_17 : decode cX7_line 17 = .ok (.ifCond .eq 15, 3) := by decide +kernel
theorem dX7_line_20 : decode cX7_line 20 = .ok (.iload_n 2, 1) := by decide +kernel
theorem dX7_line_21 : decode cX7_line 21 = .ok (.i2l, 1) := by decide +kernel
theorem dX7_line_22 : decode cX7_line 22 = .ok (.lconst 0, 1) := by decide +kernel
theorem dX7_line_23 : decode cX7_line 23 = .ok (.ldc2_w 284, 3) := by decide +kernel
theorem dX7_line_26 : decode cX7_line 26 = .ok (.invokestatic 73, 3) := by decide +kernel
theorem dX7_line_29 : decode cX7_line 29 = .ok (.ifCond .ne 5, 3) := by decide +kernel
theorem dX7_line_32 : decode cX7_line 32 = .ok (.iconst (-1), 1) := by decide +kernel
theorem dX7_line_33 : decode cX7_line 33 = .ok (.ireturn, 1) := by decide +kernel
theorem dX7_line_34 : decode cX7_line 34 = .ok (.aload_n 0, 1) := by decide +kernel
theorem dX7_line_35 : decode cX7_line 35 = .ok (.getfield 47, 3) := by decide +kernel
theorem dX7_line_38 : decode cX7_line 38 = .ok (.iload_n 1, 1) := by decide +kernel
theorem dX7_line_39 : decode cX7_line 39 = .ok (.iaload, 1) := by decide +kernel
theorem dX7_line_40 : decode cX7_line 40 = .ok (.bipush (-4), 2) := by decide +kernel
theorem dX7_line_42 : decode cX7_line 42 = .ok (.if_icmp .ne 6, 3) := by decide +kernel
theorem dX7_line_45 : decode cX7_line 45 = .ok (.bipush (-4), 2) := by decide +kernel
theorem dX7_line_47 : decode cX7_line 47 = .ok (.ireturn, 1) := by decide +kernel
theorem dX7_line_48 : decode cX7_line 48 = .ok (.iload_n 2, 1) := by decide +kernel
theorem dX7_line_49 : decode cX7_line 49 = .ok (.tableswitch 125 0 6 #[43, 50, 68, 75, 82, 94, 111], 43) := by decide +kernel
theorem dX7_line_92 : decode cX7_line 92 = .ok (.aload_n 0, 1) := by decide +kernel
theorem dX7_line_93 : decode cX7_line 93 = .ok (.getfield 47, 3) := by decide +kernel
theorem dX7_line_96 : decode cX7_line 96 = .ok (.iload_n 1, 1) := by decide +kernel
theorem dX7_line_97 : decode cX7_line 97 = .ok (.iaload, 1) := by decide +kernel
theorem dX7_line_98 : decode cX7_line 98 = .ok (.ireturn, 1) := by decide +kernel
theorem dX7_line_99 : decode cX7_line 99 = .ok (.aload_n 0, 1) := by decide +kernel
theorem dX7_line_100 : decode cX7_line 100 = .ok (.getfield 50, 3) := by decide +kernel
theorem dX7_line_103 : decode cX7_line 103 = .ok (.iload_n 1, 1) := by decide +kernel
theorem dX7_line_104 : decode cX7_line 104 = .ok (.iaload, 1) := by decide +kernel
theorem dX7_line_105 : decode cX7_line 105 = .ok (.aload_n 0, 1) := by decide +kernel
theorem dX7_line_106 : decode cX7_line 106 = .ok (.aload_n 0, 1) := by decide +kernel
theorem dX7_line_107 : decode cX7_line 107 = .ok (.getfield 47, 3) := by decide +kernel
theorem dX7_line_110 : decode cX7_line 110 = .ok (.iload_n 1, 1) := by decide +kernel
theorem dX7_line_111 : decode cX7_line 111 = .ok (.iaload, 1) := by decide +kernel
theorem dX7_line_112 : decode cX7_line 112 = .ok (.invokevirtual 201, 3) := by decide +kernel
theorem dX7_line_115 : decode cX7_line 115 = .ok (.isub, 1) := by decide +kernel
theorem dX7_line_116 : decode cX7_line 116 = .ok (.ireturn, 1) := by decide +kernel
theorem dX7_line_117 : decode cX7_line 117 = .ok (.aload_n 0, 1) := by decide +kernel
theorem dX7_line_118 : decode cX7_line 118 = .ok (.getfield 53, 3) := by decide +kernel
theorem dX7_line_121 : decode cX7_line 121 = .ok (.iload_n 1, 1) := by decide +kernel
theorem dX7_line_122 : decode cX7_line 122 = .ok (.iaload, 1) := by decide +kernel
theorem dX7_line_123 : decode cX7_line 123 = .ok (.ireturn, 1) := by decide +kernel
theorem dX7_line_124 : decode cX7_line 124 = .ok (.aload_n 0, 1) := by decide +kernel
theorem dX7_line_125 : decode cX7_line 125 = .ok (.getfield 56, 3) := by decide +kernel
theorem dX7_line_128 : decode cX7_line 128 = .ok (.iload_n 1, 1) := by decide +kernel
theorem dX7_line_129 : decode cX7_line 129 = .ok (.iaload, 1) := by decide +kernel
theorem dX7_line_130 : decode cX7_line 130 = .ok (.ireturn, 1) := by decide +kernel
theorem dX7_line_131 : decode cX7_line 131 = .ok (.aload_n 0, 1) := by decide +kernel
theorem dX7_line_132 : decode cX7_line 132 = .ok (.aload_n 0, 1) := by decide +kernel
theorem dX7_line_133 : decode cX7_line 133 = .ok (.getfield 47, 3) := by decide +kernel
theorem dX7_line_136 : decode cX7_line 136 = .ok (.iload_n 1, 1) := by decide +kernel
theorem dX7_line_137 : decode cX7_line 137 = .ok (.iaload, 1) := by decide +kernel
theorem dX7_line_138 : decode cX7_line 138 = .ok (.iload_n 1, 1) := by decide +kernel
theorem dX7_line_139 : decode cX7_line 139 = .ok (.invokevirtual 204, 3) := by decide +kernel
theorem dX7_line_142 : decode cX7_line 142 = .ok (.ireturn, 1) := by decide +kernel
theorem dX7_line_143 : decode cX7_line 143 = .ok (.aload_n 0, 1) := by decide +kernel
theorem dX7_line_144 : decode cX7_line 144 = .ok (.aload_n 0, 1) := by decide +kernel
theorem dX7_line_145 : decode cX7_line 145 = .ok (.getfield 50, 3) := by decide +kernel
theorem dX7_line_148 : decode cX7_line 148 = .ok (.iload_n 1, 1) := by decide +kernel
theorem dX7_line_149 : decode cX7_line 149 = .ok (.iaload, 1) := by decide +kernel
theorem dX7_line_150 : decode cX7_line 150 = .ok (.aload_n 0, 1) := by decide +kernel
theorem dX7_line_151 : decode cX7_line 151 = .ok (.getfield 53, 3) := by decide +kernel
theorem dX7_line_154 : decode cX7_line 154 = .ok (.iload_n 1, 1) := by decide +kernel
theorem dX7_line_155 : decode cX7_line 155 = .ok (.iaload, 1) := by decide +kernel
theorem dX7_line_156 : decode cX7_line 156 = .ok (.invokevirtual 207, 3) := by decide +kernel
theorem dX7_line_159 : decode cX7_line 159 = .ok (.ireturn, 1) := by decide +kernel
theorem dX7_line_160 : decode cX7_line 160 = .ok (.aload_n 0, 1) := by decide +kernel
theorem dX7_line_161 : decode cX7_line 161 = .ok (.iload_n 1, 1) := by decide +kernel
theorem dX7_line_162 : decode cX7_line 162 = .ok (.invokevirtual 230, 3) := by decide +kernel
theorem dX7_line_165 : decode cX7_line 165 = .ok (.ifCond .eq 7, 3) := by decide +kernel
theorem dX7_line_168 : decode cX7_line 168 = .ok (.iconst 1, 1) := by decide +kernel
theorem dX7_line_169 : decode cX7_line 169 = .ok (.goto 4, 3) := by decide +kernel
theorem dX7_line_172 : decode cX7_line 172 = .ok (.iconst 0, 1) := by decide +kernel
theorem dX7_line_173 : decode cX7_line 173 = .ok (.ireturn, 1) := by decide +kernel
theorem dX7_line_174 : decode cX7_line 174 = .ok (.aload_n 0, 1) := by decide +kernel
theorem dX7_line_175 : decode cX7_line 175 = .ok (.iload_n 1, 1) := by decide +kernel
theorem dX7_line_176 : decode cX7_line 176 = .ok (.invokevirtual 227, 3) := by decide +kernel
theorem dX7_line_179 : decode cX7_line 179 = .ok (.ifCond .eq 7, 3) := by decide +kernel
theorem dX7_line_182 : decode cX7_line 182 = .ok (.iconst 1, 1) := by decide +kernel
theorem dX7_line_183 : decode cX7_line 183 = .ok (.goto 4, 3) := by decide +kernel
theorem dX7_line_186 : decode cX7_line 186 = .ok (.iconst 0, 1) := by decide +kernel
theorem dX7_line_187 : decode cX7_line 187 = .ok (.ireturn, 1) := by decide +kernel
theorem dX7_sign_0 : decode cX7_sign 0 = .ok (.aload_n 0, 1) := by decide +kernel
theorem dX7_sign_1 : decode cX7_sign 1 = .ok (.invokevirtual 252, 3) := by decide +kernel
theorem dX7_sign_4 : decode cX7_sign 4 = .ok (.iload_n 1, 1) := by decide +kernel
theorem dX7_sign_5 : decode cX7_sign 5 = .ok (.i2l, 1) := by decide +kernel
theorem dX7_sign_6 : decode cX7_sign 6 = .ok (.lconst 0, 1) := by decide +kernel
theorem dX7_sign_7 : decode cX7_sign 7 = .ok (.aload_n 0, 1) := by decide +kernel
theorem dX7_sign_8 : decode cX7_sign 8 = .ok (.getfield 214, 3) := by decide +kernel
theorem dX7_sign_11 : decode cX7_sign 11 = .ok (.iconst 1, 1) := by decide +kernel
theorem dX7_sign_12 : decode cX7_sign 12 = .ok (.isub, 1) := by decide +kernel
theorem dX7_sign_13 : decode cX7_sign 13 = .ok (.i2l, 1) := by decide +kernel
theorem dX7_sign_14 : decode cX7_sign 14 = .ok (.invokestatic 73, 3) := by decide +kernel
theorem dX7_sign_17 : decode cX7_sign 17 = .ok (.ifCond .eq 7, 3) := by decide +kernel
theorem dX7_sign_20 : decode cX7_sign 20 = .ok (.iload_n 2, 1) := by decide +kernel
theorem dX7_sign_21 : decode cX7_sign 21 = .ok (.ifCond .ge 5, 3) := by decide +kernel
theorem dX7_sign_24 : decode cX7_sign 24 = .ok (.iconst (-1), 1) := by decide +kernel
theorem dX7_sign_25 : decode cX7_sign 25 = .ok (.ireturn, 1) := by decide +kernel
theorem dX7_sign_26 : decode cX7_sign 26 = .ok (.iload_n 2, 1) := by decide +kernel
theorem dX7_sign_27 : decode cX7_sign 27 = .ok (.istore_n 3, 1) := by decide +kernel
theorem dX7_sign_28 : decode cX7_sign 28 = .ok (.iconst 0, 1) := by decide +kernel
theorem dX7_sign_29 : decode cX7_sign 29 = .ok (.istore 4, 2) := by decide +kernel
theorem dX7_sign_31 : decode cX7_sign 31 = .ok (.aload_n 0, 1) := by decide +kernel
theorem dX7_sign_32 : decode cX7_sign 32 = .ok (.getfield 47, 3) := by decide +kernel
theorem dX7_sign_35 : decode cX7_sign 35 = .ok (.iload_n 1, 1) := by decide +kernel
theorem dX7_sign_36 : decode cX7_sign 36 = .ok (.iaload, 1) := by decide +kernel
theorem dX7_sign_37 : decode cX7_sign 37 = .ok (.bipush (-4), 2) := by decide +kernel
theorem dX7_sign_39 : decode cX7_sign 39 = .ok (.if_icmp .eq 92, 3) := by decide +kernel
theorem dX7_sign_42 : decode cX7_sign 42 = .ok (.iload 4, 2) := by decide +kernel
theorem dX7_sign_44 : decode cX7_sign 44 = .ok (.aload_n 0, 1) := by decide +kernel
theorem dX7_sign_45 : decode cX7_sign 45 = .ok (.getfield 53, 3) := by decide +kernel
theorem dX7_sign_48 : decode cX7_sign 48 = .ok (.iload_n 1, 1) := by decide +kernel
theorem dX7_sign_49 : decode cX7_sign 49 = .ok (.iaload, 1) := by decide +kernel
theorem dX7_sign_50 : decode cX7_sign 50 = .ok (.if_icmp .ge 81, 3) := by decide +kernel
theorem dX7_sign_53 : decode cX7_sign 53 = .ok (.bipush 25, 2) := by decide +kernel
theorem dX7_sign_55 : decode cX7_sign 55 = .ok (.bipush 7, 2) := by decide +kernel
theorem dX7_sign_57 : decode cX7_sign 57 = .ok (.aload_n 0, 1) := by decide +kernel
theorem dX7_sign_58 : decode cX7_sign 58 = .ok (.getfield 50, 3) := by decide +kernel
theorem dX7_sign_61 : decode cX7_sign 61 = .ok (.iload_n 1, 1) := by decide +kernel
theorem dX7_sign_62 : decode cX7_sign 62 = .ok (.iaload, 1) := by decide +kernel
theorem dX7_sign_63 : decode cX7_sign 63 = .ok (.iload 4, 2) := by decide +kernel
theorem dX7_sign_65 : decode cX7_sign 65 = .ok (.iadd, 1) := by decide +kernel
theorem dX7_sign_66 : decode cX7_sign 66 = .ok (.imul, 1) := by decide +kernel
theorem dX7_sign_67 : decode cX7_sign 67 = .ok (.iadd, 1) := by decide +kernel
theorem dX7_sign_68 : decode cX7_sign 68 = .ok (.istore 5, 2) := by decide +kernel
theorem dX7_sign_70 : decode cX7_sign 70 = .ok (.iload_n 3, 1) := by decide +kernel
theorem dX7_sign_71 : decode cX7_sign 71 = .ok (.aload_n 0, 1) := by decide +kernel
theorem dX7_sign_72 : decode cX7_sign 72 = .ok (.getfield 7, 3) := by decide +kernel
theorem dX7_sign_75 : decode cX7_sign 75 = .ok (.iload 5, 2) := by decide +kernel
theorem dX7_sign_77 : decode cX7_sign 77 = .ok (.iaload, 1) := by decide +kernel
theorem dX7_sign_78 : decode cX7_sign 78 = .ok (.if_icmp .ge 15, 3) := by decide +kernel
theorem dX7_sign_81 : decode cX7_sign 81 = .ok (.aload_n 0, 1) := by decide +kernel
theorem dX7_sign_82 : decode cX7_sign 82 = .ok (.getfield 7, 3) := by decide +kernel
theorem dX7_sign_85 : decode cX7_sign 85 = .ok (.iload 5, 2) := by decide +kernel
theorem dX7_sign_87 : decode cX7_sign 87 = .ok (.iconst 1, 1) := by decide +kernel
theorem dX7_sign_88 : decode cX7_sign 88 = .ok (.iadd, 1) := by decide +kernel
theorem dX7_sign_89 : decode cX7_sign 89 = .ok (.iload_n 3, 1) := by decide +kernel
theorem dX7_sign_90 : decode cX7_sign 90 = .ok (.iadd, 1) := by decide +kernel
theorem dX7_sign_91 : decode cX7_sign 91 = .ok (.iaload, 1) := by decide +kernel
theorem dX7_sign_92 : decode cX7_sign 92 = .ok (.ireturn, 1) := by decide +kernel
theorem dX7_sign_93 : decode cX7_sign 93 = .ok (.iload_n 3, 1) := by decide +kernel
theorem dX7_sign_94 : decode cX7_sign 94 = .ok (.aload_n 0, 1) := by decide +kernel
theorem dX7_sign_95 : decode cX7_sign 95 = .ok (.getfield 7, 3) := by decide +kernel
theorem dX7_sign_98 : decode cX7_sign 98 = .ok (.iload 5, 2) := by decide +kernel
theorem dX7_sign_100 : decode cX7_sign 100 = .ok (.iaload, 1) := by decide +kernel
theorem dX7_sign_101 : decode cX7_sign 101 = .ok (.isub, 1) := by decide +kernel
theorem dX7_sign_102 : decode cX7_sign 102 = .ok (.istore_n 3, 1) := by decide +kernel
theorem dX7_sign_103 : decode cX7_sign 103 = .ok (.iload_n 3, 1) := by decide +kernel
theorem dX7_sign_104 : decode cX7_sign 104 = .ok (.ifCond .ne 18, 3) := by decide +kernel
theorem dX7_sign_107 : decode cX7_sign 107 = .ok (.iload 4, 2) := by decide +kernel
theorem dX7_sign_109 : decode cX7_sign 109 = .ok (.aload_n 0, 1) := by decide +kernel
theorem dX7_sign_110 : decode cX7_sign 110 = .ok (.getfield 53, 3) := by decide +kernel
theorem dX7_sign_113 : decode cX7_sign 113 = .ok (.iload_n 1, 1) := by decide +kernel
theorem dX7_sign_114 : decode cX7_sign 114 = .ok (.iaload, 1) := by decide +kernel
theorem dX7_sign_115 : decode cX7_sign 115 = .ok (.iconst 1, 1) := by decide +kernel
theorem dX7_sign_116 : decode cX7_sign 116 = .ok (.isub, 1) := by decide +kernel
theorem dX7_sign_117 : decode cX7_sign 117 = .ok (.if_icmp .ge 5, 3) := by decide +kernel
theorem dX7_sign_120 : decode cX7_sign 120 = .ok (.iconst 0, 1) := by decide +kernel
theorem dX7_sign_121 : decode cX7_sign 121 = .ok (.ireturn, 1) := by decide +kernel
theorem dX7_sign_122 : decode cX7_sign 122 = .ok (.iinc 3 (-1), 3) := by decide +kernel
theorem dX7_sign_125 : decode cX7_sign 125 = .ok (.iinc 4 1, 3) := by decide +kernel
theorem dX7_sign_128 : decode cX7_sign 128 = .ok (.goto (-97), 3) := by decide +kernel
theorem dX7_sign_131 : decode cX7_sign 131 = .ok (.bipush (-4), 2) := by decide +kernel
theorem dX7_sign_133 : decode cX7_sign 133 = .ok (.ireturn, 1) := by decide +kernel
theorem dX7_triedAt_0 : decode cX7_triedAt 0 = .ok (.aload_n 0, 1) := by decide +kernel
theorem dX7_triedAt_1 : decode cX7_triedAt 1 = .ok (.getfield 7, 3) := by decide +kernel
theorem dX7_triedAt_4 : decode cX7_triedAt 4 = .ok (.iconst 1, 1) := by decide +kernel
theorem dX7_triedAt_5 : decode cX7_triedAt 5 = .ok (.iconst 3, 1) := by decide +kernel
theorem dX7_triedAt_6 : decode cX7_triedAt 6 = .ok (.iload_n 1, 1) := by decide +kernel
theorem dX7_triedAt_7 : decode cX7_triedAt 7 = .ok (.imul, 1) := by decide +kernel
theorem dX7_triedAt_8 : decode cX7_triedAt 8 = .ok (.iadd, 1) := by decide +kernel
theorem dX7_triedAt_9 : decode cX7_triedAt 9 = .ok (.iconst 1, 1) := by decide +kernel
theorem dX7_triedAt_10 : decode cX7_triedAt 10 = .ok (.iadd, 1) := by decide +kernel
theorem dX7_triedAt_11 : decode cX7_triedAt 11 = .ok (.iaload, 1) := by decide +kernel
theorem dX7_triedAt_12 : decode cX7_triedAt 12 = .ok (.istore 4, 2) := by decide +kernel
theorem dX7_triedAt_14 : decode cX7_triedAt 14 = .ok (.aload_n 0, 1) := by decide +kernel
theorem dX7_triedAt_15 : decode cX7_triedAt 15 = .ok (.getfield 7, 3) := by decide +kernel
theorem dX7_triedAt_18 : decode cX7_triedAt 18 = .ok (.iconst 1, 1) := by decide +kernel
theorem dX7_triedAt_19 : decode cX7_triedAt 19 = .ok (.iconst 3, 1) := by decide +kernel
theorem dX7_triedAt_20 : decode cX7_triedAt 20 = .ok (.iload_n 1, 1) := by decide +kernel
theorem dX7_triedAt_21 : decode cX7_triedAt 21 = .ok (.imul, 1) := by decide +kernel
theorem dX7_triedAt_22 : decode cX7_triedAt 22 = .ok (.iadd, 1) := by decide +kernel
theorem dX7_triedAt_23 : decode cX7_triedAt 23 = .ok (.iconst 1, 1) := by decide +kernel
theorem dX7_triedAt_24 : decode cX7_triedAt 24 = .ok (.iadd, 1) := by decide +kernel
theorem dX7_triedAt_25 : decode cX7_triedAt 25 = .ok (.iload_n 2, 1) := by decide +kernel
theorem dX7_triedAt_26 : decode cX7_triedAt 26 = .ok (.iastore, 1) := by decide +kernel
theorem dX7_triedAt_27 : decode cX7_triedAt 27 = .ok (.aload_n 0, 1) := by decide +kernel
theorem dX7_triedAt_28 : decode cX7_triedAt 28 = .ok (.invokevirtual 252, 3) := by decide +kernel
theorem dX7_triedAt_31 : decode cX7_triedAt 31 = .ok (.aload_n 0, 1) := by decide +kernel
theorem dX7_triedAt_32 : decode cX7_triedAt 32 = .ok (.iload_n 3, 1) := by decide +kernel
theorem dX7_triedAt_33 : decode cX7_triedAt 33 = .ok (.invokevirtual 255, 3) := by decide +kernel
theorem dX7_triedAt_36 : decode cX7_triedAt 36 = .ok (.istore 5, 2) := by decide +kernel
theorem dX7_triedAt_38 : decode cX7_triedAt 38 = .ok (.aload_n 0, 1) := by decide +kernel
theorem dX7_triedAt_39 : decode cX7_triedAt 39 = .ok (.getfield 7, 3) := by decide +kernel
theorem dX7_triedAt_42 : decode cX7_triedAt 42 = .ok (.iconst 1, 1) := by decide +kernel
theorem dX7_triedAt_43 : decode cX7_triedAt 43 = .ok (.iconst 3, 1) := by decide +kernel
theorem dX7_triedAt_44 : decode cX7_triedAt 44 = .ok (.iload_n 1, 1) := by decide +kernel
theorem dX7_triedAt_45 : decode cX7_triedAt 45 = .ok (.imul, 1) := by decide +kernel
theorem dX7_triedAt_46 : decode cX7_triedAt 46 = .ok (.iadd, 1) := by decide +kernel
theorem dX7_triedAt_47 : decode cX7_triedAt 47 = .ok (.iconst 1, 1) := by decide +kernel
theorem dX7_triedAt_48 : decode cX7_triedAt 48 = .ok (.iadd, 1) := by decide +kernel
theorem dX7_triedAt_49 : decode cX7_triedAt 49 = .ok (.iload 4, 2) := by decide +kernel
theorem dX7_triedAt_51 : decode cX7_triedAt 51 = .ok (.iastore, 1) := by decide +kernel
theorem dX7_triedAt_52 : decode cX7_triedAt 52 = .ok (.iload 5, 2) := by decide +kernel
theorem dX7_triedAt_54 : decode cX7_triedAt 54 = .ok (.ireturn, 1) := by decide +kernel
theorem dX7_bestOf_0 : decode cX7_bestOf 0 = .ok (.iconst 2, 1) := by decide +kernel
theorem dX7_bestOf_1 : decode cX7_bestOf 1 = .ok (.istore_n 2, 1) := by decide +kernel
theorem dX7_bestOf_2 : decode cX7_bestOf 2 = .ok (.iconst 3, 1) := by decide +kernel
theorem dX7_bestOf_3 : decode cX7_bestOf 3 = .ok (.istore_n 3, 1) := by decide +kernel
theorem dX7_bestOf_4 : decode cX7_bestOf 4 = .ok (.iload_n 3, 1) := by decide +kernel
theorem dX7_bestOf_5 : decode cX7_bestOf 5 = .ok (.iconst 5, 1) := by decide +kernel
theorem dX7_bestOf_6 : decode cX7_bestOf 6 = .ok (.if_icmp .gt 86, 3) := by decide +kernel
theorem dX7_bestOf_9 : decode cX7_bestOf 9 = .ok (.iconst 0, 1) := by decide +kernel
theorem dX7_bestOf_10 : decode cX7_bestOf 10 = .ok (.istore 4, 2) := by decide +kernel
theorem dX7_bestOf_12 : decode cX7_bestOf 12 = .ok (.iconst 0, 1) := by decide +kernel
theorem dX7_bestOf_13 : decode cX7_bestOf 13 = .ok (.istore 5, 2) := by decide +kernel
theorem dX7_bestOf_15 : decode cX7_bestOf 15 = .ok (.iload 5, 2) := by decide +kernel
theorem dX7_bestOf_17 : decode cX7_bestOf 17 = .ok (.iconst 3, 1) := by decide +kernel
theorem dX7_bestOf_18 : decode cX7_bestOf 18 = .ok (.if_icmp .ge 57, 3) := by decide +kernel
theorem dX7_bestOf_21 : decode cX7_bestOf 21 = .ok (.iload 4, 2) := by decide +kernel
theorem dX7_bestOf_23 : decode cX7_bestOf 23 = .ok (.ifCond .ne 52, 3) := by decide +kernel
theorem dX7_bestOf_26 : decode cX7_bestOf 26 = .ok (.iload 5, 2) := by decide +kernel
theorem dX7_bestOf_28 : decode cX7_bestOf 28 = .ok (.ifCond .ne 7, 3) := by decide +kernel
theorem dX7_bestOf_31 : decode cX7_bestOf 31 = .ok (.iconst 4, 1) := by decide +kernel
theorem dX7_bestOf_32 : decode cX7_bestOf 32 = .ok (.goto 16, 3) := by decide +kernel
theorem dX7_bestOf_35 : decode cX7_bestOf 35 = .ok (.iload 5, 2) := by decide +kernel
theorem dX7_bestOf_37 : decode cX7_bestOf 37 = .ok (.iconst 1, 1) := by decide +kernel
theorem dX7_bestOf_38 : decode cX7_bestOf 38 = .ok (.if_icmp .ne 8, 3) := by decide +kernel
theorem dX7_bestOf_41 : decode cX7_bestOf 41 = .ok (.bipush 6, 2) := by decide +kernel
theorem dX7_bestOf_43 : decode cX7_bestOf 43 = .ok (.goto 5, 3) := by decide +kernel
theorem dX7_bestOf_46 : decode cX7_bestOf 46 = .ok (.bipush 7, 2) := by decide +kernel
theorem dX7_bestOf_48 : decode cX7_bestOf 48 = .ok (.istore 6, 2) := by decide +kernel
theorem dX7_bestOf_50 : decode cX7_bestOf 50 = .ok (.aload_n 0, 1) := by decide +kernel
theorem dX7_bestOf_51 : decode cX7_bestOf 51 = .ok (.iload_n 1, 1) := by decide +kernel
theorem dX7_bestOf_52 : decode cX7_bestOf 52 = .ok (.iload_n 3, 1) := by decide +kernel
theorem dX7_bestOf_53 : decode cX7_bestOf 53 = .ok (.iload 6, 2) := by decide +kernel
theorem dX7_bestOf_55 : decode cX7_bestOf 55 = .ok (.invokevirtual 286, 3) := by decide +kernel
theorem dX7_bestOf_58 : decode cX7_bestOf 58 = .ok (.aload_n 0, 1) := by decide +kernel
theorem dX7_bestOf_59 : decode cX7_bestOf 59 = .ok (.iload_n 1, 1) := by decide +kernel
theorem dX7_bestOf_60 : decode cX7_bestOf 60 = .ok (.iload_n 2, 1) := by decide +kernel
theorem dX7_bestOf_61 : decode cX7_bestOf 61 = .ok (.iload 6, 2) := by decide +kernel
theorem dX7_bestOf_63 : decode cX7_bestOf 63 = .ok (.invokevirtual 286, 3) := by decide +kernel
theorem dX7_bestOf_66 : decode cX7_bestOf 66 = .ok (.isub, 1) := by decide +kernel
theorem dX7_bestOf_67 : decode cX7_bestOf 67 = .ok (.istore 4, 2) := by decide +kernel
theorem dX7_bestOf_69 : decode cX7_bestOf 69 = .ok (.iinc 5 1, 3) := by decide +kernel
theorem dX7_bestOf_72 : decode cX7_bestOf 72 = .ok (.goto (-57), 3) := by decide +kernel
theorem dX7_bestOf_75 : decode cX7_bestOf 75 = .ok (.iload 4, 2) := by decide +kernel
theorem dX7_bestOf_77 : decode cX7_bestOf 77 = .ok (.ifCond .gt 7, 3) := by decide +kernel
theorem dX7_bestOf_80 : decode cX7_bestOf 80 = .ok (.iload_n 3, 1) := by decide +kernel
theorem dX7_bestOf_81 : decode cX7_bestOf 81 = .ok (.goto 4, 3) := by decide +kernel
theorem dX7_bestOf_84 : decode cX7_bestOf 84 = .ok (.iload_n 2, 1) := by decide +kernel
theorem dX7_bestOf_85 : decode cX7_bestOf 85 = .ok (.istore_n 2, 1) := by decide +kernel
theorem dX7_bestOf_86 : decode cX7_bestOf 86 = .ok (.iinc 3 1, 3) := by decide +kernel
theorem dX7_bestOf_89 : decode cX7_bestOf 89 = .ok (.goto (-85), 3) := by decide +kernel
theorem dX7_bestOf_92 : decode cX7_bestOf 92 = .ok (.iload_n 2, 1) := by decide +kernel
theorem dX7_bestOf_93 : decode cX7_bestOf 93 = .ok (.ireturn, 1) := by decide +kernel
theorem dX7_best_0 : decode cX7_best 0 = .ok (.aload_n 0, 1) := by decide +kernel
theorem dX7_best_1 : decode cX7_best 1 = .ok (.iload_n 1, 1) := by decide +kernel
theorem dX7_best_2 : decode cX7_best 2 = .ok (.invokevirtual 263, 3) := by decide +kernel
theorem dX7_best_5 : decode cX7_best 5 = .ok (.ifCond .ne 5, 3) := by decide +kernel
theorem dX7_best_8 : decode cX7_best 8 = .ok (.iconst (-1), 1) := by decide +kernel
theorem dX7_best_9 : decode cX7_best 9 = .ok (.ireturn, 1) := by decide +kernel
theorem dX7_best_10 : decode cX7_best 10 = .ok (.aload_n 0, 1) := by decide +kernel
theorem dX7_best_11 : decode cX7_best 11 = .ok (.iload_n 1, 1) := by decide +kernel
theorem dX7_best_12 : decode cX7_best 12 = .ok (.invokevirtual 174, 3) := by decide +kernel
theorem dX7_best_15 : decode cX7_best 15 = .ok (.bipush (-4), 2) := by decide +kernel
theorem dX7_best_17 : decode cX7_best 17 = .ok (.if_icmp .ne 8, 3) := by decide +kernel
theorem dX7_best_20 : decode cX7_best 20 = .ok (.bipush (-4), 2) := by decide +kernel
theorem dX7_best_22 : decode cX7_best 22 = .ok (.goto 8, 3) := by decide +kernel
theorem dX7_best_25 : decode cX7_best 25 = .ok (.aload_n 0, 1) := by decide +kernel
theorem dX7_best_26 : decode cX7_best 26 = .ok (.iload_n 1, 1) := by decide +kernel
theorem dX7_best_27 : decode cX7_best 27 = .ok (.invokevirtual 290, 3) := by decide +kernel
theorem dX7_best_30 : decode cX7_best 30 = .ok (.ireturn, 1) := by decide +kernel
theorem dX7_tried_0 : decode cX7_tried 0 = .ok (.aload_n 0, 1) := by decide +kernel
theorem dX7_tried_1 : decode cX7_tried 1 = .ok (.iload_n 1, 1) := by decide +kernel
theorem dX7_tried_2 : decode cX7_tried 2 = .ok (.invokevirtual 263, 3) := by decide +kernel
theorem dX7_tried_5 : decode cX7_tried 5 = .ok (.ifCond .eq 17, 3) := by decide +kernel
theorem dX7_tried_8 : decode cX7_tried 8 = .ok (.iload_n 2, 1) := by decide +kernel
theorem dX7_tried_9 : decode cX7_tried 9 = .ok (.i2l, 1) := by decide +kernel
theorem dX7_tried_10 : decode cX7_tried 10 = .ok (.ldc2_w 282, 3) := by decide +kernel
theorem dX7_tried_13 : decode cX7_tried 13 = .ok (.ldc2_w 293, 3) := by decide +kernel
theorem dX7_tried_16 : decode cX7_tried 16 = .ok (.invokestatic 73, 3) := by decide +kernel
theorem dX7_tried_19 : decode cX7_tried 19 = .ok (.ifCond .ne 5, 3) := by decide +kernel
theorem dX7_tried_22 : decode cX7_tried 22 = .ok (.iconst (-1), 1) := by decide +kernel
theorem dX7_tried_23 : decode cX7_tried 23 = .ok (.ireturn, 1) := by decide +kernel
theorem dX7_tried_24 : decode cX7_tried 24 = .ok (.aload_n 0, 1) := by decide +kernel
theorem dX7_tried_25 : decode cX7_tried 25 = .ok (.iload_n 1, 1) := by decide +kernel
theorem dX7_tried_26 : decode cX7_tried 26 = .ok (.invokevirtual 174, 3) := by decide +kernel
theorem dX7_tried_29 : decode cX7_tried 29 = .ok (.bipush (-4), 2) := by decide +kernel
theorem dX7_tried_31 : decode cX7_tried 31 = .ok (.if_icmp .ne 8, 3) := by decide +kernel
theorem dX7_tried_34 : decode cX7_tried 34 = .ok (.bipush (-4), 2) := by decide +kernel
theorem dX7_tried_36 : decode cX7_tried 36 = .ok (.goto 10, 3) := by decide +kernel
theorem dX7_tried_39 : decode cX7_tried 39 = .ok (.aload_n 0, 1) := by decide +kernel
theorem dX7_tried_40 : decode cX7_tried 40 = .ok (.iload_n 1, 1) := by decide +kernel
theorem dX7_tried_41 : decode cX7_tried 41 = .ok (.iload_n 2, 1) := by decide +kernel
theorem dX7_tried_42 : decode cX7_tried 42 = .ok (.iconst 4, 1) := by decide +kernel
theorem dX7_tried_43 : decode cX7_tried 43 = .ok (.invokevirtual 286, 3) := by decide +kernel
theorem dX7_tried_46 : decode cX7_tried 46 = .ok (.ireturn, 1) := by decide +kernel
theorem dX7_set_0 : decode cX7_set 0 = .ok (.iload_n 1, 1) := by decide +kernel
theorem dX7_set_1 : decode cX7_set 1 = .ok (.i2l, 1) := by decide +kernel
theorem dX7_set_2 : decode cX7_set 2 = .ok (.ldc2_w 245, 3) := by decide +kernel
theorem dX7_set_5 : decode cX7_set 5 = .ok (.ldc2_w 247, 3) := by decide +kernel
theorem dX7_set_8 : decode cX7_set 8 = .ok (.invokestatic 73, 3) := by decide +kernel
theorem dX7_set_11 : decode cX7_set 11 = .ok (.ifCond .eq 27, 3) := by decide +kernel
theorem dX7_set_14 : decode cX7_set 14 = .ok (.iload_n 2, 1) := by decide +kernel
theorem dX7_set_15 : decode cX7_set 15 = .ok (.i2l, 1) := by decide +kernel
theorem dX7_set_16 : decode cX7_set 16 = .ok (.iload_n 1, 1) := by decide +kernel
theorem dX7_set_17 : decode cX7_set 17 = .ok (.bipush 8, 2) := by decide +kernel
theorem dX7_set_19 : decode cX7_set 19 = .ok (.isub, 1) := by decide +kernel
theorem dX7_set_20 : decode cX7_set 20 = .ok (.invokestatic 122, 3) := by decide +kernel
theorem dX7_set_23 : decode cX7_set 23 = .ok (.i2l, 1) := by decide +kernel
theorem dX7_set_24 : decode cX7_set 24 = .ok (.iload_n 1, 1) := by decide +kernel
theorem dX7_set_25 : decode cX7_set 25 = .ok (.bipush 8, 2) := by decide +kernel
theorem dX7_set_27 : decode cX7_set 27 = .ok (.isub, 1) := by decide +kernel
theorem dX7_set_28 : decode cX7_set 28 = .ok (.invokestatic 125, 3) := by decide +kernel
theorem dX7_set_31 : decode cX7_set 31 = .ok (.i2l, 1) := by decide +kernel
theorem dX7_set_32 : decode cX7_set 32 = .ok (.invokestatic 73, 3) := by decide +kernel
theorem dX7_set_35 : decode cX7_set 35 = .ok (.ifCond .ne 5, 3) := by decide +kernel
theorem dX7_set_38 : decode cX7_set 38 = .ok (.iconst (-1), 1) := by decide +kernel
theorem dX7_set_39 : decode cX7_set 39 = .ok (.ireturn, 1) := by decide +kernel
theorem dX7_set_40 : decode cX7_set 40 = .ok (.aload_n 0, 1) := by decide +kernel
theorem dX7_set_41 : decode cX7_set 41 = .ok (.getfield 7, 3) := by decide +kernel
theorem dX7_set_44 : decode cX7_set 44 = .ok (.sipush 585, 3) := by decide +kernel
theorem dX7_set_47 : decode cX7_set 47 = .ok (.iload_n 1, 1) := by decide +kernel
theorem dX7_set_48 : decode cX7_set 48 = .ok (.iadd, 1) := by decide +kernel
theorem dX7_set_49 : decode cX7_set 49 = .ok (.bipush 8, 2) := by decide +kernel
theorem dX7_set_51 : decode cX7_set 51 = .ok (.isub, 1) := by decide +kernel
theorem dX7_set_52 : decode cX7_set 52 = .ok (.iaload, 1) := by decide +kernel
theorem dX7_set_53 : decode cX7_set 53 = .ok (.istore_n 3, 1) := by decide +kernel
theorem dX7_set_54 : decode cX7_set 54 = .ok (.aload_n 0, 1) := by decide +kernel
theorem dX7_set_55 : decode cX7_set 55 = .ok (.getfield 7, 3) := by decide +kernel
theorem dX7_set_58 : decode cX7_set 58 = .ok (.sipush 585, 3) := by decide +kernel
theorem dX7_set_61 : decode cX7_set 61 = .ok (.iload_n 1, 1) := by decide +kernel
theorem dX7_set_62 : decode cX7_set 62 = .ok (.iadd, 1) := by decide +kernel
theorem dX7_set_63 : decode cX7_set 63 = .ok (.bipush 8, 2) := by decide +kernel
theorem dX7_set_65 : decode cX7_set 65 = .ok (.isub, 1) := by decide +kernel
theorem dX7_set_66 : decode cX7_set 66 = .ok (.iload_n 2, 1) := by decide +kernel
theorem dX7_set_67 : decode cX7_set 67 = .ok (.iastore, 1) := by decide +kernel
theorem dX7_set_68 : decode cX7_set 68 = .ok (.iload_n 3, 1) := by decide +kernel
theorem dX7_set_69 : decode cX7_set 69 = .ok (.ireturn, 1) := by decide +kernel
theorem dX7_drop_0 : decode cX7_drop 0 = .ok (.aload_n 0, 1) := by decide +kernel
theorem dX7_drop_1 : decode cX7_drop 1 = .ok (.iload_n 1, 1) := by decide +kernel
theorem dX7_drop_2 : decode cX7_drop 2 = .ok (.invokevirtual 263, 3) := by decide +kernel
theorem dX7_drop_5 : decode cX7_drop 5 = .ok (.ifCond .eq 38, 3) := by decide +kernel
theorem dX7_drop_8 : decode cX7_drop 8 = .ok (.iload_n 2, 1) := by decide +kernel
theorem dX7_drop_9 : decode cX7_drop 9 = .ok (.bipush (-4), 2) := by decide +kernel
theorem dX7_drop_11 : decode cX7_drop 11 = .ok (.if_icmp .ne 10, 3) := by decide +kernel
theorem dX7_drop_14 : decode cX7_drop 14 = .ok (.iload_n 3, 1) := by decide +kernel
theorem dX7_drop_15 : decode cX7_drop 15 = .ok (.ifCond .eq 30, 3) := by decide +kernel
theorem dX7_drop_18 : decode cX7_drop 18 = .ok (.goto 25, 3) := by decide +kernel
theorem dX7_drop_21 : decode cX7_drop 21 = .ok (.aload_n 0, 1) := by decide +kernel
theorem dX7_drop_22 : decode cX7_drop 22 = .ok (.iload_n 2, 1) := by decide +kernel
theorem dX7_drop_23 : decode cX7_drop 23 = .ok (.invokevirtual 258, 3) := by decide +kernel
theorem dX7_drop_26 : decode cX7_drop 26 = .ok (.ifCond .eq 17, 3) := by decide +kernel
theorem dX7_drop_29 : decode cX7_drop 29 = .ok (.iload_n 3, 1) := by decide +kernel
theorem dX7_drop_30 : decode cX7_drop 30 = .ok (.i2l, 1) := by decide +kernel
theorem dX7_drop_31 : decode cX7_drop 31 = .ok (.ldc2_w 282, 3) := by decide +kernel
theorem dX7_drop_34 : decode cX7_drop 34 = .ok (.ldc2_w 293, 3) := by decide +kernel
theorem dX7_drop_37 : decode cX7_drop 37 = .ok (.invokestatic 73, 3) := by decide +kernel
theorem dX7_drop_40 : decode cX7_drop 40 = .ok (.ifCond .ne 5, 3) := by decide +kernel
theorem dX7_drop_43 : decode cX7_drop 43 = .ok (.iconst (-1), 1) := by decide +kernel
theorem dX7_drop_44 : decode cX7_drop 44 = .ok (.ireturn, 1) := by decide +kernel
theorem dX7_drop_45 : decode cX7_drop 45 = .ok (.aload_n 0, 1) := by decide +kernel
theorem dX7_drop_46 : decode cX7_drop 46 = .ok (.iload_n 1, 1) := by decide +kernel
theorem dX7_drop_47 : decode cX7_drop 47 = .ok (.invokevirtual 177, 3) := by decide +kernel
theorem dX7_drop_50 : decode cX7_drop 50 = .ok (.istore 4, 2) := by decide +kernel
theorem dX7_drop_52 : decode cX7_drop 52 = .ok (.aload_n 0, 1) := by decide +kernel
theorem dX7_drop_53 : decode cX7_drop 53 = .ok (.getfield 7, 3) := by decide +kernel
theorem dX7_drop_56 : decode cX7_drop 56 = .ok (.iconst 1, 1) := by decide +kernel
theorem dX7_drop_57 : decode cX7_drop 57 = .ok (.iconst 3, 1) := by decide +kernel
theorem dX7_drop_58 : decode cX7_drop 58 = .ok (.iload_n 1, 1) := by decide +kernel
theorem dX7_drop_59 : decode cX7_drop 59 = .ok (.imul, 1) := by decide +kernel
theorem dX7_drop_60 : decode cX7_drop 60 = .ok (.iadd, 1) := by decide +kernel
theorem dX7_drop_61 : decode cX7_drop 61 = .ok (.iload_n 2, 1) := by decide +kernel
theorem dX7_drop_62 : decode cX7_drop 62 = .ok (.iastore, 1) := by decide +kernel
theorem dX7_drop_63 : decode cX7_drop 63 = .ok (.aload_n 0, 1) := by decide +kernel
theorem dX7_drop_64 : decode cX7_drop 64 = .ok (.getfield 7, 3) := by decide +kernel
theorem dX7_drop_67 : decode cX7_drop 67 = .ok (.iconst 1, 1) := by decide +kernel
theorem dX7_drop_68 : decode cX7_drop 68 = .ok (.iconst 3, 1) := by decide +kernel
theorem dX7_drop_69 : decode cX7_drop 69 = .ok (.iload_n 1, 1) := by decide +kernel
theorem dX7_drop_70 : decode cX7_drop 70 = .ok (.imul, 1) := by decide +kernel
theorem dX7_drop_71 : decode cX7_drop 71 = .ok (.iadd, 1) := by decide +kernel
theorem dX7_drop_72 : decode cX7_drop 72 = .ok (.iconst 1, 1) := by decide +kernel
theorem dX7_drop_73 : decode cX7_drop 73 = .ok (.iadd, 1) := by decide +kernel
theorem dX7_drop_74 : decode cX7_drop 74 = .ok (.iload_n 3, 1) := by decide +kernel
theorem dX7_drop_75 : decode cX7_drop 75 = .ok (.iastore, 1) := by decide +kernel
theorem dX7_drop_76 : decode cX7_drop 76 = .ok (.iload 4, 2) := by decide +kernel
theorem dX7_drop_78 : decode cX7_drop 78 = .ok (.ireturn, 1) := by decide +kernel
theorem dX7_fit_0 : decode cX7_fit 0 = .ok (.iconst 0, 1) := by decide +kernel
theorem dX7_fit_1 : decode cX7_fit 1 = .ok (.istore_n 1, 1) := by decide +kernel
theorem dX7_fit_2 : decode cX7_fit 2 = .ok (.iconst 0, 1) := by decide +kernel
theorem dX7_fit_3 : decode cX7_fit 3 = .ok (.istore_n 2, 1) := by decide +kernel
theorem dX7_fit_4 : decode cX7_fit 4 = .ok (.iload_n 2, 1) := by decide +kernel
theorem dX7_fit_5 : decode cX7_fit 5 = .ok (.aload_n 0, 1) := by decide +kernel
theorem dX7_fit_6 : decode cX7_fit 6 = .ok (.getfield 7, 3) := by decide +kernel
theorem dX7_fit_9 : decode cX7_fit 9 = .ok (.iconst 0, 1) := by decide +kernel
theorem dX7_fit_10 : decode cX7_fit 10 = .ok (.iaload, 1) := by decide +kernel
theorem dX7_fit_11 : decode cX7_fit 11 = .ok (.if_icmp .ge 55, 3) := by decide +kernel
theorem dX7_fit_14 : decode cX7_fit 14 = .ok (.aload_n 0, 1) := by decide +kernel
theorem dX7_fit_15 : decode cX7_fit 15 = .ok (.iload_n 2, 1) := by decide +kernel
theorem dX7_fit_16 : decode cX7_fit 16 = .ok (.invokevirtual 174, 3) := by decide +kernel
theorem dX7_fit_19 : decode cX7_fit 19 = .ok (.bipush (-4), 2) := by decide +kernel
theorem dX7_fit_21 : decode cX7_fit 21 = .ok (.if_icmp .eq 39, 3) := by decide +kernel
theorem dX7_fit_24 : decode cX7_fit 24 = .ok (.aload_n 0, 1) := by decide +kernel
theorem dX7_fit_25 : decode cX7_fit 25 = .ok (.iload_n 2, 1) := by decide +kernel
theorem dX7_fit_26 : decode cX7_fit 26 = .ok (.invokevirtual 290, 3) := by decide +kernel
theorem dX7_fit_29 : decode cX7_fit 29 = .ok (.istore_n 3, 1) := by decide +kernel
theorem dX7_fit_30 : decode cX7_fit 30 = .ok (.iload_n 1, 1) := by decide +kernel
theorem dX7_fit_31 : decode cX7_fit 31 = .ok (.iload_n 3, 1) := by decide +kernel
theorem dX7_fit_32 : decode cX7_fit 32 = .ok (.aload_n 0, 1) := by decide +kernel
theorem dX7_fit_33 : decode cX7_fit 33 = .ok (.iload_n 2, 1) := by decide +kernel
theorem dX7_fit_34 : decode cX7_fit 34 = .ok (.invokevirtual 177, 3) := by decide +kernel
theorem dX7_fit_37 : decode cX7_fit 37 = .ok (.if_icmp .eq 7, 3) := by decide +kernel
theorem dX7_fit_40 : decode cX7_fit 40 = .ok (.iconst 1, 1) := by decide +kernel
theorem dX7_fit_41 : decode cX7_fit 41 = .ok (.goto 4, 3) := by decide +kernel
theorem dX7_fit_44 : decode cX7_fit 44 = .ok (.iconst 0, 1) := by decide +kernel
theorem dX7_fit_45 : decode cX7_fit 45 = .ok (.iadd, 1) := by decide +kernel
theorem dX7_fit_46 : decode cX7_fit 46 = .ok (.istore_n 1, 1) := by decide +kernel
theorem dX7_fit_47 : decode cX7_fit 47 = .ok (.aload_n 0, 1) := by decide +kernel
theorem dX7_fit_48 : decode cX7_fit 48 = .ok (.getfield 7, 3) := by decide +kernel
theorem dX7_fit_51 : decode cX7_fit 51 = .ok (.iconst 1, 1) := by decide +kernel
theorem dX7_fit_52 : decode cX7_fit 52 = .ok (.iconst 3, 1) := by decide +kernel
theorem dX7_fit_53 : decode cX7_fit 53 = .ok (.iload_n 2, 1) := by decide +kernel
theorem dX7_fit_54 : decode cX7_fit 54 = .ok (.imul, 1) := by decide +kernel
theorem dX7_fit_55 : decode cX7_fit 55 = .ok (.iadd, 1) := by decide +kernel
theorem dX7_fit_56 : decode cX7_fit 56 = .ok (.iconst 1, 1) := by decide +kernel
theorem dX7_fit_57 : decode cX7_fit 57 = .ok (.iadd, 1) := by decide +kernel
theorem dX7_fit_58 : decode cX7_fit 58 = .ok (.iload_n 3, 1) := by decide +kernel
theorem dX7_fit_59 : decode cX7_fit 59 = .ok (.iastore, 1) := by decide +kernel
theorem dX7_fit_60 : decode cX7_fit 60 = .ok (.iinc 2 1, 3) := by decide +kernel
theorem dX7_fit_63 : decode cX7_fit 63 = .ok (.goto (-59), 3) := by decide +kernel
theorem dX7_fit_66 : decode cX7_fit 66 = .ok (.iload_n 1, 1) := by decide +kernel
theorem dX7_fit_67 : decode cX7_fit 67 = .ok (.ireturn, 1) := by decide +kernel
theorem dX7_cut_0 : decode cX7_cut 0 = .ok (.aload_n 0, 1) := by decide +kernel
theorem dX7_cut_1 : decode cX7_cut 1 = .ok (.iload_n 1, 1) := by decide +kernel
theorem dX7_cut_2 : decode cX7_cut 2 = .ok (.invokevirtual 263, 3) := by decide +kernel
theorem dX7_cut_5 : decode cX7_cut 5 = .ok (.ifCond .eq 20, 3) := by decide +kernel
theorem dX7_cut_8 : decode cX7_cut 8 = .ok (.iload_n 2, 1) := by decide +kernel
theorem dX7_cut_9 : decode cX7_cut 9 = .ok (.i2l, 1) := by decide +kernel
theorem dX7_cut_10 : decode cX7_cut 10 = .ok (.lconst 1, 1) := by decide +kernel
theorem dX7_cut_11 : decode cX7_cut 11 = .ok (.aload_n 0, 1) := by decide +kernel
theorem dX7_cut_12 : decode cX7_cut 12 = .ok (.iload_n 1, 1) := by decide +kernel
theorem dX7_cut_13 : decode cX7_cut 13 = .ok (.invokevirtual 171, 3) := by decide +kernel
theorem dX7_cut_16 : decode cX7_cut 16 = .ok (.iconst 1, 1) := by decide +kernel
theorem dX7_cut_17 : decode cX7_cut 17 = .ok (.isub, 1) := by decide +kernel
theorem dX7_cut_18 : decode cX7_cut 18 = .ok (.i2l, 1) := by decide +kernel
theorem dX7_cut_19 : decode cX7_cut 19 = .ok (.invokestatic 73, 3) := by decide +kernel
theorem dX7_cut_22 : decode cX7_cut 22 = .ok (.ifCond .ne 5, 3) := by decide +kernel
theorem dX7_cut_25 : decode cX7_cut 25 = .ok (.iconst (-1), 1) := by decide +kernel
theorem dX7_cut_26 : decode cX7_cut 26 = .ok (.ireturn, 1) := by decide +kernel
theorem dX7_cut_27 : decode cX7_cut 27 = .ok (.aload_n 0, 1) := by decide +kernel
theorem dX7_cut_28 : decode cX7_cut 28 = .ok (.getfield 7, 3) := by decide +kernel
theorem dX7_cut_31 : decode cX7_cut 31 = .ok (.iconst 0, 1) := by decide +kernel
theorem dX7_cut_32 : decode cX7_cut 32 = .ok (.iaload, 1) := by decide +kernel
theorem dX7_cut_33 : decode cX7_cut 33 = .ok (.bipush 8, 2) := by decide +kernel
theorem dX7_cut_35 : decode cX7_cut 35 = .ok (.if_icmp .ne 6, 3) := by decide +kernel
theorem dX7_cut_38 : decode cX7_cut 38 = .ok (.bipush (-3), 2) := by decide +kernel
theorem dX7_cut_40 : decode cX7_cut 40 = .ok (.ireturn, 1) := by decide +kernel
theorem dX7_cut_41 : decode cX7_cut 41 = .ok (.iconst 1, 1) := by decide +kernel
theorem dX7_cut_42 : decode cX7_cut 42 = .ok (.iconst 3, 1) := by decide +kernel
theorem dX7_cut_43 : decode cX7_cut 43 = .ok (.aload_n 0, 1) := by decide +kernel
theorem dX7_cut_44 : decode cX7_cut 44 = .ok (.getfield 7, 3) := by decide +kernel
theorem dX7_cut_47 : decode cX7_cut 47 = .ok (.iconst 0, 1) := by decide +kernel
theorem dX7_cut_48 : decode cX7_cut 48 = .ok (.iaload, 1) := by decide +kernel
theorem dX7_cut_49 : decode cX7_cut 49 = .ok (.imul, 1) := by decide +kernel
theorem dX7_cut_50 : decode cX7_cut 50 = .ok (.iadd, 1) := by decide +kernel
theorem dX7_cut_51 : decode cX7_cut 51 = .ok (.iconst 1, 1) := by decide +kernel
theorem dX7_cut_52 : decode cX7_cut 52 = .ok (.isub, 1) := by decide +kernel
theorem dX7_cut_53 : decode cX7_cut 53 = .ok (.istore_n 3, 1) := by decide +kernel
theorem dX7_cut_54 : decode cX7_cut 54 = .ok (.iload_n 3, 1) := by decide +kernel
theorem dX7_cut_55 : decode cX7_cut 55 = .ok (.iconst 1, 1) := by decide +kernel
theorem dX7_cut_56 : decode cX7_cut 56 = .ok (.iconst 3, 1) := by decide +kernel
theorem dX7_cut_57 : decode cX7_cut 57 = .ok (.iload_n 1, 1) := by decide +kernel
theorem dX7_cut_58 : decode cX7_cut 58 = .ok (.imul, 1) := by decide +kernel
theorem dX7_cut_59 : decode cX7_cut 59 = .ok (.iadd, 1) := by decide +kernel
theorem dX7_cut_60 : decode cX7_cut 60 = .ok (.iconst 3, 1) := by decide +kernel
theorem dX7_cut_61 : decode cX7_cut 61 = .ok (.iadd, 1) := by decide +kernel
theorem dX7_cut_62 : decode cX7_cut 62 = .ok (.if_icmp .lt 23, 3) := by decide +kernel
theorem dX7_cut_65 : decode cX7_cut 65 = .ok (.aload_n 0, 1) := by decide +kernel
theorem dX7_cut_66 : decode cX7_cut 66 = .ok (.getfield 7, 3) := by decide +kernel
theorem dX7_cut_69 : decode cX7_cut 69 = .ok (.iload_n 3, 1) := by decide +kernel
theorem dX7_cut_70 : decode cX7_cut 70 = .ok (.iconst 3, 1) := by decide +kernel
theorem dX7_cut_71 : decode cX7_cut 71 = .ok (.iadd, 1) := by decide +kernel
theorem dX7_cut_72 : decode cX7_cut 72 = .ok (.aload_n 0, 1) := by decide +kernel
theorem dX7_cut_73 : decode cX7_cut 73 = .ok (.getfield 7, 3) := by decide +kernel
theorem dX7_cut_76 : decode cX7_cut 76 = .ok (.iload_n 3, 1) := by decide +kernel
theorem dX7_cut_77 : decode cX7_cut 77 = .ok (.iaload, 1) := by decide +kernel
theorem dX7_cut_78 : decode cX7_cut 78 = .ok (.iastore, 1) := by decide +kernel
theorem dX7_cut_79 : decode cX7_cut 79 = .ok (.iinc 3 (-1), 3) := by decide +kernel
theorem dX7_cut_82 : decode cX7_cut 82 = .ok (.goto (-28), 3) := by decide +kernel
theorem dX7_cut_85 : decode cX7_cut 85 = .ok (.aload_n 0, 1) := by decide +kernel
theorem dX7_cut_86 : decode cX7_cut 86 = .ok (.getfield 7, 3) := by decide +kernel
theorem dX7_cut_89 : decode cX7_cut 89 = .ok (.iconst 1, 1) := by decide +kernel
theorem dX7_cut_90 : decode cX7_cut 90 = .ok (.iconst 3, 1) := by decide +kernel
theorem dX7_cut_91 : decode cX7_cut 91 = .ok (.iload_n 1, 1) := by decide +kernel
theorem dX7_cut_92 : decode cX7_cut 92 = .ok (.imul, 1) := by decide +kernel
theorem dX7_cut_93 : decode cX7_cut 93 = .ok (.iadd, 1) := by decide +kernel
theorem dX7_cut_94 : decode cX7_cut 94 = .ok (.iconst 3, 1) := by decide +kernel
theorem dX7_cut_95 : decode cX7_cut 95 = .ok (.iadd, 1) := by decide +kernel
theorem dX7_cut_96 : decode cX7_cut 96 = .ok (.bipush (-4), 2) := by decide +kernel
theorem dX7_cut_98 : decode cX7_cut 98 = .ok (.iastore, 1) := by decide +kernel
theorem dX7_cut_99 : decode cX7_cut 99 = .ok (.aload_n 0, 1) := by decide +kernel
theorem dX7_cut_100 : decode cX7_cut 100 = .ok (.getfield 7, 3) := by decide +kernel
theorem dX7_cut_103 : decode cX7_cut 103 = .ok (.iconst 1, 1) := by decide +kernel
theorem dX7_cut_104 : decode cX7_cut 104 = .ok (.iconst 3, 1) := by decide +kernel
theorem dX7_cut_105 : decode cX7_cut 105 = .ok (.iload_n 1, 1) := by decide +kernel
theorem dX7_cut_106 : decode cX7_cut 106 = .ok (.imul, 1) := by decide +kernel
theorem dX7_cut_107 : decode cX7_cut 107 = .ok (.iadd, 1) := by decide +kernel
theorem dX7_cut_108 : decode cX7_cut 108 = .ok (.iconst 4, 1) := by decide +kernel
theorem dX7_cut_109 : decode cX7_cut 109 = .ok (.iadd, 1) := by decide +kernel
theorem dX7_cut_110 : decode cX7_cut 110 = .ok (.iconst 0, 1) := by decide +kernel
theorem dX7_cut_111 : decode cX7_cut 111 = .ok (.iastore, 1) := by decide +kernel
theorem dX7_cut_112 : decode cX7_cut 112 = .ok (.aload_n 0, 1) := by decide +kernel
theorem dX7_cut_113 : decode cX7_cut 113 = .ok (.getfield 7, 3) := by decide +kernel
theorem dX7_cut_116 : decode cX7_cut 116 = .ok (.iconst 1, 1) := by decide +kernel
theorem dX7_cut_117 : decode cX7_cut 117 = .ok (.iconst 3, 1) := by decide +kernel
theorem dX7_cut_118 : decode cX7_cut 118 = .ok (.iload_n 1, 1) := by decide +kernel
theorem dX7_cut_119 : decode cX7_cut 119 = .ok (.imul, 1) := by decide +kernel
theorem dX7_cut_120 : decode cX7_cut 120 = .ok (.iadd, 1) := by decide +kernel
theorem dX7_cut_121 : decode cX7_cut 121 = .ok (.iconst 5, 1) := by decide +kernel
theorem dX7_cut_122 : decode cX7_cut 122 = .ok (.iadd, 1) := by decide +kernel
theorem dX7_cut_123 : decode cX7_cut 123 = .ok (.aload_n 0, 1) := by decide +kernel
theorem dX7_cut_124 : decode cX7_cut 124 = .ok (.iload_n 1, 1) := by decide +kernel
theorem dX7_cut_125 : decode cX7_cut 125 = .ok (.invokevirtual 171, 3) := by decide +kernel
theorem dX7_cut_128 : decode cX7_cut 128 = .ok (.iload_n 2, 1) := by decide +kernel
theorem dX7_cut_129 : decode cX7_cut 129 = .ok (.isub, 1) := by decide +kernel
theorem dX7_cut_130 : decode cX7_cut 130 = .ok (.iastore, 1) := by decide +kernel
theorem dX7_cut_131 : decode cX7_cut 131 = .ok (.aload_n 0, 1) := by decide +kernel
theorem dX7_cut_132 : decode cX7_cut 132 = .ok (.getfield 7, 3) := by decide +kernel
theorem dX7_cut_135 : decode cX7_cut 135 = .ok (.iconst 1, 1) := by decide +kernel
theorem dX7_cut_136 : decode cX7_cut 136 = .ok (.iconst 3, 1) := by decide +kernel
theorem dX7_cut_137 : decode cX7_cut 137 = .ok (.iload_n 1, 1) := by decide +kernel
theorem dX7_cut_138 : decode cX7_cut 138 = .ok (.imul, 1) := by decide +kernel
theorem dX7_cut_139 : decode cX7_cut 139 = .ok (.iadd, 1) := by decide +kernel
theorem dX7_cut_140 : decode cX7_cut 140 = .ok (.iconst 2, 1) := by decide +kernel
theorem dX7_cut_141 : decode cX7_cut 141 = .ok (.iadd, 1) := by decide +kernel
theorem dX7_cut_142 : decode cX7_cut 142 = .ok (.iload_n 2, 1) := by decide +kernel
theorem dX7_cut_143 : decode cX7_cut 143 = .ok (.iastore, 1) := by decide +kernel
theorem dX7_cut_144 : decode cX7_cut 144 = .ok (.aload_n 0, 1) := by decide +kernel
theorem dX7_cut_145 : decode cX7_cut 145 = .ok (.getfield 7, 3) := by decide +kernel
theorem dX7_cut_148 : decode cX7_cut 148 = .ok (.iconst 0, 1) := by decide +kernel
theorem dX7_cut_149 : decode cX7_cut 149 = .ok (.dup2, 1) := by decide +kernel
theorem dX7_cut_150 : decode cX7_cut 150 = .ok (.iaload, 1) := by decide +kernel
theorem dX7_cut_151 : decode cX7_cut 151 = .ok (.iconst 1, 1) := by decide +kernel
theorem dX7_cut_152 : decode cX7_cut 152 = .ok (.iadd, 1) := by decide +kernel
theorem dX7_cut_153 : decode cX7_cut 153 = .ok (.iastore, 1) := by decide +kernel
theorem dX7_cut_154 : decode cX7_cut 154 = .ok (.aload_n 0, 1) := by decide +kernel
theorem dX7_cut_155 : decode cX7_cut 155 = .ok (.getfield 7, 3) := by decide +kernel
theorem dX7_cut_158 : decode cX7_cut 158 = .ok (.iconst 0, 1) := by decide +kernel
theorem dX7_cut_159 : decode cX7_cut 159 = .ok (.iaload, 1) := by decide +kernel
theorem dX7_cut_160 : decode cX7_cut 160 = .ok (.ireturn, 1) := by decide +kernel
theorem dX7_join_0 : decode cX7_join 0 = .ok (.aload_n 0, 1) := by decide +kernel
theorem dX7_join_1 : decode cX7_join 1 = .ok (.iload_n 1, 1) := by decide +kernel
theorem dX7_join_2 : decode cX7_join 2 = .ok (.invokevirtual 263, 3) := by decide +kernel
theorem dX7_join_5 : decode cX7_join 5 = .ok (.ifCond .ne 5, 3) := by decide +kernel
theorem dX7_join_8 : decode cX7_join 8 = .ok (.iconst (-1), 1) := by decide +kernel
theorem dX7_join_9 : decode cX7_join 9 = .ok (.ireturn, 1) := by decide +kernel
theorem dX7_join_10 : decode cX7_join 10 = .ok (.iload_n 1, 1) := by decide +kernel
theorem dX7_join_11 : decode cX7_join 11 = .ok (.aload_n 0, 1) := by decide +kernel
theorem dX7_join_12 : decode cX7_join 12 = .ok (.getfield 7, 3) := by decide +kernel
theorem dX7_join_15 : decode cX7_join 15 = .ok (.iconst 0, 1) := by decide +kernel
theorem dX7_join_16 : decode cX7_join 16 = .ok (.iaload, 1) := by decide +kernel
theorem dX7_join_17 : decode cX7_join 17 = .ok (.iconst 1, 1) := by decide +kernel
theorem dX7_join_18 : decode cX7_join 18 = .ok (.isub, 1) := by decide +kernel
theorem dX7_join_19 : decode cX7_join 19 = .ok (.if_icmp .ne 6, 3) := by decide +kernel
theorem dX7_join_22 : decode cX7_join 22 = .ok (.bipush (-4), 2) := by decide +kernel
theorem dX7_join_24 : decode cX7_join 24 = .ok (.ireturn, 1) := by decide +kernel
theorem dX7_join_25 : decode cX7_join 25 = .ok (.aload_n 0, 1) := by decide +kernel
theorem dX7_join_26 : decode cX7_join 26 = .ok (.getfield 7, 3) := by decide +kernel
theorem dX7_join_29 : decode cX7_join 29 = .ok (.iconst 1, 1) := by decide +kernel
theorem dX7_join_30 : decode cX7_join 30 = .ok (.iconst 3, 1) := by decide +kernel
theorem dX7_join_31 : decode cX7_join 31 = .ok (.iload_n 1, 1) := by decide +kernel
theorem dX7_join_32 : decode cX7_join 32 = .ok (.imul, 1) := by decide +kernel
theorem dX7_join_33 : decode cX7_join 33 = .ok (.iadd, 1) := by decide +kernel
theorem dX7_join_34 : decode cX7_join 34 = .ok (.iconst 2, 1) := by decide +kernel
theorem dX7_join_35 : decode cX7_join 35 = .ok (.iadd, 1) := by decide +kernel
theorem dX7_join_36 : decode cX7_join 36 = .ok (.dup2, 1) := by decide +kernel
theorem dX7_join_37 : decode cX7_join 37 = .ok (.iaload, 1) := by decide +kernel
theorem dX7_join_38 : decode cX7_join 38 = .ok (.aload_n 0, 1) := by decide +kernel
theorem dX7_join_39 : decode cX7_join 39 = .ok (.iload_n 1, 1) := by decide +kernel
theorem dX7_join_40 : decode cX7_join 40 = .ok (.iconst 1, 1) := by decide +kernel
theorem dX7_join_41 : decode cX7_join 41 = .ok (.iadd, 1) := by decide +kernel
theorem dX7_join_42 : decode cX7_join 42 = .ok (.invokevirtual 171, 3) := by decide +kernel
theorem dX7_join_45 : decode cX7_join 45 = .ok (.iadd, 1) := by decide +kernel
theorem dX7_join_46 : decode cX7_join 46 = .ok (.iastore, 1) := by decide +kernel
theorem dX7_join_47 : decode cX7_join 47 = .ok (.iconst 1, 1) := by decide +kernel
theorem dX7_join_48 : decode cX7_join 48 = .ok (.iconst 3, 1) := by decide +kernel
theorem dX7_join_49 : decode cX7_join 49 = .ok (.iload_n 1, 1) := by decide +kernel
theorem dX7_join_50 : decode cX7_join 50 = .ok (.imul, 1) := by decide +kernel
theorem dX7_join_51 : decode cX7_join 51 = .ok (.iadd, 1) := by decide +kernel
theorem dX7_join_52 : decode cX7_join 52 = .ok (.iconst 3, 1) := by decide +kernel
theorem dX7_join_53 : decode cX7_join 53 = .ok (.iadd, 1) := by decide +kernel
theorem dX7_join_54 : decode cX7_join 54 = .ok (.istore_n 2, 1) := by decide +kernel
theorem dX7_join_55 : decode cX7_join 55 = .ok (.iload_n 2, 1) := by decide +kernel
theorem dX7_join_56 : decode cX7_join 56 = .ok (.iconst 1, 1) := by decide +kernel
theorem dX7_join_57 : decode cX7_join 57 = .ok (.iconst 3, 1) := by decide +kernel
theorem dX7_join_58 : decode cX7_join 58 = .ok (.aload_n 0, 1) := by decide +kernel
theorem dX7_join_59 : decode cX7_join 59 = .ok (.getfield 7, 3) := by decide +kernel
theorem dX7_join_62 : decode cX7_join 62 = .ok (.iconst 0, 1) := by decide +kernel
theorem dX7_join_63 : decode cX7_join 63 = .ok (.iaload, 1) := by decide +kernel
theorem dX7_join_64 : decode cX7_join 64 = .ok (.imul, 1) := by decide +kernel
theorem dX7_join_65 : decode cX7_join 65 = .ok (.iadd, 1) := by decide +kernel
theorem dX7_join_66 : decode cX7_join 66 = .ok (.iconst 3, 1) := by decide +kernel
theorem dX7_join_67 : decode cX7_join 67 = .ok (.isub, 1) := by decide +kernel
theorem dX7_join_68 : decode cX7_join 68 = .ok (.if_icmp .ge 23, 3) := by decide +kernel
theorem dX7_join_71 : decode cX7_join 71 = .ok (.aload_n 0, 1) := by decide +kernel
theorem dX7_join_72 : decode cX7_join 72 = .ok (.getfield 7, 3) := by decide +kernel
theorem dX7_join_75 : decode cX7_join 75 = .ok (.iload_n 2, 1) := by decide +kernel
theorem dX7_join_76 : decode cX7_join 76 = .ok (.aload_n 0, 1) := by decide +kernel
theorem dX7_join_77 : decode cX7_join 77 = .ok (.getfield 7, 3) := by decide +kernel
theorem dX7_join_80 : decode cX7_join 80 = .ok (.iload_n 2, 1) := by decide +kernel
theorem dX7_join_81 : decode cX7_join 81 = .ok (.iconst 3, 1) := by decide +kernel
theorem dX7_join_82 : decode cX7_join 82 = .ok (.iadd, 1) := by decide +kernel
theorem dX7_join_83 : decode cX7_join 83 = .ok (.iaload, 1) := by decide +kernel
theorem dX7_join_84 : decode cX7_join 84 = .ok (.iastore, 1) := by decide +kernel
theorem dX7_join_85 : decode cX7_join 85 = .ok (.iinc 2 1, 3) := by decide +kernel
theorem dX7_join_88 : decode cX7_join 88 = .ok (.goto (-33), 3) := by decide +kernel
theorem dX7_join_91 : decode cX7_join 91 = .ok (.aload_n 0, 1) := by decide +kernel
theorem dX7_join_92 : decode cX7_join 92 = .ok (.getfield 7, 3) := by decide +kernel
theorem dX7_join_95 : decode cX7_join 95 = .ok (.iconst 0, 1) := by decide +kernel
theorem dX7_join_96 : decode cX7_join 96 = .ok (.dup2, 1) := by decide +kernel
theorem dX7_join_97 : decode cX7_join 97 = .ok (.iaload, 1) := by decide +kernel
theorem dX7_join_98 : decode cX7_join 98 = .ok (.iconst 1, 1) := by decide +kernel
theorem dX7_join_99 : decode cX7_join 99 = .ok (.isub, 1) := by decide +kernel
theorem dX7_join_100 : decode cX7_join 100 = .ok (.iastore, 1) := by decide +kernel
theorem dX7_join_101 : decode cX7_join 101 = .ok (.aload_n 0, 1) := by decide +kernel
theorem dX7_join_102 : decode cX7_join 102 = .ok (.iload_n 1, 1) := by decide +kernel
theorem dX7_join_103 : decode cX7_join 103 = .ok (.invokevirtual 171, 3) := by decide +kernel
theorem dX7_join_106 : decode cX7_join 106 = .ok (.ireturn, 1) := by decide +kernel
theorem dX7_moves_0 : decode cX7_moves 0 = .ok (.iconst 0, 1) := by decide +kernel
theorem dX7_moves_1 : decode cX7_moves 1 = .ok (.istore_n 3, 1) := by decide +kernel
theorem dX7_moves_2 : decode cX7_moves 2 = .ok (.iload_n 3, 1) := by decide +kernel
theorem dX7_moves_3 : decode cX7_moves 3 = .ok (.bipush 7, 2) := by decide +kernel
theorem dX7_moves_5 : decode cX7_moves 5 = .ok (.if_icmp .ge 29, 3) := by decide +kernel
theorem dX7_moves_8 : decode cX7_moves 8 = .ok (.aload_n 0, 1) := by decide +kernel
theorem dX7_moves_9 : decode cX7_moves 9 = .ok (.getfield 68, 3) := by decide +kernel
theorem dX7_moves_12 : decode cX7_moves 12 = .ok (.iload_n 3, 1) := by decide +kernel
theorem dX7_moves_13 : decode cX7_moves 13 = .ok (.aload_n 0, 1) := by decide +kernel
theorem dX7_moves_14 : decode cX7_moves 14 = .ok (.getfield 7, 3) := by decide +kernel
theorem dX7_moves_17 : decode cX7_moves 17 = .ok (.bipush 25, 2) := by decide +kernel
theorem dX7_moves_19 : decode cX7_moves 19 = .ok (.bipush 7, 2) := by decide +kernel
theorem dX7_moves_21 : decode cX7_moves 21 = .ok (.iload_n 1, 1) := by decide +kernel
theorem dX7_moves_22 : decode cX7_moves 22 = .ok (.imul, 1) := by decide +kernel
theorem dX7_moves_23 : decode cX7_moves 23 = .ok (.iadd, 1) := by decide +kernel
theorem dX7_moves_24 : decode cX7_moves 24 = .ok (.iload_n 3, 1) := by decide +kernel
theorem dX7_moves_25 : decode cX7_moves 25 = .ok (.iadd, 1) := by decide +kernel
theorem dX7_moves_26 : decode cX7_moves 26 = .ok (.iaload, 1) := by decide +kernel
theorem dX7_moves_27 : decode cX7_moves 27 = .ok (.iastore, 1) := by decide +kernel
theorem dX7_moves_28 : decode cX7_moves 28 = .ok (.iinc 3 1, 3) := by decide +kernel
theorem dX7_moves_31 : decode cX7_moves 31 = .ok (.goto (-29), 3) := by decide +kernel
theorem dX7_moves_34 : decode cX7_moves 34 = .ok (.iload_n 2, 1) := by decide +kernel
theorem dX7_moves_35 : decode cX7_moves 35 = .ok (.iload_n 1, 1) := by decide +kernel
theorem dX7_moves_36 : decode cX7_moves 36 = .ok (.if_icmp .le 7, 3) := by decide +kernel
theorem dX7_moves_39 : decode cX7_moves 39 = .ok (.iconst 1, 1) := by decide +kernel
theorem dX7_moves_40 : decode cX7_moves 40 = .ok (.goto 4, 3) := by decide +kernel
theorem dX7_moves_43 : decode cX7_moves 43 = .ok (.iconst (-1), 1) := by decide +kernel
theorem dX7_moves_44 : decode cX7_moves 44 = .ok (.istore_n 3, 1) := by decide +kernel
theorem dX7_moves_45 : decode cX7_moves 45 = .ok (.iload_n 1, 1) := by decide +kernel
theorem dX7_moves_46 : decode cX7_moves 46 = .ok (.istore 4, 2) := by decide +kernel
theorem dX7_moves_48 : decode cX7_moves 48 = .ok (.iload 4, 2) := by decide +kernel
theorem dX7_moves_50 : decode cX7_moves 50 = .ok (.iload_n 2, 1) := by decide +kernel
theorem dX7_moves_51 : decode cX7_moves 51 = .ok (.if_icmp .eq 62, 3) := by decide +kernel
theorem dX7_moves_54 : decode cX7_moves 54 = .ok (.iconst 0, 1) := by decide +kernel
theorem dX7_moves_55 : decode cX7_moves 55 = .ok (.istore 5, 2) := by decide +kernel
theorem dX7_moves_57 : decode cX7_moves 57 = .ok (.iload 5, 2) := by decide +kernel
theorem dX7_moves_59 : decode cX7_moves 59 = .ok (.bipush 7, 2) := by decide +kernel
theorem dX7_moves_61 : decode cX7_moves 61 = .ok (.if_icmp .ge 43, 3) := by decide +kernel
theorem dX7_moves_64 : decode cX7_moves 64 = .ok (.aload_n 0, 1) := by decide +kernel
theorem dX7_moves_65 : decode cX7_moves 65 = .ok (.getfield 7, 3) := by decide +kernel
theorem dX7_moves_68 : decode cX7_moves 68 = .ok (.bipush 25, 2) := by decide +kernel
theorem dX7_moves_70 : decode cX7_moves 70 = .ok (.bipush 7, 2) := by decide +kernel
theorem dX7_moves_72 : decode cX7_moves 72 = .ok (.iload 4, 2) := by decide +kernel
theorem dX7_moves_74 : decode cX7_moves 74 = .ok (.imul, 1) := by decide +kernel
theorem dX7_moves_75 : decode cX7_moves 75 = .ok (.iadd, 1) := by decide +kernel
theorem dX7_moves_76 : decode cX7_moves 76 = .ok (.iload 5, 2) := by decide +kernel
theorem dX7_moves_78 : decode cX7_moves 78 = .ok (.iadd, 1) := by decide +kernel
theorem dX7_moves_79 : decode cX7_moves 79 = .ok (.aload_n 0, 1) := by decide +kernel
theorem dX7_moves_80 : decode cX7_moves 80 = .ok (.getfield 7, 3) := by decide +kernel
theorem dX7_moves_83 : decode cX7_moves 83 = .ok (.bipush 25, 2) := by decide +kernel
theorem dX7_moves_85 : decode cX7_moves 85 = .ok (.bipush 7, 2) := by decide +kernel
theorem dX7_moves_87 : decode cX7_moves 87 = .ok (.iload 4, 2) := by decide +kernel
theorem dX7_moves_89 : decode cX7_moves 89 = .ok (.iload_n 3, 1) := by decide +kernel
theorem dX7_moves_90 : decode cX7_moves 90 = .ok (.iadd, 1) := by decide +kernel
theorem dX7_moves_91 : decode cX7_moves 91 = .ok (.imul, 1) := by decide +kernel
theorem dX7_moves_92 : decode cX7_moves 92 = .ok (.iadd, 1) := by decide +kernel
theorem dX7_moves_93 : decode cX7_moves 93 = .ok (.iload 5, 2) := by decide +kernel
theorem dX7_moves_95 : decode cX7_moves 95 = .ok (.iadd, 1) := by decide +kernel
theorem dX7_moves_96 : decode cX7_moves 96 = .ok (.iaload, 1) := by decide +kernel
theorem dX7_moves_97 : decode cX7_moves 97 = .ok (.iastore, 1) := by decide +kernel
theorem dX7_moves_98 : decode cX7_moves 98 = .ok (.iinc 5 1, 3) := by decide +kernel
theorem dX7_moves_101 : decode cX7_moves 101 = .ok (.goto (-44), 3) := by decide +kernel
theorem dX7_moves_104 : decode cX7_moves 104 = .ok (.iload 4, 2) := by decide +kernel
theorem dX7_moves_106 : decode cX7_moves 106 = .ok (.iload_n 3, 1) := by decide +kernel
theorem dX7_moves_107 : decode cX7_moves 107 = .ok (.iadd, 1) := by decide +kernel
theorem dX7_moves_108 : decode cX7_moves 108 = .ok (.istore 4, 2) := by decide +kernel
theorem dX7_moves_110 : decode cX7_moves 110 = .ok (.goto (-62), 3) := by decide +kernel
theorem dX7_moves_113 : decode cX7_moves 113 = .ok (.iconst 0, 1) := by decide +kernel
theorem dX7_moves_114 : decode cX7_moves 114 = .ok (.istore 4, 2) := by decide +kernel
theorem dX7_moves_116 : decode cX7_moves 116 = .ok (.iload 4, 2) := by decide +kernel
theorem dX7_moves_118 : decode cX7_moves 118 = .ok (.bipush 7, 2) := by decide +kernel
theorem dX7_moves_120 : decode cX7_moves 120 = .ok (.if_icmp .ge 31, 3) := by decide +kernel
theorem dX7_moves_123 : decode cX7_moves 123 = .ok (.aload_n 0, 1) := by decide +kernel
theorem dX7_moves_124 : decode cX7_moves 124 = .ok (.getfield 7, 3) := by decide +kernel
theorem dX7_moves_127 : decode cX7_moves 127 = .ok (.bipush 25, 2) := by decide +kernel
theorem dX7_moves_129 : decode cX7_moves 129 = .ok (.bipush 7, 2) := by decide +kernel
theorem dX7_moves_131 : decode cX7_moves 131 = .ok (.iload_n 2, 1) := by decide +kernel
theorem dX7_moves_132 : decode cX7_moves 132 = .ok (.imul, 1) := by decide +kernel
theorem dX7_moves_133 : decode cX7_moves 133 = .ok (.iadd, 1) := by decide +kernel
theorem dX7_moves_134 : decode cX7_moves 134 = .ok (.iload 4, 2) := by decide +kernel
theorem dX7_moves_136 : decode cX7_moves 136 = .ok (.iadd, 1) := by decide +kernel
theorem dX7_moves_137 : decode cX7_moves 137 = .ok (.aload_n 0, 1) := by decide +kernel
theorem dX7_moves_138 : decode cX7_moves 138 = .ok (.getfield 68, 3) := by decide +kernel
theorem dX7_moves_141 : decode cX7_moves 141 = .ok (.iload 4, 2) := by decide +kernel
theorem dX7_moves_143 : decode cX7_moves 143 = .ok (.iaload, 1) := by decide +kernel
theorem dX7_moves_144 : decode cX7_moves 144 = .ok (.iastore, 1) := by decide +kernel
theorem dX7_moves_145 : decode cX7_moves 145 = .ok (.iinc 4 1, 3) := by decide +kernel
theorem dX7_moves_148 : decode cX7_moves 148 = .ok (.goto (-32), 3) := by decide +kernel
theorem dX7_moves_151 : decode cX7_moves 151 = .ok (.return_, 1) := by decide +kernel
theorem dX7_move_0 : decode cX7_move 0 = .ok (.aload_n 0, 1) := by decide +kernel
theorem dX7_move_1 : decode cX7_move 1 = .ok (.iload_n 1, 1) := by decide +kernel
theorem dX7_move_2 : decode cX7_move 2 = .ok (.invokevirtual 263, 3) := by decide +kernel
theorem dX7_move_5 : decode cX7_move 5 = .ok (.ifCond .eq 53, 3) := by decide +kernel
theorem dX7_move_8 : decode cX7_move 8 = .ok (.aload_n 0, 1) := by decide +kernel
theorem dX7_move_9 : decode cX7_move 9 = .ok (.iload_n 3, 1) := by decide +kernel
theorem dX7_move_10 : decode cX7_move 10 = .ok (.invokevirtual 263, 3) := by decide +kernel
theorem dX7_move_13 : decode cX7_move 13 = .ok (.ifCond .eq 45, 3) := by decide +kernel
theorem dX7_move_16 : decode cX7_move 16 = .ok (.iload_n 2, 1) := by decide +kernel
theorem dX7_move_17 : decode cX7_move 17 = .ok (.i2l, 1) := by decide +kernel
theorem dX7_move_18 : decode cX7_move 18 = .ok (.lconst 0, 1) := by decide +kernel
theorem dX7_move_19 : decode cX7_move 19 = .ok (.aload_n 0, 1) := by decide +kernel
theorem dX7_move_20 : decode cX7_move 20 = .ok (.iload_n 1, 1) := by decide +kernel
theorem dX7_move_21 : decode cX7_move 21 = .ok (.invokevirtual 171, 3) := by decide +kernel
theorem dX7_move_24 : decode cX7_move 24 = .ok (.iconst 1, 1) := by decide +kernel
theorem dX7_move_25 : decode cX7_move 25 = .ok (.isub, 1) := by decide +kernel
theorem dX7_move_26 : decode cX7_move 26 = .ok (.i2l, 1) := by decide +kernel
theorem dX7_move_27 : decode cX7_move 27 = .ok (.invokestatic 73, 3) := by decide +kernel
theorem dX7_move_30 : decode cX7_move 30 = .ok (.ifCond .eq 28, 3) := by decide +kernel
theorem dX7_move_33 : decode cX7_move 33 = .ok (.iload 4, 2) := by decide +kernel
theorem dX7_move_35 : decode cX7_move 35 = .ok (.bipush (-4), 2) := by decide +kernel
theorem dX7_move_37 : decode cX7_move 37 = .ok (.if_icmp .eq 23, 3) := by decide +kernel
theorem dX7_move_40 : decode cX7_move 40 = .ok (.iload 4, 2) := by decide +kernel
theorem dX7_move_42 : decode cX7_move 42 = .ok (.i2l, 1) := by decide +kernel
theorem dX7_move_43 : decode cX7_move 43 = .ok (.lconst 0, 1) := by decide +kernel
theorem dX7_move_44 : decode cX7_move 44 = .ok (.aload_n 0, 1) := by decide +kernel
theorem dX7_move_45 : decode cX7_move 45 = .ok (.iload_n 3, 1) := by decide +kernel
theorem dX7_move_46 : decode cX7_move 46 = .ok (.invokevirtual 171, 3) := by decide +kernel
theorem dX7_move_49 : decode cX7_move 49 = .ok (.iconst 1, 1) := by decide +kernel
theorem dX7_move_50 : decode cX7_move 50 = .ok (.isub, 1) := by decide +kernel
theorem dX7_move_51 : decode cX7_move 51 = .ok (.i2l, 1) := by decide +kernel
theorem dX7_move_52 : decode cX7_move 52 = .ok (.invokestatic 73, 3) := by decide +kernel
theorem dX7_move_55 : decode cX7_move 55 = .ok (.ifCond .ne 5, 3) := by decide +kernel
theorem dX7_move_58 : decode cX7_move 58 = .ok (.iconst (-1), 1) := by decide +kernel
theorem dX7_move_59 : decode cX7_move 59 = .ok (.ireturn, 1) := by decide +kernel
theorem dX7_move_60 : decode cX7_move 60 = .ok (.aload_n 0, 1) := by decide +kernel
theorem dX7_move_61 : decode cX7_move 61 = .ok (.iload_n 1, 1) := by decide +kernel
theorem dX7_move_62 : decode cX7_move 62 = .ok (.invokevirtual 171, 3) := by decide +kernel
theorem dX7_move_65 : decode cX7_move 65 = .ok (.iconst 1, 1) := by decide +kernel
theorem dX7_move_66 : decode cX7_move 66 = .ok (.if_icmp .eq 14, 3) := by decide +kernel
theorem dX7_move_69 : decode cX7_move 69 = .ok (.iload_n 1, 1) := by decide +kernel
theorem dX7_move_70 : decode cX7_move 70 = .ok (.iload_n 3, 1) := by decide +kernel
theorem dX7_move_71 : decode cX7_move 71 = .ok (.if_icmp .ne 12, 3) := by decide +kernel
theorem dX7_move_74 : decode cX7_move 74 = .ok (.iload 4, 2) := by decide +kernel
theorem dX7_move_76 : decode cX7_move 76 = .ok (.iload_n 2, 1) := by decide +kernel
theorem dX7_move_77 : decode cX7_move 77 = .ok (.if_icmp .ne 6, 3) := by decide +kernel
theorem dX7_move_80 : decode cX7_move 80 = .ok (.bipush (-2), 2) := by decide +kernel
theorem dX7_move_82 : decode cX7_move 82 = .ok (.ireturn, 1) := by decide +kernel
theorem dX7_move_83 : decode cX7_move 83 = .ok (.aload_n 0, 1) := by decide +kernel
theorem dX7_move_84 : decode cX7_move 84 = .ok (.iload_n 1, 1) := by decide +kernel
theorem dX7_move_85 : decode cX7_move 85 = .ok (.invokevirtual 201, 3) := by decide +kernel
theorem dX7_move_88 : decode cX7_move 88 = .ok (.iload_n 2, 1) := by decide +kernel
theorem dX7_move_89 : decode cX7_move 89 = .ok (.iadd, 1) := by decide +kernel
theorem dX7_move_90 : decode cX7_move 90 = .ok (.istore 5, 2) := by decide +kernel
theorem dX7_move_92 : decode cX7_move 92 = .ok (.aload_n 0, 1) := by decide +kernel
theorem dX7_move_93 : decode cX7_move 93 = .ok (.iload_n 3, 1) := by decide +kernel
theorem dX7_move_94 : decode cX7_move 94 = .ok (.invokevirtual 201, 3) := by decide +kernel
theorem dX7_move_97 : decode cX7_move 97 = .ok (.iload 4, 2) := by decide +kernel
theorem dX7_move_99 : decode cX7_move 99 = .ok (.bipush (-4), 2) := by decide +kernel
theorem dX7_move_101 : decode cX7_move 101 = .ok (.if_icmp .ne 7, 3) := by decide +kernel
theorem dX7_move_104 : decode cX7_move 104 = .ok (.iconst 0, 1) := by decide +kernel
theorem dX7_move_105 : decode cX7_move 105 = .ok (.goto 7, 3) := by decide +kernel
theorem dX7_move_108 : decode cX7_move 108 = .ok (.iload 4, 2) := by decide +kernel
theorem dX7_move_110 : decode cX7_move 110 = .ok (.iconst 1, 1) := by decide +kernel
theorem dX7_move_111 : decode cX7_move 111 = .ok (.iadd, 1) := by decide +kernel
theorem dX7_move_112 : decode cX7_move 112 = .ok (.iadd, 1) := by decide +kernel
theorem dX7_move_113 : decode cX7_move 113 = .ok (.istore 6, 2) := by decide +kernel
theorem dX7_move_115 : decode cX7_move 115 = .ok (.aload_n 0, 1) := by decide +kernel
theorem dX7_move_116 : decode cX7_move 116 = .ok (.iload 5, 2) := by decide +kernel
theorem dX7_move_118 : decode cX7_move 118 = .ok (.iload 6, 2) := by decide +kernel
theorem dX7_move_120 : decode cX7_move 120 = .ok (.iload 5, 2) := by decide +kernel
theorem dX7_move_122 : decode cX7_move 122 = .ok (.if_icmp .le 10, 3) := by decide +kernel
theorem dX7_move_125 : decode cX7_move 125 = .ok (.iload 6, 2) := by decide +kernel
theorem dX7_move_127 : decode cX7_move 127 = .ok (.iconst 1, 1) := by decide +kernel
theorem dX7_move_128 : decode cX7_move 128 = .ok (.isub, 1) := by decide +kernel
theorem dX7_move_129 : decode cX7_move 129 = .ok (.goto 5, 3) := by decide +kernel
theorem dX7_move_132 : decode cX7_move 132 = .ok (.iload 6, 2) := by decide +kernel
theorem dX7_move_134 : decode cX7_move 134 = .ok (.invokevirtual 295, 3) := by decide +kernel
theorem dX7_move_137 : decode cX7_move 137 = .ok (.aload_n 0, 1) := by decide +kernel
theorem dX7_move_138 : decode cX7_move 138 = .ok (.getfield 7, 3) := by decide +kernel
theorem dX7_move_141 : decode cX7_move 141 = .ok (.iconst 1, 1) := by decide +kernel
theorem dX7_move_142 : decode cX7_move 142 = .ok (.iconst 3, 1) := by decide +kernel
theorem dX7_move_143 : decode cX7_move 143 = .ok (.iload_n 1, 1) := by decide +kernel
theorem dX7_move_144 : decode cX7_move 144 = .ok (.imul, 1) := by decide +kernel
theorem dX7_move_145 : decode cX7_move 145 = .ok (.iadd, 1) := by decide +kernel
theorem dX7_move_146 : decode cX7_move 146 = .ok (.iconst 2, 1) := by decide +kernel
theorem dX7_move_147 : decode cX7_move 147 = .ok (.iadd, 1) := by decide +kernel
theorem dX7_move_148 : decode cX7_move 148 = .ok (.dup2, 1) := by decide +kernel
theorem dX7_move_149 : decode cX7_move 149 = .ok (.iaload, 1) := by decide +kernel
theorem dX7_move_150 : decode cX7_move 150 = .ok (.iconst 1, 1) := by decide +kernel
theorem dX7_move_151 : decode cX7_move 151 = .ok (.isub, 1) := by decide +kernel
theorem dX7_move_152 : decode cX7_move 152 = .ok (.iastore, 1) := by decide +kernel
theorem dX7_move_153 : decode cX7_move 153 = .ok (.aload_n 0, 1) := by decide +kernel
theorem dX7_move_154 : decode cX7_move 154 = .ok (.getfield 7, 3) := by decide +kernel
theorem dX7_move_157 : decode cX7_move 157 = .ok (.iconst 1, 1) := by decide +kernel
theorem dX7_move_158 : decode cX7_move 158 = .ok (.iconst 3, 1) := by decide +kernel
theorem dX7_move_159 : decode cX7_move 159 = .ok (.iload_n 3, 1) := by decide +kernel
theorem dX7_move_160 : decode cX7_move 160 = .ok (.imul, 1) := by decide +kernel
theorem dX7_move_161 : decode cX7_move 161 = .ok (.iadd, 1) := by decide +kernel
theorem dX7_move_162 : decode cX7_move 162 = .ok (.iconst 2, 1) := by decide +kernel
theorem dX7_move_163 : decode cX7_move 163 = .ok (.iadd, 1) := by decide +kernel
theorem dX7_move_164 : decode cX7_move 164 = .ok (.dup2, 1) := by decide +kernel
theorem dX7_move_165 : decode cX7_move 165 = .ok (.iaload, 1) := by decide +kernel
theorem dX7_move_166 : decode cX7_move 166 = .ok (.iconst 1, 1) := by decide +kernel
theorem dX7_move_167 : decode cX7_move 167 = .ok (.iadd, 1) := by decide +kernel
theorem dX7_move_168 : decode cX7_move 168 = .ok (.iastore, 1) := by decide +kernel
theorem dX7_move_169 : decode cX7_move 169 = .ok (.aload_n 0, 1) := by decide +kernel
theorem dX7_move_170 : decode cX7_move 170 = .ok (.iload_n 3, 1) := by decide +kernel
theorem dX7_move_171 : decode cX7_move 171 = .ok (.invokevirtual 171, 3) := by decide +kernel
theorem dX7_move_174 : decode cX7_move 174 = .ok (.ireturn, 1) := by decide +kernel
theorem dX7_keep_0 : decode cX7_keep 0 = .ok (.iload_n 1, 1) := by decide +kernel
theorem dX7_keep_1 : decode cX7_keep 1 = .ok (.i2l, 1) := by decide +kernel
theorem dX7_keep_2 : decode cX7_keep 2 = .ok (.lconst 0, 1) := by decide +kernel
theorem dX7_keep_3 : decode cX7_keep 3 = .ok (.lconst 1, 1) := by decide +kernel
theorem dX7_keep_4 : decode cX7_keep 4 = .ok (.invokestatic 73, 3) := by decide +kernel
theorem dX7_keep_7 : decode cX7_keep 7 = .ok (.ifCond .ne 5, 3) := by decide +kernel
theorem dX7_keep_10 : decode cX7_keep 10 = .ok (.iconst (-1), 1) := by decide +kernel
theorem dX7_keep_11 : decode cX7_keep 11 = .ok (.ireturn, 1) := by decide +kernel
theorem dX7_keep_12 : decode cX7_keep 12 = .ok (.aload_n 0, 1) := by decide +kernel
theorem dX7_keep_13 : decode cX7_keep 13 = .ok (.getfield 25, 3) := by decide +kernel
theorem dX7_keep_16 : decode cX7_keep 16 = .ok (.iload_n 1, 1) := by decide +kernel
theorem dX7_keep_17 : decode cX7_keep 17 = .ok (.baload, 1) := by decide +kernel
theorem dX7_keep_18 : decode cX7_keep 18 = .ok (.ifCond .eq 7, 3) := by decide +kernel
theorem dX7_keep_21 : decode cX7_keep 21 = .ok (.iconst 1, 1) := by decide +kernel
theorem dX7_keep_22 : decode cX7_keep 22 = .ok (.goto 4, 3) := by decide +kernel
theorem dX7_keep_25 : decode cX7_keep 25 = .ok (.iconst 0, 1) := by decide +kernel
theorem dX7_keep_26 : decode cX7_keep 26 = .ok (.istore_n 2, 1) := by decide +kernel
theorem dX7_keep_27 : decode cX7_keep 27 = .ok (.iconst 0, 1) := by decide +kernel
theorem dX7_keep_28 : decode cX7_keep 28 = .ok (.istore_n 3, 1) := by decide +kernel
theorem dX7_keep_29 : decode cX7_keep 29 = .ok (.iload_n 3, 1) := by decide +kernel
theorem dX7_keep_30 : decode cX7_keep 30 = .ok (.sipush 591, 3) := by decide +kernel
theorem dX7_keep_33 : decode cX7_keep 33 = .ok (.if_icmp .ge 27, 3) := by decide +kernel
theorem dX7_keep_36 : decode cX7_keep 36 = .ok (.aload_n 0, 1) := by decide +kernel
theorem dX7_keep_37 : decode cX7_keep 37 = .ok (.getfield 22, 3) := by decide +kernel
theorem dX7_keep_40 : decode cX7_keep 40 = .ok (.sipush 591, 3) := by decide +kernel
theorem dX7_keep_43 : decode cX7_keep 43 = .ok (.iload_n 1, 1) := by decide +kernel
theorem dX7_keep_44 : decode cX7_keep 44 = .ok (.imul, 1) := by decide +kernel
theorem dX7_keep_45 : decode cX7_keep 45 = .ok (.iload_n 3, 1) := by decide +kernel
theorem dX7_keep_46 : decode cX7_keep 46 = .ok (.iadd, 1) := by decide +kernel
theorem dX7_keep_47 : decode cX7_keep 47 = .ok (.aload_n 0, 1) := by decide +kernel
theorem dX7_keep_48 : decode cX7_keep 48 = .ok (.getfield 7, 3) := by decide +kernel
theorem dX7_keep_51 : decode cX7_keep 51 = .ok (.iload_n 3, 1) := by decide +kernel
theorem dX7_keep_52 : decode cX7_keep 52 = .ok (.iaload, 1) := by decide +kernel
theorem dX7_keep_53 : decode cX7_keep 53 = .ok (.iastore, 1) := by decide +kernel
theorem dX7_keep_54 : decode cX7_keep 54 = .ok (.iinc 3 1, 3) := by decide +kernel
theorem dX7_keep_57 : decode cX7_keep 57 = .ok (.goto (-28), 3) := by decide +kernel
theorem dX7_keep_60 : decode cX7_keep 60 = .ok (.aload_n 0, 1) := by decide +kernel
theorem dX7_keep_61 : decode cX7_keep 61 = .ok (.getfield 25, 3) := by decide +kernel
theorem dX7_keep_64 : decode cX7_keep 64 = .ok (.iload_n 1, 1) := by decide +kernel
theorem dX7_keep_65 : decode cX7_keep 65 = .ok (.iconst 1, 1) := by decide +kernel
theorem dX7_keep_66 : decode cX7_keep 66 = .ok (.bastore, 1) := by decide +kernel
theorem dX7_keep_67 : decode cX7_keep 67 = .ok (.iload_n 2, 1) := by decide +kernel
theorem dX7_keep_68 : decode cX7_keep 68 = .ok (.ireturn, 1) := by decide +kernel
theorem dX7_back_0 : decode cX7_back 0 = .ok (.iload_n 1, 1) := by decide +kernel
theorem dX7_back_1 : decode cX7_back 1 = .ok (.i2l, 1) := by decide +kernel
theorem dX7_back_2 : decode cX7_back 2 = .ok (.lconst 0, 1) := by decide +kernel
theorem dX7_back_3 : decode cX7_back 3 = .ok (.lconst 1, 1) := by decide +kernel
theorem dX7_back_4 : decode cX7_back 4 = .ok (.invokestatic 73, 3) := by decide +kernel
theorem dX7_back_7 : decode cX7_back 7 = .ok (.ifCond .ne 5, 3) := by decide +kernel
theorem dX7_back_10 : decode cX7_back 10 = .ok (.iconst (-1), 1) := by decide +kernel
theorem dX7_back_11 : decode cX7_back 11 = .ok (.ireturn, 1) := by decide +kernel
theorem dX7_back_12 : decode cX7_back 12 = .ok (.aload_n 0, 1) := by decide +kernel
theorem dX7_back_13 : decode cX7_back 13 = .ok (.getfield 25, 3) := by decide +kernel
theorem dX7_back_16 : decode cX7_back 16 = .ok (.iload_n 1, 1) := by decide +kernel
theorem dX7_back_17 : decode cX7_back 17 = .ok (.baload, 1) := by decide +kernel
theorem dX7_back_18 : decode cX7_back 18 = .ok (.ifCond .ne 6, 3) := by decide +kernel
theorem dX7_back_21 : decode cX7_back 21 = .ok (.bipush (-2), 2) := by decide +kernel
theorem dX7_back_23 : decode cX7_back 23 = .ok (.ireturn, 1) := by decide +kernel
theorem dX7_back_24 : decode cX7_back 24 = .ok (.iconst 0, 1) := by decide +kernel
theorem dX7_back_25 : decode cX7_back 25 = .ok (.istore_n 2, 1) := by decide +kernel
theorem dX7_back_26 : decode cX7_back 26 = .ok (.iload_n 2, 1) := by decide +kernel
theorem dX7_back_27 : decode cX7_back 27 = .ok (.sipush 591, 3) := by decide +kernel
theorem dX7_back_30 : decode cX7_back 30 = .ok (.if_icmp .ge 27, 3) := by decide +kernel
theorem dX7_back_33 : decode cX7_back 33 = .ok (.aload_n 0, 1) := by decide +kernel
theorem dX7_back_34 : decode cX7_back 34 = .ok (.getfield 7, 3) := by decide +kernel
theorem dX7_back_37 : decode cX7_back 37 = .ok (.iload_n 2, 1) := by decide +kernel
theorem dX7_back_38 : decode cX7_back 38 = .ok (.aload_n 0, 1) := by decide +kernel
theorem dX7_back_39 : decode cX7_back 39 = .ok (.getfield 22, 3) := by decide +kernel
theorem dX7_back_42 : decode cX7_back 42 = .ok (.sipush 591, 3) := by decide +kernel
theorem dX7_back_45 : decode cX7_back 45 = .ok (.iload_n 1, 1) := by decide +kernel
theorem dX7_back_46 : decode cX7_back 46 = .ok (.imul, 1) := by decide +kernel
theorem dX7_back_47 : decode cX7_back 47 = .ok (.iload_n 2, 1) := by decide +kernel
theorem dX7_back_48 : decode cX7_back 48 = .ok (.iadd, 1) := by decide +kernel
theorem dX7_back_49 : decode cX7_back 49 = .ok (.iaload, 1) := by decide +kernel
theorem dX7_back_50 : decode cX7_back 50 = .ok (.iastore, 1) := by decide +kernel
theorem dX7_back_51 : decode cX7_back 51 = .ok (.iinc 2 1, 3) := by decide +kernel
theorem dX7_back_54 : decode cX7_back 54 = .ok (.goto (-28), 3) := by decide +kernel
theorem dX7_back_57 : decode cX7_back 57 = .ok (.aload_n 0, 1) := by decide +kernel
theorem dX7_back_58 : decode cX7_back 58 = .ok (.getfield 7, 3) := by decide +kernel
theorem dX7_back_61 : decode cX7_back 61 = .ok (.iconst 0, 1) := by decide +kernel
theorem dX7_back_62 : decode cX7_back 62 = .ok (.iaload, 1) := by decide +kernel
theorem dX7_back_63 : decode cX7_back 63 = .ok (.ireturn, 1) := by decide +kernel
end
section
theorem dL_law_0 : decode cL_law 0 = .ok (.new 7, 3) := by decide +kernel
theorem dL_law_3 : decode cL_law 3 = .ok (.dup, 1) := by decide +kernel
theorem dL_law_4 : decode cL_law 4 = .ok (.invokespecial 9, 3) := by decide +kernel
theorem dL_law_7 : decode cL_law 7 = .ok (.astore_n 1, 1) := by decide +kernel
theorem dL_law_8 : decode cL_law 8 = .ok (.new 10, 3) := by decide +kernel
theorem dL_law_11 : decode cL_law 11 = .ok (.dup, 1) := by decide +kernel
theorem dL_law_12 : decode cL_law 12 = .ok (.invokespecial 12, 3) := by decide +kernel
theorem dL_law_15 : decode cL_law 15 = .ok (.astore_n 2, 1) := by decide +kernel
theorem dL_law_16 : decode cL_law 16 = .ok (.iconst 0, 1) := by decide +kernel
theorem dL_law_17 : decode cL_law 17 = .ok (.istore_n 3, 1) := by decide +kernel
theorem dL_law_18 : decode cL_law 18 = .ok (.iload_n 3, 1) := by decide +kernel
theorem dL_law_19 : decode cL_law 19 = .ok (.aload_n 0, 1) := by decide +kernel
theorem dL_law_20 : decode cL_law 20 = .ok (.arraylength, 1) := by decide +kernel
theorem dL_law_21 : decode cL_law 21 = .ok (.iconst 5, 1) := by decide +kernel
theorem dL_law_22 : decode cL_law 22 = .ok (.isub, 1) := by decide +kernel
theorem dL_law_23 : decode cL_law 23 = .ok (.if_icmp .gt 859, 3) := by decide +kernel
theorem dL_law_26 : decode cL_law 26 = .ok (.aload_n 0, 1) := by decide +kernel
theorem dL_law_27 : decode cL_law 27 = .ok (.iload_n 3, 1) := by decide +kernel
theorem dL_law_28 : decode cL_law 28 = .ok (.iaload, 1) := by decide +kernel
theorem dL_law_29 : decode cL_law 29 = .ok (.bipush 31, 2) := by decide +kernel
theorem dL_law_31 : decode cL_law 31 = .ok (.iand, 1) := by decide +kernel
theorem dL_law_32 : decode cL_law 32 = .ok (.tableswitch 844 0 23 #[112, 135, 158, 171, 184, 207, 240, 283, 316, 359, 402, 445, 478, 511, 544, 567, 600, 633, 676, 689, 722, 745, 798, 821], 112) := by decide +kernel
theorem dL_law_144 : decode cL_law 144 = .ok (.aload_n 1, 1) := by decide +kernel
theorem dL_law_145 : decode cL_law 145 = .ok (.aload_n 0, 1) := by decide +kernel
theorem dL_law_146 : decode cL_law 146 = .ok (.iload_n 3, 1) := by decide +kernel
theorem dL_law_147 : decode cL_law 147 = .ok (.iconst 1, 1) := by decide +kernel
theorem dL_law_148 : decode cL_law 148 = .ok (.iadd, 1) := by decide +kernel
theorem dL_law_149 : decode cL_law 149 = .ok (.iaload, 1) := by decide +kernel
theorem dL_law_150 : decode cL_law 150 = .ok (.invokevirtual 13, 3) := by decide +kernel
theorem dL_law_153 : decode cL_law 153 = .ok (.aload_n 2, 1) := by decide +kernel
theorem dL_law_154 : decode cL_law 154 = .ok (.aload_n 0, 1) := by decide +kernel
theorem dL_law_155 : decode cL_law 155 = .ok (.iload_n 3, 1) := by decide +kernel
theorem dL_law_156 : decode cL_law 156 = .ok (.iconst 1, 1) := by decide +kernel
theorem dL_law_157 : decode cL_law 157 = .ok (.iadd, 1) := by decide +kernel
theorem dL_law_158 : decode cL_law 158 = .ok (.iaload, 1) := by decide +kernel
theorem dL_law_159 : decode cL_law 159 = .ok (.invokevirtual 17, 3) := by decide +kernel
theorem dL_law_162 : decode cL_law 162 = .ok (.if_icmp .eq 714, 3) := by decide +kernel
theorem dL_law_165 : decode cL_law 165 = .ok (.iconst 0, 1) := by decide +kernel
theorem dL_law_166 : decode cL_law 166 = .ok (.ireturn, 1) := by decide +kernel
theorem dL_law_167 : decode cL_law 167 = .ok (.aload_n 1, 1) := by decide +kernel
theorem dL_law_168 : decode cL_law 168 = .ok (.aload_n 0, 1) := by decide +kernel
theorem dL_law_169 : decode cL_law 169 = .ok (.iload_n 3, 1) := by decide +kernel
theorem dL_law_170 : decode cL_law 170 = .ok (.iconst 1, 1) := by decide +kernel
theorem dL_law_171 : decode cL_law 171 = .ok (.iadd, 1) := by decide +kernel
theorem dL_law_172 : decode cL_law 172 = .ok (.iaload, 1) := by decide +kernel
theorem dL_law_173 : decode cL_law 173 = .ok (.invokevirtual 18, 3) := by decide +kernel
theorem dL_law_176 : decode cL_law 176 = .ok (.aload_n 2, 1) := by decide +kernel
theorem dL_law_177 : decode cL_law 177 = .ok (.aload_n 0, 1) := by decide +kernel
theorem dL_law_178 : decode cL_law 178 = .ok (.iload_n 3, 1) := by decide +kernel
theorem dL_law_179 : decode cL_law 179 = .ok (.iconst 1, 1) := by decide +kernel
theorem dL_law_180 : decode cL_law 180 = .ok (.iadd, 1) := by decide +kernel
theorem dL_law_181 : decode cL_law 181 = .ok (.iaload, 1) := by decide +kernel
theorem dL_law_182 : decode cL_law 182 = .ok (.invokevirtual 21, 3) := by decide +kernel
theorem dL_law_185 : decode cL_law 185 = .ok (.if_icmp .eq 691, 3) := by decide +kernel
theorem dL_law_188 : decode cL_law 188 = .ok (.iconst 0, 1) := by decide +kernel
theorem dL_law_189 : decode cL_law 189 = .ok (.ireturn, 1) := by decide +kernel
theorem dL_law_190 : decode cL_law 190 = .ok (.aload_n 1, 1) := by decide +kernel
theorem dL_law_191 : decode cL_law 191 = .ok (.invokevirtual 22, 3) := by decide +kernel
theorem dL_law_194 : decode cL_law 194 = .ok (.aload_n 2, 1) := by decide +kernel
theorem dL_law_195 : decode cL_law 195 = .ok (.invokevirtual 26, 3) := by decide +kernel
theorem dL_law_198 : decode cL_law 198 = .ok (.if_icmp .eq 678, 3) := by decide +kernel
theorem dL_law_201 : decode cL_law 201 = .ok (.iconst 0, 1) := by decide +kernel
theorem dL_law_202 : decode cL_law 202 = .ok (.ireturn, 1) := by decide +kernel
theorem dL_law_203 : decode cL_law 203 = .ok (.aload_n 1, 1) := by decide +kernel
theorem dL_law_204 : decode cL_law 204 = .ok (.invokevirtual 27, 3) := by decide +kernel
theorem dL_law_207 : decode cL_law 207 = .ok (.aload_n 2, 1) := by decide +kernel
theorem dL_law_208 : decode cL_law 208 = .ok (.invokevirtual 30, 3) := by decide +kernel
theorem dL_law_211 : decode cL_law 211 = .ok (.if_icmp .eq 665, 3) := by decide +kernel
theorem dL_law_214 : decode cL_law 214 = .ok (.iconst 0, 1) := by decide +kernel
theorem dL_law_215 : decode cL_law 215 = .ok (.ireturn, 1) := by decide +kernel
theorem dL_law_216 : decode cL_law 216 = .ok (.aload_n 1, 1) := by decide +kernel
theorem dL_law_217 : decode cL_law 217 = .ok (.aload_n 0, 1) := by decide +kernel
theorem dL_law_218 : decode cL_law 218 = .ok (.iload_n 3, 1) := by decide +kernel
theorem dL_law_219 : decode cL_law 219 = .ok (.iconst 1, 1) := by decide +kernel
theorem dL_law_220 : decode cL_law 220 = .ok (.iadd, 1) := by decide +kernel
theorem dL_law_221 : decode cL_law 221 = .ok (.iaload, 1) := by decide +kernel
theorem dL_law_222 : decode cL_law 222 = .ok (.invokevirtual 31, 3) := by decide +kernel
theorem dL_law_225 : decode cL_law 225 = .ok (.aload_n 2, 1) := by decide +kernel
theorem dL_law_226 : decode cL_law 226 = .ok (.aload_n 0, 1) := by decide +kernel
theorem dL_law_227 : decode cL_law 227 = .ok (.iload_n 3, 1) := by decide +kernel
theorem dL_law_228 : decode cL_law 228 = .ok (.iconst 1, 1) := by decide +kernel
theorem dL_law_229 : decode cL_law 229 = .ok (.iadd, 1) := by decide +kernel
theorem dL_law_230 : decode cL_law 230 = .ok (.iaload, 1) := by decide +kernel
theorem dL_law_231 : decode cL_law 231 = .ok (.invokevirtual 34, 3) := by decide +kernel
theorem dL_law_234 : decode cL_law 234 = .ok (.if_icmp .eq 642, 3) := by decide +kernel
theorem dL_law_237 : decode cL_law 237 = .ok (.iconst 0, 1) := by decide +kernel
theorem dL_law_238 : decode cL_law 238 = .ok (.ireturn, 1) := by decide +kernel
theorem dL_law_239 : decode cL_law 239 = .ok (.aload_n 1, 1) := by decide +kernel
theorem dL_law_240 : decode cL_law 240 = .ok (.aload_n 0, 1) := by decide +kernel
theorem dL_law_241 : decode cL_law 241 = .ok (.iload_n 3, 1) := by decide +kernel
theorem dL_law_242 : decode cL_law 242 = .ok (.iconst 1, 1) := by decide +kernel
theorem dL_law_243 : decode cL_law 243 = .ok (.iadd, 1) := by decide +kernel
theorem dL_law_244 : decode cL_law 244 = .ok (.iaload, 1) := by decide +kernel
theorem dL_law_245 : decode cL_law 245 = .ok (.aload_n 0, 1) := by decide +kernel
theorem dL_law_246 : decode cL_law 246 = .ok (.iload_n 3, 1) := by decide +kernel
theorem dL_law_247 : decode cL_law 247 = .ok (.iconst 2, 1) := by decide +kernel
theorem dL_law_248 : decode cL_law 248 = .ok (.iadd, 1) := by decide +kernel
theorem dL_law_249 : decode cL_law 249 = .ok (.iaload, 1) := by decide +kernel
theorem dL_law_250 : decode cL_law 250 = .ok (.invokevirtual 35, 3) := by decide +kernel
theorem dL_law_253 : decode cL_law 253 = .ok (.aload_n 2, 1) := by decide +kernel
theorem dL_law_254 : decode cL_law 254 = .ok (.aload_n 0, 1) := by decide +kernel
theorem dL_law_255 : decode cL_law 255 = .ok (.iload_n 3, 1) := by decide +kernel
theorem dL_law_256 : decode cL_law 256 = .ok (.iconst 1, 1) := by decide +kernel
theorem dL_law_257 : decode cL_law 257 = .ok (.iadd, 1) := by decide +kernel
theorem dL_law_258 : decode cL_law 258 = .ok (.iaload, 1) := by decide +kernel
theorem dL_law_259 : decode cL_law 259 = .ok (.aload_n 0, 1) := by decide +kernel
theorem dL_law_260 : decode cL_law 260 = .ok (.iload_n 3, 1) := by decide +kernel
theorem dL_law_261 : decode cL_law 261 = .ok (.iconst 2, 1) := by decide +kernel
theorem dL_law_262 : decode cL_law 262 = .ok (.iadd, 1) := by decide +kernel
theorem dL_law_263 : decode cL_law 263 = .ok (.iaload, 1) := by decide +kernel
theorem dL_law_264 : decode cL_law 264 = .ok (.invokevirtual 39, 3) := by decide +kernel
theorem dL_law_267 : decode cL_law 267 = .ok (.if_icmp .eq 609, 3) := by decide +kernel
theorem dL_law_270 : decode cL_law 270 = .ok (.iconst 0, 1) := by decide +kernel
theorem dL_law_271 : decode cL_law 271 = .ok (.ireturn, 1) := by decide +kernel
theorem dL_law_272 : decode cL_law 272 = .ok (.aload_n 1, 1) := by decide +kernel
theorem dL_law_273 : decode cL_law 273 = .ok (.aload_n 0, 1) := by decide +kernel
theorem dL_law_274 : decode cL_law 274 = .ok (.iload_n 3, 1) := by decide +kernel
theorem dL_law_275 : decode cL_law 275 = .ok (.iconst 1, 1) := by decide +kernel
theorem dL_law_276 : decode cL_law 276 = .ok (.iadd, 1) := by decide +kernel
theorem dL_law_277 : decode cL_law 277 = .ok (.iaload, 1) := by decide +kernel
theorem dL_law_278 : decode cL_law 278 = .ok (.aload_n 0, 1) := by decide +kernel
theorem dL_law_279 : decode cL_law 279 = .ok (.iload_n 3, 1) := by decide +kernel
theorem dL_law_280 : decode cL_law 280 = .ok (.iconst 2, 1) := by decide +kernel
theorem dL_law_281 : decode cL_law 281 = .ok (.iadd, 1) := by decide +kernel
theorem dL_law_282 : decode cL_law 282 = .ok (.iaload, 1) := by decide +kernel
theorem dL_law_283 : decode cL_law 283 = .ok (.aload_n 0, 1) := by decide +kernel
theorem dL_law_284 : decode cL_law 284 = .ok (.iload_n 3, 1) := by decide +kernel
theorem dL_law_285 : decode cL_law 285 = .ok (.iconst 3, 1) := by decide +kernel
theorem dL_law_286 : decode cL_law 286 = .ok (.iadd, 1) := by decide +kernel
theorem dL_law_287 : decode cL_law 287 = .ok (.iaload, 1) := by decide +kernel
theorem dL_law_288 : decode cL_law 288 = .ok (.invokevirtual 40, 3) := by decide +kernel
theorem dL_law_291 : decode cL_law 291 = .ok (.aload_n 2, 1) := by decide +kernel
theorem dL_law_292 : decode cL_law 292 = .ok (.aload_n 0, 1) := by decide +kernel
theorem dL_law_293 : decode cL_law 293 = .ok (.iload_n 3, 1) := by decide +kernel
theorem dL_law_294 : decode cL_law 294 = .ok (.iconst 1, 1) := by decide +kernel
theorem dL_law_295 : decode cL_law 295 = .ok (.iadd, 1) := by decide +kernel
theorem dL_law_296 : decode cL_law 296 = .ok (.iaload, 1) := by decide +kernel
theorem dL_law_297 : decode cL_law 297 = .ok (.aload_n 0, 1) := by decide +kernel
theorem dL_law_298 : decode cL_law 298 = .ok (.iload_n 3, 1) := by decide +kernel
theorem dL_law_299 : decode cL_law 299 = .ok (.iconst 2, 1) := by decide +kernel
theorem dL_law_300 : decode cL_law 300 = .ok (.iadd, 1) := by decide +kernel
theorem dL_law_301 : decode cL_law 301 = .ok (.iaload, 1) := by decide +kernel
theorem dL_law_302 : decode cL_law 302 = .ok (.aload_n 0, 1) := by decide +kernel
theorem dL_law_303 : decode cL_law 303 = .ok (.iload_n 3, 1) := by decide +kernel
theorem dL_law_304 : decode cL_law 304 = .ok (.iconst 3, 1) := by decide +kernel
theorem dL_law_305 : decode cL_law 305 = .ok (.iadd, 1) := by decide +kernel
theorem dL_law_306 : decode cL_law 306 = .ok (.iaload, 1) := by decide +kernel
theorem dL_law_307 : decode cL_law 307 = .ok (.invokevirtual 44, 3) := by decide +kernel
theorem dL_law_310 : decode cL_law 310 = .ok (.if_icmp .eq 566, 3) := by decide +kernel
theorem dL_law_313 : decode cL_law 313 = .ok (.iconst 0, 1) := by decide +kernel
theorem dL_law_314 : decode cL_law 314 = .ok (.ireturn, 1) := by decide +kernel
theorem dL_law_315 : decode cL_law 315 = .ok (.aload_n 1, 1) := by decide +kernel
theorem dL_law_316 : decode cL_law 316 = .ok (.aload_n 0, 1) := by decide +kernel
theorem dL_law_317 : decode cL_law 317 = .ok (.iload_n 3, 1) := by decide +kernel
theorem dL_law_318 : decode cL_law 318 = .ok (.iconst 1, 1) := by decide +kernel
theorem dL_law_319 : decode cL_law 319 = .ok (.iadd, 1) := by decide +kernel
theorem dL_law_320 : decode cL_law 320 = .ok (.iaload, 1) := by decide +kernel
theorem dL_law_321 : decode cL_law 321 = .ok (.aload_n 0, 1) := by decide +kernel
theorem dL_law_322 : decode cL_law 322 = .ok (.iload_n 3, 1) := by decide +kernel
theorem dL_law_323 : decode cL_law 323 = .ok (.iconst 2, 1) := by decide +kernel
theorem dL_law_324 : decode cL_law 324 = .ok (.iadd, 1) := by decide +kernel
theorem dL_law_325 : decode cL_law 325 = .ok (.iaload, 1) := by decide +kernel
theorem dL_law_326 : decode cL_law 326 = .ok (.invokevirtual 45, 3) := by decide +kernel
theorem dL_law_329 : decode cL_law 329 = .ok (.aload_n 2, 1) := by decide +kernel
theorem dL_law_330 : decode cL_law 330 = .ok (.aload_n 0, 1) := by decide +kernel
theorem dL_law_331 : decode cL_law 331 = .ok (.iload_n 3, 1) := by decide +kernel
theorem dL_law_332 : decode cL_law 332 = .ok (.iconst 1, 1) := by decide +kernel
theorem dL_law_333 : decode cL_law 333 = .ok (.iadd, 1) := by decide +kernel
theorem dL_law_334 : decode cL_law 334 = .ok (.iaload, 1) := by decide +kernel
theorem dL_law_335 : decode cL_law 335 = .ok (.aload_n 0, 1) := by decide +kernel
theorem dL_law_336 : decode cL_law 336 = .ok (.iload_n 3, 1) := by decide +kernel
theorem dL_law_337 : decode cL_law 337 = .ok (.iconst 2, 1) := by decide +kernel
theorem dL_law_338 : decode cL_law 338 = .ok (.iadd, 1) := by decide +kernel
theorem dL_law_339 : decode cL_law 339 = .ok (.iaload, 1) := by decide +kernel
theorem dL_law_340 : decode cL_law 340 = .ok (.invokevirtual 48, 3) := by decide +kernel
theorem dL_law_343 : decode cL_law 343 = .ok (.if_icmp .eq 533, 3) := by decide +kernel
theorem dL_law_346 : decode cL_law 346 = .ok (.iconst 0, 1) := by decide +kernel
theorem dL_law_347 : decode cL_law 347 = .ok (.ireturn, 1) := by decide +kernel
theorem dL_law_348 : decode cL_law 348 = .ok (.aload_n 1, 1) := by decide +kernel
theorem dL_law_349 : decode cL_law 349 = .ok (.aload_n 0, 1) := by decide +kernel
theorem dL_law_350 : decode cL_law 350 = .ok (.iload_n 3, 1) := by decide +kernel
theorem dL_law_351 : decode cL_law 351 = .ok (.iconst 1, 1) := by decide +kernel
theorem dL_law_352 : decode cL_law 352 = .ok (.iadd, 1) := by decide +kernel
theorem dL_law_353 : decode cL_law 353 = .ok (.iaload, 1) := by decide +kernel
theorem dL_law_354 : decode cL_law 354 = .ok (.aload_n 0, 1) := by decide +kernel
theorem dL_law_355 : decode cL_law 355 = .ok (.iload_n 3, 1) := by decide +kernel
theorem dL_law_356 : decode cL_law 356 = .ok (.iconst 2, 1) := by decide +kernel
theorem dL_law_357 : decode cL_law 357 = .ok (.iadd, 1) := by decide +kernel
theorem dL_law_358 : decode cL_law 358 = .ok (.iaload, 1) := by decide +kernel
theorem dL_law_359 : decode cL_law 359 = .ok (.aload_n 0, 1) := by decide +kernel
theorem dL_law_360 : decode cL_law 360 = .ok (.iload_n 3, 1) := by decide +kernel
theorem dL_law_361 : decode cL_law 361 = .ok (.iconst 3, 1) := by decide +kernel
theorem dL_law_362 : decode cL_law 362 = .ok (.iadd, 1) := by decide +kernel
theorem dL_law_363 : decode cL_law 363 = .ok (.iaload, 1) := by decide +kernel
theorem dL_law_364 : decode cL_law 364 = .ok (.invokevirtual 49, 3) := by decide +kernel
theorem dL_law_367 : decode cL_law 367 = .ok (.aload_n 2, 1) := by decide +kernel
theorem dL_law_368 : decode cL_law 368 = .ok (.aload_n 0, 1) := by decide +kernel
theorem dL_law_369 : decode cL_law 369 = .ok (.iload_n 3, 1) := by decide +kernel
theorem dL_law_370 : decode cL_law 370 = .ok (.iconst 1, 1) := by decide +kernel
theorem dL_law_371 : decode cL_law 371 = .ok (.iadd, 1) := by decide +kernel
theorem dL_law_372 : decode cL_law 372 = .ok (.iaload, 1) := by decide +kernel
theorem dL_law_373 : decode cL_law 373 = .ok (.aload_n 0, 1) := by decide +kernel
theorem dL_law_374 : decode cL_law 374 = .ok (.iload_n 3, 1) := by decide +kernel
theorem dL_law_375 : decode cL_law 375 = .ok (.iconst 2, 1) := by decide +kernel
theorem dL_law_376 : decode cL_law 376 = .ok (.iadd, 1) := by decide +kernel
theorem dL_law_377 : decode cL_law 377 = .ok (.iaload, 1) := by decide +kernel
theorem dL_law_378 : decode cL_law 378 = .ok (.aload_n 0, 1) := by decide +kernel
theorem dL_law_379 : decode cL_law 379 = .ok (.iload_n 3, 1) := by decide +kernel
theorem dL_law_380 : decode cL_law 380 = .ok (.iconst 3, 1) := by decide +kernel
theorem dL_law_381 : decode cL_law 381 = .ok (.iadd, 1) := by decide +kernel
theorem dL_law_382 : decode cL_law 382 = .ok (.iaload, 1) := by decide +kernel
theorem dL_law_383 : decode cL_law 383 = .ok (.invokevirtual 52, 3) := by decide +kernel
theorem dL_law_386 : decode cL_law 386 = .ok (.if_icmp .eq 490, 3) := by decide +kernel
theorem dL_law_389 : decode cL_law 389 = .ok (.iconst 0, 1) := by decide +kernel
theorem dL_law_390 : decode cL_law 390 = .ok (.ireturn, 1) := by decide +kernel
theorem dL_law_391 : decode cL_law 391 = .ok (.aload_n 1, 1) := by decide +kernel
theorem dL_law_392 : decode cL_law 392 = .ok (.aload_n 0, 1) := by decide +kernel
theorem dL_law_393 : decode cL_law 393 = .ok (.iload_n 3, 1) := by decide +kernel
theorem dL_law_394 : decode cL_law 394 = .ok (.iconst 1, 1) := by decide +kernel
theorem dL_law_395 : decode cL_law 395 = .ok (.iadd, 1) := by decide +kernel
theorem dL_law_396 : decode cL_law 396 = .ok (.iaload, 1) := by decide +kernel
theorem dL_law_397 : decode cL_law 397 = .ok (.aload_n 0, 1) := by decide +kernel
theorem dL_law_398 : decode cL_law 398 = .ok (.iload_n 3, 1) := by decide +kernel
theorem dL_law_399 : decode cL_law 399 = .ok (.iconst 2, 1) := by decide +kernel
theorem dL_law_400 : decode cL_law 400 = .ok (.iadd, 1) := by decide +kernel
theorem dL_law_401 : decode cL_law 401 = .ok (.iaload, 1) := by decide +kernel
theorem dL_law_402 : decode cL_law 402 = .ok (.aload_n 0, 1) := by decide +kernel
theorem dL_law_403 : decode cL_law 403 = .ok (.iload_n 3, 1) := by decide +kernel
theorem dL_law_404 : decode cL_law 404 = .ok (.iconst 3, 1) := by decide +kernel
theorem dL_law_405 : decode cL_law 405 = .ok (.iadd, 1) := by decide +kernel
theorem dL_law_406 : decode cL_law 406 = .ok (.iaload, 1) := by decide +kernel
theorem dL_law_407 : decode cL_law 407 = .ok (.invokevirtual 53, 3) := by decide +kernel
theorem dL_law_410 : decode cL_law 410 = .ok (.aload_n 2, 1) := by decide +kernel
theorem dL_law_411 : decode cL_law 411 = .ok (.aload_n 0, 1) := by decide +kernel
theorem dL_law_412 : decode cL_law 412 = .ok (.iload_n 3, 1) := by decide +kernel
theorem dL_law_413 : decode cL_law 413 = .ok (.iconst 1, 1) := by decide +kernel
theorem dL_law_414 : decode cL_law 414 = .ok (.iadd, 1) := by decide +kernel
theorem dL_law_415 : decode cL_law 415 = .ok (.iaload, 1) := by decide +kernel
theorem dL_law_416 : decode cL_law 416 = .ok (.aload_n 0, 1) := by decide +kernel
theorem dL_law_417 : decode cL_law 417 = .ok (.iload_n 3, 1) := by decide +kernel
theorem dL_law_418 : decode cL_law 418 = .ok (.iconst 2, 1) := by decide +kernel
theorem dL_law_419 : decode cL_law 419 = .ok (.iadd, 1) := by decide +kernel
theorem dL_law_420 : decode cL_law 420 = .ok (.iaload, 1) := by decide +kernel
theorem dL_law_421 : decode cL_law 421 = .ok (.aload_n 0, 1) := by decide +kernel
theorem dL_law_422 : decode cL_law 422 = .ok (.iload_n 3, 1) := by decide +kernel
theorem dL_law_423 : decode cL_law 423 = .ok (.iconst 3, 1) := by decide +kernel
theorem dL_law_424 : decode cL_law 424 = .ok (.iadd, 1) := by decide +kernel
theorem dL_law_425 : decode cL_law 425 = .ok (.iaload, 1) := by decide +kernel
theorem dL_law_426 : decode cL_law 426 = .ok (.invokevirtual 56, 3) := by decide +kernel
theorem dL_law_429 : decode cL_law 429 = .ok (.if_icmp .eq 447, 3) := by decide +kernel
theorem dL_law_432 : decode cL_law 432 = .ok (.iconst 0, 1) := by decide +kernel
theorem dL_law_433 : decode cL_law 433 = .ok (.ireturn, 1) := by decide +kernel
theorem dL_law_434 : decode cL_law 434 = .ok (.aload_n 1, 1) := by decide +kernel
theorem dL_law_435 : decode cL_law 435 = .ok (.aload_n 0, 1) := by decide +kernel
theorem dL_law_436 : decode cL_law 436 = .ok (.iload_n 3, 1) := by decide +kernel
theorem dL_law_437 : decode cL_law 437 = .ok (.iconst 1, 1) := by decide +kernel
theorem dL_law_438 : decode cL_law 438 = .ok (.iadd, 1) := by decide +kernel
theorem dL_law_439 : decode cL_law 439 = .ok (.iaload, 1) := by decide +kernel
theorem dL_law_440 : decode cL_law 440 = .ok (.aload_n 0, 1) := by decide +kernel
theorem dL_law_441 : decode cL_law 441 = .ok (.iload_n 3, 1) := by decide +kernel
theorem dL_law_442 : decode cL_law 442 = .ok (.iconst 2, 1) := by decide +kernel
theorem dL_law_443 : decode cL_law 443 = .ok (.iadd, 1) := by decide +kernel
theorem dL_law_444 : decode cL_law 444 = .ok (.iaload, 1) := by decide +kernel
theorem dL_law_445 : decode cL_law 445 = .ok (.aload_n 0, 1) := by decide +kernel
theorem dL_law_446 : decode cL_law 446 = .ok (.iload_n 3, 1) := by decide +kernel
theorem dL_law_447 : decode cL_law 447 = .ok (.iconst 3, 1) := by decide +kernel
theorem dL_law_448 : decode cL_law 448 = .ok (.iadd, 1) := by decide +kernel
theorem dL_law_449 : decode cL_law 449 = .ok (.iaload, 1) := by decide +kernel
theorem dL_law_450 : decode cL_law 450 = .ok (.invokevirtual 57, 3) := by decide +kernel
theorem dL_law_453 : decode cL_law 453 = .ok (.aload_n 2, 1) := by decide +kernel
theorem dL_law_454 : decode cL_law 454 = .ok (.aload_n 0, 1) := by decide +kernel
theorem dL_law_455 : decode cL_law 455 = .ok (.iload_n 3, 1) := by decide +kernel
theorem dL_law_456 : decode cL_law 456 = .ok (.iconst 1, 1) := by decide +kernel
theorem dL_law_457 : decode cL_law 457 = .ok (.iadd, 1) := by decide +kernel
theorem dL_law_458 : decode cL_law 458 = .ok (.iaload, 1) := by decide +kernel
theorem dL_law_459 : decode cL_law 459 = .ok (.aload_n 0, 1) := by decide +kernel
theorem dL_law_460 : decode cL_law 460 = .ok (.iload_n 3, 1) := by decide +kernel
theorem dL_law_461 : decode cL_law 461 = .ok (.iconst 2, 1) := by decide +kernel
theorem dL_law_462 : decode cL_law 462 = .ok (.iadd, 1) := by decide +kernel
theorem dL_law_463 : decode cL_law 463 = .ok (.iaload, 1) := by decide +kernel
theorem dL_law_464 : decode cL_law 464 = .ok (.aload_n 0, 1) := by decide +kernel
theorem dL_law_465 : decode cL_law 465 = .ok (.iload_n 3, 1) := by decide +kernel
theorem dL_law_466 : decode cL_law 466 = .ok (.iconst 3, 1) := by decide +kernel
theorem dL_law_467 : decode cL_law 467 = .ok (.iadd, 1) := by decide +kernel
theorem dL_law_468 : decode cL_law 468 = .ok (.iaload, 1) := by decide +kernel
theorem dL_law_469 : decode cL_law 469 = .ok (.invokevirtual 60, 3) := by decide +kernel
theorem dL_law_472 : decode cL_law 472 = .ok (.if_icmp .eq 404, 3) := by decide +kernel
theorem dL_law_475 : decode cL_law 475 = .ok (.iconst 0, 1) := by decide +kernel
theorem dL_law_476 : decode cL_law 476 = .ok (.ireturn, 1) := by decide +kernel
theorem dL_law_477 : decode cL_law 477 = .ok (.aload_n 1, 1) := by decide +kernel
theorem dL_law_478 : decode cL_law 478 = .ok (.aload_n 0, 1) := by decide +kernel
theorem dL_law_479 : decode cL_law 479 = .ok (.iload_n 3, 1) := by decide +kernel
theorem dL_law_480 : decode cL_law 480 = .ok (.iconst 1, 1) := by decide +kernel
theorem dL_law_481 : decode cL_law 481 = .ok (.iadd, 1) := by decide +kernel
theorem dL_law_482 : decode cL_law 482 = .ok (.iaload, 1) := by decide +kernel
theorem dL_law_483 : decode cL_law 483 = .ok (.aload_n 0, 1) := by decide +kernel
theorem dL_law_484 : decode cL_law 484 = .ok (.iload_n 3, 1) := by decide +kernel
theorem dL_law_485 : decode cL_law 485 = .ok (.iconst 2, 1) := by decide +kernel
theorem dL_law_486 : decode cL_law 486 = .ok (.iadd, 1) := by decide +kernel
theorem dL_law_487 : decode cL_law 487 = .ok (.iaload, 1) := by decide +kernel
theorem dL_law_488 : decode cL_law 488 = .ok (.invokevirtual 61, 3) := by decide +kernel
theorem dL_law_491 : decode cL_law 491 = .ok (.aload_n 2, 1) := by decide +kernel
theorem dL_law_492 : decode cL_law 492 = .ok (.aload_n 0, 1) := by decide +kernel
theorem dL_law_493 : decode cL_law 493 = .ok (.iload_n 3, 1) := by decide +kernel
theorem dL_law_494 : decode cL_law 494 = .ok (.iconst 1, 1) := by decide +kernel
theorem dL_law_495 : decode cL_law 495 = .ok (.iadd, 1) := by decide +kernel
theorem dL_law_496 : decode cL_law 496 = .ok (.iaload, 1) := by decide +kernel
theorem dL_law_497 : decode cL_law 497 = .ok (.aload_n 0, 1) := by decide +kernel
theorem dL_law_498 : decode cL_law 498 = .ok (.iload_n 3, 1) := by decide +kernel
theorem dL_law_499 : decode cL_law 499 = .ok (.iconst 2, 1) := by decide +kernel
theorem dL_law_500 : decode cL_law 500 = .ok (.iadd, 1) := by decide +kernel
theorem dL_law_501 : decode cL_law 501 = .ok (.iaload, 1) := by decide +kernel
theorem dL_law_502 : decode cL_law 502 = .ok (.invokevirtual 64, 3) := by decide +kernel
theorem dL_law_505 : decode cL_law 505 = .ok (.if_icmp .eq 371, 3) := by decide +kernel
theorem dL_law_508 : decode cL_law 508 = .ok (.iconst 0, 1) := by decide +kernel
theorem dL_law_509 : decode cL_law 509 = .ok (.ireturn, 1) := by decide +kernel
theorem dL_law_510 : decode cL_law 510 = .ok (.aload_n 1, 1) := by decide +kernel
theorem dL_law_511 : decode cL_law 511 = .ok (.aload_n 0, 1) := by decide +kernel
theorem dL_law_512 : decode cL_law 512 = .ok (.iload_n 3, 1) := by decide +kernel
theorem dL_law_513 : decode cL_law 513 = .ok (.iconst 1, 1) := by decide +kernel
theorem dL_law_514 : decode cL_law 514 = .ok (.iadd, 1) := by decide +kernel
theorem dL_law_515 : decode cL_law 515 = .ok (.iaload, 1) := by decide +kernel
theorem dL_law_516 : decode cL_law 516 = .ok (.aload_n 0, 1) := by decide +kernel
theorem dL_law_517 : decode cL_law 517 = .ok (.iload_n 3, 1) := by decide +kernel
theorem dL_law_518 : decode cL_law 518 = .ok (.iconst 2, 1) := by decide +kernel
theorem dL_law_519 : decode cL_law 519 = .ok (.iadd, 1) := by decide +kernel
theorem dL_law_520 : decode cL_law 520 = .ok (.iaload, 1) := by decide +kernel
theorem dL_law_521 : decode cL_law 521 = .ok (.invokevirtual 65, 3) := by decide +kernel
theorem dL_law_524 : decode cL_law 524 = .ok (.aload_n 2, 1) := by decide +kernel
theorem dL_law_525 : decode cL_law 525 = .ok (.aload_n 0, 1) := by decide +kernel
theorem dL_law_526 : decode cL_law 526 = .ok (.iload_n 3, 1) := by decide +kernel
theorem dL_law_527 : decode cL_law 527 = .ok (.iconst 1, 1) := by decide +kernel
theorem dL_law_528 : decode cL_law 528 = .ok (.iadd, 1) := by decide +kernel
theorem dL_law_529 : decode cL_law 529 = .ok (.iaload, 1) := by decide +kernel
theorem dL_law_530 : decode cL_law 530 = .ok (.aload_n 0, 1) := by decide +kernel
theorem dL_law_531 : decode cL_law 531 = .ok (.iload_n 3, 1) := by decide +kernel
theorem dL_law_532 : decode cL_law 532 = .ok (.iconst 2, 1) := by decide +kernel
theorem dL_law_533 : decode cL_law 533 = .ok (.iadd, 1) := by decide +kernel
theorem dL_law_534 : decode cL_law 534 = .ok (.iaload, 1) := by decide +kernel
theorem dL_law_535 : decode cL_law 535 = .ok (.invokevirtual 68, 3) := by decide +kernel
theorem dL_law_538 : decode cL_law 538 = .ok (.if_icmp .eq 338, 3) := by decide +kernel
theorem dL_law_541 : decode cL_law 541 = .ok (.iconst 0, 1) := by decide +kernel
theorem dL_law_542 : decode cL_law 542 = .ok (.ireturn, 1) := by decide +kernel
theorem dL_law_543 : decode cL_law 543 = .ok (.aload_n 1, 1) := by decide +kernel
theorem dL_law_544 : decode cL_law 544 = .ok (.aload_n 0, 1) := by decide +kernel
theorem dL_law_545 : decode cL_law 545 = .ok (.iload_n 3, 1) := by decide +kernel
theorem dL_law_546 : decode cL_law 546 = .ok (.iconst 1, 1) := by decide +kernel
theorem dL_law_547 : decode cL_law 547 = .ok (.iadd, 1) := by decide +kernel
theorem dL_law_548 : decode cL_law 548 = .ok (.iaload, 1) := by decide +kernel
theorem dL_law_549 : decode cL_law 549 = .ok (.aload_n 0, 1) := by decide +kernel
theorem dL_law_550 : decode cL_law 550 = .ok (.iload_n 3, 1) := by decide +kernel
theorem dL_law_551 : decode cL_law 551 = .ok (.iconst 2, 1) := by decide +kernel
theorem dL_law_552 : decode cL_law 552 = .ok (.iadd, 1) := by decide +kernel
theorem dL_law_553 : decode cL_law 553 = .ok (.iaload, 1) := by decide +kernel
theorem dL_law_554 : decode cL_law 554 = .ok (.invokevirtual 69, 3) := by decide +kernel
theorem dL_law_557 : decode cL_law 557 = .ok (.aload_n 2, 1) := by decide +kernel
theorem dL_law_558 : decode cL_law 558 = .ok (.aload_n 0, 1) := by decide +kernel
theorem dL_law_559 : decode cL_law 559 = .ok (.iload_n 3, 1) := by decide +kernel
theorem dL_law_560 : decode cL_law 560 = .ok (.iconst 1, 1) := by decide +kernel
theorem dL_law_561 : decode cL_law 561 = .ok (.iadd, 1) := by decide +kernel
theorem dL_law_562 : decode cL_law 562 = .ok (.iaload, 1) := by decide +kernel
theorem dL_law_563 : decode cL_law 563 = .ok (.aload_n 0, 1) := by decide +kernel
theorem dL_law_564 : decode cL_law 564 = .ok (.iload_n 3, 1) := by decide +kernel
theorem dL_law_565 : decode cL_law 565 = .ok (.iconst 2, 1) := by decide +kernel
theorem dL_law_566 : decode cL_law 566 = .ok (.iadd, 1) := by decide +kernel
theorem dL_law_567 : decode cL_law 567 = .ok (.iaload, 1) := by decide +kernel
theorem dL_law_568 : decode cL_law 568 = .ok (.invokevirtual 72, 3) := by decide +kernel
theorem dL_law_571 : decode cL_law 571 = .ok (.if_icmp .eq 305, 3) := by decide +kernel
theorem dL_law_574 : decode cL_law 574 = .ok (.iconst 0, 1) := by decide +kernel
theorem dL_law_575 : decode cL_law 575 = .ok (.ireturn, 1) := by decide +kernel
theorem dL_law_576 : decode cL_law 576 = .ok (.aload_n 1, 1) := by decide +kernel
theorem dL_law_577 : decode cL_law 577 = .ok (.aload_n 0, 1) := by decide +kernel
theorem dL_law_578 : decode cL_law 578 = .ok (.iload_n 3, 1) := by decide +kernel
theorem dL_law_579 : decode cL_law 579 = .ok (.iconst 1, 1) := by decide +kernel
theorem dL_law_580 : decode cL_law 580 = .ok (.iadd, 1) := by decide +kernel
theorem dL_law_581 : decode cL_law 581 = .ok (.iaload, 1) := by decide +kernel
theorem dL_law_582 : decode cL_law 582 = .ok (.invokevirtual 73, 3) := by decide +kernel
theorem dL_law_585 : decode cL_law 585 = .ok (.aload_n 2, 1) := by decide +kernel
theorem dL_law_586 : decode cL_law 586 = .ok (.aload_n 0, 1) := by decide +kernel
theorem dL_law_587 : decode cL_law 587 = .ok (.iload_n 3, 1) := by decide +kernel
theorem dL_law_588 : decode cL_law 588 = .ok (.iconst 1, 1) := by decide +kernel
theorem dL_law_589 : decode cL_law 589 = .ok (.iadd, 1) := by decide +kernel
theorem dL_law_590 : decode cL_law 590 = .ok (.iaload, 1) := by decide +kernel
theorem dL_law_591 : decode cL_law 591 = .ok (.invokevirtual 76, 3) := by decide +kernel
theorem dL_law_594 : decode cL_law 594 = .ok (.if_icmp .eq 282, 3) := by decide +kernel
theorem dL_law_597 : decode cL_law 597 = .ok (.iconst 0, 1) := by decide +kernel
theorem dL_law_598 : decode cL_law 598 = .ok (.ireturn, 1) := by decide +kernel
theorem dL_law_599 : decode cL_law 599 = .ok (.aload_n 1, 1) := by decide +kernel
theorem dL_law_600 : decode cL_law 600 = .ok (.aload_n 0, 1) := by decide +kernel
theorem dL_law_601 : decode cL_law 601 = .ok (.iload_n 3, 1) := by decide +kernel
theorem dL_law_602 : decode cL_law 602 = .ok (.iconst 1, 1) := by decide +kernel
theorem dL_law_603 : decode cL_law 603 = .ok (.iadd, 1) := by decide +kernel
theorem dL_law_604 : decode cL_law 604 = .ok (.iaload, 1) := by decide +kernel
theorem dL_law_605 : decode cL_law 605 = .ok (.aload_n 0, 1) := by decide +kernel
theorem dL_law_606 : decode cL_law 606 = .ok (.iload_n 3, 1) := by decide +kernel
theorem dL_law_607 : decode cL_law 607 = .ok (.iconst 2, 1) := by decide +kernel
theorem dL_law_608 : decode cL_law 608 = .ok (.iadd, 1) := by decide +kernel
theorem dL_law_609 : decode cL_law 609 = .ok (.iaload, 1) := by decide +kernel
theorem dL_law_610 : decode cL_law 610 = .ok (.invokevirtual 77, 3) := by decide +kernel
theorem dL_law_613 : decode cL_law 613 = .ok (.aload_n 2, 1) := by decide +kernel
theorem dL_law_614 : decode cL_law 614 = .ok (.aload_n 0, 1) := by decide +kernel
theorem dL_law_615 : decode cL_law 615 = .ok (.iload_n 3, 1) := by decide +kernel
theorem dL_law_616 : decode cL_law 616 = .ok (.iconst 1, 1) := by decide +kernel
theorem dL_law_617 : decode cL_law 617 = .ok (.iadd, 1) := by decide +kernel
theorem dL_law_618 : decode cL_law 618 = .ok (.iaload, 1) := by decide +kernel
theorem dL_law_619 : decode cL_law 619 = .ok (.aload_n 0, 1) := by decide +kernel
theorem dL_law_620 : decode cL_law 620 = .ok (.iload_n 3, 1) := by decide +kernel
theorem dL_law_621 : decode cL_law 621 = .ok (.iconst 2, 1) := by decide +kernel
theorem dL_law_622 : decode cL_law 622 = .ok (.iadd, 1) := by decide +kernel
theorem dL_law_623 : decode cL_law 623 = .ok (.iaload, 1) := by decide +kernel
theorem dL_law_624 : decode cL_law 624 = .ok (.invokevirtual 80, 3) := by decide +kernel
theorem dL_law_627 : decode cL_law 627 = .ok (.if_icmp .eq 249, 3) := by decide +kernel
theorem dL_law_630 : decode cL_law 630 = .ok (.iconst 0, 1) := by decide +kernel
theorem dL_law_631 : decode cL_law 631 = .ok (.ireturn, 1) := by decide +kernel
theorem dL_law_632 : decode cL_law 632 = .ok (.aload_n 1, 1) := by decide +kernel
theorem dL_law_633 : decode cL_law 633 = .ok (.aload_n 0, 1) := by decide +kernel
theorem dL_law_634 : decode cL_law 634 = .ok (.iload_n 3, 1) := by decide +kernel
theorem dL_law_635 : decode cL_law 635 = .ok (.iconst 1, 1) := by decide +kernel
theorem dL_law_636 : decode cL_law 636 = .ok (.iadd, 1) := by decide +kernel
theorem dL_law_637 : decode cL_law 637 = .ok (.iaload, 1) := by decide +kernel
theorem dL_law_638 : decode cL_law 638 = .ok (.aload_n 0, 1) := by decide +kernel
theorem dL_law_639 : decode cL_law 639 = .ok (.iload_n 3, 1) := by decide +kernel
theorem dL_law_640 : decode cL_law 640 = .ok (.iconst 2, 1) := by decide +kernel
theorem dL_law_641 : decode cL_law 641 = .ok (.iadd, 1) := by decide +kernel
theorem dL_law_642 : decode cL_law 642 = .ok (.iaload, 1) := by decide +kernel
theorem dL_law_643 : decode cL_law 643 = .ok (.invokevirtual 81, 3) := by decide +kernel
theorem dL_law_646 : decode cL_law 646 = .ok (.aload_n 2, 1) := by decide +kernel
theorem dL_law_647 : decode cL_law 647 = .ok (.aload_n 0, 1) := by decide +kernel
theorem dL_law_648 : decode cL_law 648 = .ok (.iload_n 3, 1) := by decide +kernel
theorem dL_law_649 : decode cL_law 649 = .ok (.iconst 1, 1) := by decide +kernel
theorem dL_law_650 : decode cL_law 650 = .ok (.iadd, 1) := by decide +kernel
theorem dL_law_651 : decode cL_law 651 = .ok (.iaload, 1) := by decide +kernel
theorem dL_law_652 : decode cL_law 652 = .ok (.aload_n 0, 1) := by decide +kernel
theorem dL_law_653 : decode cL_law 653 = .ok (.iload_n 3, 1) := by decide +kernel
theorem dL_law_654 : decode cL_law 654 = .ok (.iconst 2, 1) := by decide +kernel
theorem dL_law_655 : decode cL_law 655 = .ok (.iadd, 1) := by decide +kernel
theorem dL_law_656 : decode cL_law 656 = .ok (.iaload, 1) := by decide +kernel
theorem dL_law_657 : decode cL_law 657 = .ok (.invokevirtual 84, 3) := by decide +kernel
theorem dL_law_660 : decode cL_law 660 = .ok (.if_icmp .eq 216, 3) := by decide +kernel
theorem dL_law_663 : decode cL_law 663 = .ok (.iconst 0, 1) := by decide +kernel
theorem dL_law_664 : decode cL_law 664 = .ok (.ireturn, 1) := by decide +kernel
theorem dL_law_665 : decode cL_law 665 = .ok (.aload_n 1, 1) := by decide +kernel
theorem dL_law_666 : decode cL_law 666 = .ok (.aload_n 0, 1) := by decide +kernel
theorem dL_law_667 : decode cL_law 667 = .ok (.iload_n 3, 1) := by decide +kernel
theorem dL_law_668 : decode cL_law 668 = .ok (.iconst 1, 1) := by decide +kernel
theorem dL_law_669 : decode cL_law 669 = .ok (.iadd, 1) := by decide +kernel
theorem dL_law_670 : decode cL_law 670 = .ok (.iaload, 1) := by decide +kernel
theorem dL_law_671 : decode cL_law 671 = .ok (.aload_n 0, 1) := by decide +kernel
theorem dL_law_672 : decode cL_law 672 = .ok (.iload_n 3, 1) := by decide +kernel
theorem dL_law_673 : decode cL_law 673 = .ok (.iconst 2, 1) := by decide +kernel
theorem dL_law_674 : decode cL_law 674 = .ok (.iadd, 1) := by decide +kernel
theorem dL_law_675 : decode cL_law 675 = .ok (.iaload, 1) := by decide +kernel
theorem dL_law_676 : decode cL_law 676 = .ok (.aload_n 0, 1) := by decide +kernel
theorem dL_law_677 : decode cL_law 677 = .ok (.iload_n 3, 1) := by decide +kernel
theorem dL_law_678 : decode cL_law 678 = .ok (.iconst 3, 1) := by decide +kernel
theorem dL_law_679 : decode cL_law 679 = .ok (.iadd, 1) := by decide +kernel
theorem dL_law_680 : decode cL_law 680 = .ok (.iaload, 1) := by decide +kernel
theorem dL_law_681 : decode cL_law 681 = .ok (.invokevirtual 85, 3) := by decide +kernel
theorem dL_law_684 : decode cL_law 684 = .ok (.aload_n 2, 1) := by decide +kernel
theorem dL_law_685 : decode cL_law 685 = .ok (.aload_n 0, 1) := by decide +kernel
theorem dL_law_686 : decode cL_law 686 = .ok (.iload_n 3, 1) := by decide +kernel
theorem dL_law_687 : decode cL_law 687 = .ok (.iconst 1, 1) := by decide +kernel
theorem dL_law_688 : decode cL_law 688 = .ok (.iadd, 1) := by decide +kernel
theorem dL_law_689 : decode cL_law 689 = .ok (.iaload, 1) := by decide +kernel
theorem dL_law_690 : decode cL_law 690 = .ok (.aload_n 0, 1) := by decide +kernel
theorem dL_law_691 : decode cL_law 691 = .ok (.iload_n 3, 1) := by decide +kernel
theorem dL_law_692 : decode cL_law 692 = .ok (.iconst 2, 1) := by decide +kernel
theorem dL_law_693 : decode cL_law 693 = .ok (.iadd, 1) := by decide +kernel
theorem dL_law_694 : decode cL_law 694 = .ok (.iaload, 1) := by decide +kernel
theorem dL_law_695 : decode cL_law 695 = .ok (.aload_n 0, 1) := by decide +kernel
theorem dL_law_696 : decode cL_law 696 = .ok (.iload_n 3, 1) := by decide +kernel
theorem dL_law_697 : decode cL_law 697 = .ok (.iconst 3, 1) := by decide +kernel
theorem dL_law_698 : decode cL_law 698 = .ok (.iadd, 1) := by decide +kernel
theorem dL_law_699 : decode cL_law 699 = .ok (.iaload, 1) := by decide +kernel
theorem dL_law_700 : decode cL_law 700 = .ok (.invokevirtual 88, 3) := by decide +kernel
theorem dL_law_703 : decode cL_law 703 = .ok (.if_icmp .eq 173, 3) := by decide +kernel
theorem dL_law_706 : decode cL_law 706 = .ok (.iconst 0, 1) := by decide +kernel
theorem dL_law_707 : decode cL_law 707 = .ok (.ireturn, 1) := by decide +kernel
theorem dL_law_708 : decode cL_law 708 = .ok (.aload_n 1, 1) := by decide +kernel
theorem dL_law_709 : decode cL_law 709 = .ok (.invokevirtual 89, 3) := by decide +kernel
theorem dL_law_712 : decode cL_law 712 = .ok (.aload_n 2, 1) := by decide +kernel
theorem dL_law_713 : decode cL_law 713 = .ok (.invokevirtual 92, 3) := by decide +kernel
theorem dL_law_716 : decode cL_law 716 = .ok (.if_icmp .eq 160, 3) := by decide +kernel
theorem dL_law_719 : decode cL_law 719 = .ok (.iconst 0, 1) := by decide +kernel
theorem dL_law_720 : decode cL_law 720 = .ok (.ireturn, 1) := by decide +kernel
theorem dL_law_721 : decode cL_law 721 = .ok (.aload_n 1, 1) := by decide +kernel
theorem dL_law_722 : decode cL_law 722 = .ok (.aload_n 0, 1) := by decide +kernel
theorem dL_law_723 : decode cL_law 723 = .ok (.iload_n 3, 1) := by decide +kernel
theorem dL_law_724 : decode cL_law 724 = .ok (.iconst 1, 1) := by decide +kernel
theorem dL_law_725 : decode cL_law 725 = .ok (.iadd, 1) := by decide +kernel
theorem dL_law_726 : decode cL_law 726 = .ok (.iaload, 1) := by decide +kernel
theorem dL_law_727 : decode cL_law 727 = .ok (.aload_n 0, 1) := by decide +kernel
theorem dL_law_728 : decode cL_law 728 = .ok (.iload_n 3, 1) := by decide +kernel
theorem dL_law_729 : decode cL_law 729 = .ok (.iconst 2, 1) := by decide +kernel
theorem dL_law_730 : decode cL_law 730 = .ok (.iadd, 1) := by decide +kernel
theorem dL_law_731 : decode cL_law 731 = .ok (.iaload, 1) := by decide +kernel
theorem dL_law_732 : decode cL_law 732 = .ok (.invokevirtual 93, 3) := by decide +kernel
theorem dL_law_735 : decode cL_law 735 = .ok (.aload_n 2, 1) := by decide +kernel
theorem dL_law_736 : decode cL_law 736 = .ok (.aload_n 0, 1) := by decide +kernel
theorem dL_law_737 : decode cL_law 737 = .ok (.iload_n 3, 1) := by decide +kernel
theorem dL_law_738 : decode cL_law 738 = .ok (.iconst 1, 1) := by decide +kernel
theorem dL_law_739 : decode cL_law 739 = .ok (.iadd, 1) := by decide +kernel
theorem dL_law_740 : decode cL_law 740 = .ok (.iaload, 1) := by decide +kernel
theorem dL_law_741 : decode cL_law 741 = .ok (.aload_n 0, 1) := by decide +kernel
theorem dL_law_742 : decode cL_law 742 = .ok (.iload_n 3, 1) := by decide +kernel
theorem dL_law_743 : decode cL_law 743 = .ok (.iconst 2, 1) := by decide +kernel
theorem dL_law_744 : decode cL_law 744 = .ok (.iadd, 1) := by decide +kernel
theorem dL_law_745 : decode cL_law 745 = .ok (.iaload, 1) := by decide +kernel
theorem dL_law_746 : decode cL_law 746 = .ok (.invokevirtual 96, 3) := by decide +kernel
theorem dL_law_749 : decode cL_law 749 = .ok (.if_icmp .eq 127, 3) := by decide +kernel
theorem dL_law_752 : decode cL_law 752 = .ok (.iconst 0, 1) := by decide +kernel
theorem dL_law_753 : decode cL_law 753 = .ok (.ireturn, 1) := by decide +kernel
theorem dL_law_754 : decode cL_law 754 = .ok (.aload_n 1, 1) := by decide +kernel
theorem dL_law_755 : decode cL_law 755 = .ok (.aload_n 0, 1) := by decide +kernel
theorem dL_law_756 : decode cL_law 756 = .ok (.iload_n 3, 1) := by decide +kernel
theorem dL_law_757 : decode cL_law 757 = .ok (.iconst 1, 1) := by decide +kernel
theorem dL_law_758 : decode cL_law 758 = .ok (.iadd, 1) := by decide +kernel
theorem dL_law_759 : decode cL_law 759 = .ok (.iaload, 1) := by decide +kernel
theorem dL_law_760 : decode cL_law 760 = .ok (.invokevirtual 97, 3) := by decide +kernel
theorem dL_law_763 : decode cL_law 763 = .ok (.aload_n 2, 1) := by decide +kernel
theorem dL_law_764 : decode cL_law 764 = .ok (.aload_n 0, 1) := by decide +kernel
theorem dL_law_765 : decode cL_law 765 = .ok (.iload_n 3, 1) := by decide +kernel
theorem dL_law_766 : decode cL_law 766 = .ok (.iconst 1, 1) := by decide +kernel
theorem dL_law_767 : decode cL_law 767 = .ok (.iadd, 1) := by decide +kernel
theorem dL_law_768 : decode cL_law 768 = .ok (.iaload, 1) := by decide +kernel
theorem dL_law_769 : decode cL_law 769 = .ok (.invokevirtual 100, 3) := by decide +kernel
theorem dL_law_772 : decode cL_law 772 = .ok (.if_icmp .eq 104, 3) := by decide +kernel
theorem dL_law_775 : decode cL_law 775 = .ok (.iconst 0, 1) := by decide +kernel
theorem dL_law_776 : decode cL_law 776 = .ok (.ireturn, 1) := by decide +kernel
theorem dL_law_777 : decode cL_law 777 = .ok (.aload_n 1, 1) := by decide +kernel
theorem dL_law_778 : decode cL_law 778 = .ok (.aload_n 0, 1) := by decide +kernel
theorem dL_law_779 : decode cL_law 779 = .ok (.iload_n 3, 1) := by decide +kernel
theorem dL_law_780 : decode cL_law 780 = .ok (.iconst 1, 1) := by decide +kernel
theorem dL_law_781 : decode cL_law 781 = .ok (.iadd, 1) := by decide +kernel
theorem dL_law_782 : decode cL_law 782 = .ok (.iaload, 1) := by decide +kernel
theorem dL_law_783 : decode cL_law 783 = .ok (.aload_n 0, 1) := by decide +kernel
theorem dL_law_784 : decode cL_law 784 = .ok (.iload_n 3, 1) := by decide +kernel
theorem dL_law_785 : decode cL_law 785 = .ok (.iconst 2, 1) := by decide +kernel
theorem dL_law_786 : decode cL_law 786 = .ok (.iadd, 1) := by decide +kernel
theorem dL_law_787 : decode cL_law 787 = .ok (.iaload, 1) := by decide +kernel
theorem dL_law_788 : decode cL_law 788 = .ok (.aload_n 0, 1) := by decide +kernel
theorem dL_law_789 : decode cL_law 789 = .ok (.iload_n 3, 1) := by decide +kernel
theorem dL_law_790 : decode cL_law 790 = .ok (.iconst 3, 1) := by decide +kernel
theorem dL_law_791 : decode cL_law 791 = .ok (.iadd, 1) := by decide +kernel
theorem dL_law_792 : decode cL_law 792 = .ok (.iaload, 1) := by decide +kernel
theorem dL_law_793 : decode cL_law 793 = .ok (.aload_n 0, 1) := by decide +kernel
theorem dL_law_794 : decode cL_law 794 = .ok (.iload_n 3, 1) := by decide +kernel
theorem dL_law_795 : decode cL_law 795 = .ok (.iconst 4, 1) := by decide +kernel
theorem dL_law_796 : decode cL_law 796 = .ok (.iadd, 1) := by decide +kernel
theorem dL_law_797 : decode cL_law 797 = .ok (.iaload, 1) := by decide +kernel
theorem dL_law_798 : decode cL_law 798 = .ok (.invokevirtual 101, 3) := by decide +kernel
theorem dL_law_801 : decode cL_law 801 = .ok (.aload_n 2, 1) := by decide +kernel
theorem dL_law_802 : decode cL_law 802 = .ok (.aload_n 0, 1) := by decide +kernel
theorem dL_law_803 : decode cL_law 803 = .ok (.iload_n 3, 1) := by decide +kernel
theorem dL_law_804 : decode cL_law 804 = .ok (.iconst 1, 1) := by decide +kernel
theorem dL_law_805 : decode cL_law 805 = .ok (.iadd, 1) := by decide +kernel
theorem dL_law_806 : decode cL_law 806 = .ok (.iaload, 1) := by decide +kernel
theorem dL_law_807 : decode cL_law 807 = .ok (.aload_n 0, 1) := by decide +kernel
theorem dL_law_808 : decode cL_law 808 = .ok (.iload_n 3, 1) := by decide +kernel
theorem dL_law_809 : decode cL_law 809 = .ok (.iconst 2, 1) := by decide +kernel
theorem dL_law_810 : decode cL_law 810 = .ok (.iadd, 1) := by decide +kernel
theorem dL_law_811 : decode cL_law 811 = .ok (.iaload, 1) := by decide +kernel
theorem dL_law_812 : decode cL_law 812 = .ok (.aload_n 0, 1) := by decide +kernel
theorem dL_law_813 : decode cL_law 813 = .ok (.iload_n 3, 1) := by decide +kernel
theorem dL_law_814 : decode cL_law 814 = .ok (.iconst 3, 1) := by decide +kernel
theorem dL_law_815 : decode cL_law 815 = .ok (.iadd, 1) := by decide +kernel
theorem dL_law_816 : decode cL_law 816 = .ok (.iaload, 1) := by decide +kernel
theorem dL_law_817 : decode cL_law 817 = .ok (.aload_n 0, 1) := by decide +kernel
theorem dL_law_818 : decode cL_law 818 = .ok (.iload_n 3, 1) := by decide +kernel
theorem dL_law_819 : decode cL_law 819 = .ok (.iconst 4, 1) := by decide +kernel
theorem dL_law_820 : decode cL_law 820 = .ok (.iadd, 1) := by decide +kernel
theorem dL_law_821 : decode cL_law 821 = .ok (.iaload, 1) := by decide +kernel
theorem dL_law_822 : decode cL_law 822 = .ok (.invokevirtual 105, 3) := by decide +kernel
theorem dL_law_825 : decode cL_law 825 = .ok (.if_icmp .eq 51, 3) := by decide +kernel
theorem dL_law_828 : decode cL_law 828 = .ok (.iconst 0, 1) := by decide +kernel
theorem dL_law_829 : decode cL_law 829 = .ok (.ireturn, 1) := by decide +kernel
theorem dL_law_830 : decode cL_law 830 = .ok (.aload_n 1, 1) := by decide +kernel
theorem dL_law_831 : decode cL_law 831 = .ok (.aload_n 0, 1) := by decide +kernel
theorem dL_law_832 : decode cL_law 832 = .ok (.iload_n 3, 1) := by decide +kernel
theorem dL_law_833 : decode cL_law 833 = .ok (.iconst 1, 1) := by decide +kernel
theorem dL_law_834 : decode cL_law 834 = .ok (.iadd, 1) := by decide +kernel
theorem dL_law_835 : decode cL_law 835 = .ok (.iaload, 1) := by decide +kernel
theorem dL_law_836 : decode cL_law 836 = .ok (.invokevirtual 106, 3) := by decide +kernel
theorem dL_law_839 : decode cL_law 839 = .ok (.aload_n 2, 1) := by decide +kernel
theorem dL_law_840 : decode cL_law 840 = .ok (.aload_n 0, 1) := by decide +kernel
theorem dL_law_841 : decode cL_law 841 = .ok (.iload_n 3, 1) := by decide +kernel
theorem dL_law_842 : decode cL_law 842 = .ok (.iconst 1, 1) := by decide +kernel
theorem dL_law_843 : decode cL_law 843 = .ok (.iadd, 1) := by decide +kernel
theorem dL_law_844 : decode cL_law 844 = .ok (.iaload, 1) := by decide +kernel
theorem dL_law_845 : decode cL_law 845 = .ok (.invokevirtual 109, 3) := by decide +kernel
theorem dL_law_848 : decode cL_law 848 = .ok (.if_icmp .eq 28, 3) := by decide +kernel
theorem dL_law_851 : decode cL_law 851 = .ok (.iconst 0, 1) := by decide +kernel
theorem dL_law_852 : decode cL_law 852 = .ok (.ireturn, 1) := by decide +kernel
theorem dL_law_853 : decode cL_law 853 = .ok (.aload_n 1, 1) := by decide +kernel
theorem dL_law_854 : decode cL_law 854 = .ok (.aload_n 0, 1) := by decide +kernel
theorem dL_law_855 : decode cL_law 855 = .ok (.iload_n 3, 1) := by decide +kernel
theorem dL_law_856 : decode cL_law 856 = .ok (.iconst 1, 1) := by decide +kernel
theorem dL_law_857 : decode cL_law 857 = .ok (.iadd, 1) := by decide +kernel
theorem dL_law_858 : decode cL_law 858 = .ok (.iaload, 1) := by decide +kernel
theorem dL_law_859 : decode cL_law 859 = .ok (.invokevirtual 110, 3) := by decide +kernel
theorem dL_law_862 : decode cL_law 862 = .ok (.aload_n 2, 1) := by decide +kernel
theorem dL_law_863 : decode cL_law 863 = .ok (.aload_n 0, 1) := by decide +kernel
theorem dL_law_864 : decode cL_law 864 = .ok (.iload_n 3, 1) := by decide +kernel
theorem dL_law_865 : decode cL_law 865 = .ok (.iconst 1, 1) := by decide +kernel
theorem dL_law_866 : decode cL_law 866 = .ok (.iadd, 1) := by decide +kernel
theorem dL_law_867 : decode cL_law 867 = .ok (.iaload, 1) := by decide +kernel
theorem dL_law_868 : decode cL_law 868 = .ok (.invokevirtual 113, 3) := by decide +kernel
theorem dL_law_871 : decode cL_law 871 = .ok (.if_icmp .eq 5, 3) := by decide +kernel
theorem dL_law_874 : decode cL_law 874 = .ok (.iconst 0, 1) := by decide +kernel
theorem dL_law_875 : decode cL_law 875 = .ok (.ireturn, 1) := by decide +kernel
theorem dL_law_876 : decode cL_law 876 = .ok (.iinc 3 5, 3) := by decide +kernel
theorem dL_law_879 : decode cL_law 879 = .ok (.goto (-861), 3) := by decide +kernel
theorem dL_law_882 : decode cL_law 882 = .ok (.iconst 1, 1) := by decide +kernel
theorem dL_law_883 : decode cL_law 883 = .ok (.ireturn, 1) := by decide +kernel
theorem dJ9_max_7cf53_0 : decode cJ9_max_7cf53 0 = .ok (.iload_n 0, 1) := by decide +kernel
theorem dJ9_max_7cf53_1 : decode cJ9_max_7cf53 1 = .ok (.iload_n 1, 1) := by decide +kernel
theorem dJ9_max_7cf53_2 : decode cJ9_max_7cf53 2 = .ok (.if_icmp .lt 7, 3) := by decide +kernel
theorem dJ9_max_7cf53_5 : decode cJ9_max_7cf53 5 = .ok (.iload_n 0, 1) := by decide +kernel
theorem dJ9_max_7cf53_6 : decode cJ9_max_7cf53 6 = .ok (.goto 4, 3) := by decide +kernel
theorem dJ9_max_7cf53_9 : decode cJ9_max_7cf53 9 = .ok (.iload_n 1, 1) := by decide +kernel
theorem dJ9_max_7cf53_10 : decode cJ9_max_7cf53 10 = .ok (.ireturn, 1) := by decide +kernel
theorem dJ9_min_7cf53_0 : decode cJ9_min_7cf53 0 = .ok (.iload_n 0, 1) := by decide +kernel
theorem dJ9_min_7cf53_1 : decode cJ9_min_7cf53 1 = .ok (.iload_n 1, 1) := by decide +kernel
theorem dJ9_min_7cf53_2 : decode cJ9_min_7cf53 2 = .ok (.if_icmp .gt 7, 3) := by decide +kernel
theorem dJ9_min_7cf53_5 : decode cJ9_min_7cf53 5 = .ok (.iload_n 0, 1) := by decide +kernel
theorem dJ9_min_7cf53_6 : decode cJ9_min_7cf53 6 = .ok (.goto 4, 3) := by decide +kernel
theorem dJ9_min_7cf53_9 : decode cJ9_min_7cf53 9 = .ok (.iload_n 1, 1) := by decide +kernel
theorem dJ9_min_7cf53_10 : decode cJ9_min_7cf53 10 = .ok (.ireturn, 1) := by decide +kernel
theorem dJ0_length_8abf5_0 : decode cJ0_length_8abf5 0 = .ok (.aload_n 0, 1) := by decide +kernel
theorem dJ0_length_8abf5_1 : decode cJ0_length_8abf5 1 = .ok (.getfield 9, 3) := by decide +kernel
theorem dJ0_length_8abf5_4 : decode cJ0_length_8abf5 4 = .ok (.arraylength, 1) := by decide +kernel
theorem dJ0_length_8abf5_5 : decode cJ0_length_8abf5 5 = .ok (.aload_n 0, 1) := by decide +kernel
theorem dJ0_length_8abf5_6 : decode cJ0_length_8abf5 6 = .ok (.invokevirtual 335, 3) := by decide +kernel
theorem dJ0_length_8abf5_9 : decode cJ0_length_8abf5 9 = .ok (.ishr, 1) := by decide +kernel
theorem dJ0_length_8abf5_10 : decode cJ0_length_8abf5 10 = .ok (.ireturn, 1) := by decide +kernel
theorem dJ0_charAt_5068e_0 : decode cJ0_charAt_5068e 0 = .ok (.aload_n 0, 1) := by decide +kernel
theorem dJ0_charAt_5068e_1 : decode cJ0_charAt_5068e 1 = .ok (.invokevirtual 492, 3) := by decide +kernel
theorem dJ0_charAt_5068e_4 : decode cJ0_charAt_5068e 4 = .ok (.ifCond .eq 12, 3) := by decide +kernel
theorem dJ0_charAt_5068e_7 : decode cJ0_charAt_5068e 7 = .ok (.aload_n 0, 1) := by decide +kernel
theorem dJ0_charAt_5068e_8 : decode cJ0_charAt_5068e 8 = .ok (.getfield 9, 3) := by decide +kernel
theorem dJ0_charAt_5068e_11 : decode cJ0_charAt_5068e 11 = .ok (.iload_n 1, 1) := by decide +kernel
theorem dJ0_charAt_5068e_12 : decode cJ0_charAt_5068e 12 = .ok (.invokestatic 495, 3) := by decide +kernel
theorem dJ0_charAt_5068e_15 : decode cJ0_charAt_5068e 15 = .ok (.ireturn, 1) := by decide +kernel
theorem dJ0_charAt_5068e_16 : decode cJ0_charAt_5068e 16 = .ok (.aload_n 0, 1) := by decide +kernel
theorem dJ0_charAt_5068e_17 : decode cJ0_charAt_5068e 17 = .ok (.getfield 9, 3) := by decide +kernel
theorem dJ0_charAt_5068e_20 : decode cJ0_charAt_5068e 20 = .ok (.iload_n 1, 1) := by decide +kernel
theorem dJ0_charAt_5068e_21 : decode cJ0_charAt_5068e 21 = .ok (.invokestatic 498, 3) := by decide +kernel
theorem dJ0_charAt_5068e_24 : decode cJ0_charAt_5068e 24 = .ok (.ireturn, 1) := by decide +kernel
theorem dJ0_coder_7d493_0 : decode cJ0_coder_7d493 0 = .ok (.getstatic 38, 3) := by decide +kernel
theorem dJ0_coder_7d493_3 : decode cJ0_coder_7d493 3 = .ok (.ifCond .eq 10, 3) := by decide +kernel
theorem dJ0_coder_7d493_6 : decode cJ0_coder_7d493 6 = .ok (.aload_n 0, 1) := by decide +kernel
theorem dJ0_coder_7d493_7 : decode cJ0_coder_7d493 7 = .ok (.getfield 15, 3) := by decide +kernel
theorem dJ0_coder_7d493_10 : decode cJ0_coder_7d493 10 = .ok (.goto 4, 3) := by decide +kernel
theorem dJ0_coder_7d493_13 : decode cJ0_coder_7d493 13 = .ok (.iconst 1, 1) := by decide +kernel
theorem dJ0_coder_7d493_14 : decode cJ0_coder_7d493 14 = .ok (.ireturn, 1) := by decide +kernel
theorem dJ0_isLatin1_aae02_0 : decode cJ0_isLatin1_aae02 0 = .ok (.getstatic 38, 3) := by decide +kernel
theorem dJ0_isLatin1_aae02_3 : decode cJ0_isLatin1_aae02 3 = .ok (.ifCond .eq 14, 3) := by decide +kernel
theorem dJ0_isLatin1_aae02_6 : decode cJ0_isLatin1_aae02 6 = .ok (.aload_n 0, 1) := by decide +kernel
theorem dJ0_isLatin1_aae02_7 : decode cJ0_isLatin1_aae02 7 = .ok (.getfield 15, 3) := by decide +kernel
theorem dJ0_isLatin1_aae02_10 : decode cJ0_isLatin1_aae02 10 = .ok (.ifCond .ne 7, 3) := by decide +kernel
theorem dJ0_isLatin1_aae02_13 : decode cJ0_isLatin1_aae02 13 = .ok (.iconst 1, 1) := by decide +kernel
theorem dJ0_isLatin1_aae02_14 : decode cJ0_isLatin1_aae02 14 = .ok (.goto 4, 3) := by decide +kernel
theorem dJ0_isLatin1_aae02_17 : decode cJ0_isLatin1_aae02 17 = .ok (.iconst 0, 1) := by decide +kernel
theorem dJ0_isLatin1_aae02_18 : decode cJ0_isLatin1_aae02 18 = .ok (.ireturn, 1) := by decide +kernel
theorem dJ0_checkIndex_df160_0 : decode cJ0_checkIndex_df160 0 = .ok (.iload_n 0, 1) := by decide +kernel
theorem dJ0_checkIndex_df160_1 : decode cJ0_checkIndex_df160 1 = .ok (.iload_n 1, 1) := by decide +kernel
theorem dJ0_checkIndex_df160_2 : decode cJ0_checkIndex_df160 2 = .ok (.getstatic 1053, 3) := by decide +kernel
theorem dJ0_checkIndex_df160_5 : decode cJ0_checkIndex_df160 5 = .ok (.invokestatic 1059, 3) := by decide +kernel
theorem dJ0_checkIndex_df160_8 : decode cJ0_checkIndex_df160 8 = .ok (.pop, 1) := by decide +kernel
theorem dJ0_checkIndex_df160_9 : decode cJ0_checkIndex_df160 9 = .ok (.return_, 1) := by decide +kernel
theorem dJ1_charAt_3b067_0 : decode cJ1_charAt_3b067 0 = .ok (.iload_n 1, 1) := by decide +kernel
theorem dJ1_charAt_3b067_1 : decode cJ1_charAt_3b067 1 = .ok (.aload_n 0, 1) := by decide +kernel
theorem dJ1_charAt_3b067_2 : decode cJ1_charAt_3b067 2 = .ok (.arraylength, 1) := by decide +kernel
theorem dJ1_charAt_3b067_3 : decode cJ1_charAt_3b067 3 = .ok (.invokestatic 9, 3) := by decide +kernel
theorem dJ1_charAt_3b067_6 : decode cJ1_charAt_3b067 6 = .ok (.aload_n 0, 1) := by decide +kernel
theorem dJ1_charAt_3b067_7 : decode cJ1_charAt_3b067 7 = .ok (.iload_n 1, 1) := by decide +kernel
theorem dJ1_charAt_3b067_8 : decode cJ1_charAt_3b067 8 = .ok (.baload, 1) := by decide +kernel
theorem dJ1_charAt_3b067_9 : decode cJ1_charAt_3b067 9 = .ok (.sipush 255, 3) := by decide +kernel
theorem dJ1_charAt_3b067_12 : decode cJ1_charAt_3b067 12 = .ok (.iand, 1) := by decide +kernel
theorem dJ1_charAt_3b067_13 : decode cJ1_charAt_3b067 13 = .ok (.i2c, 1) := by decide +kernel
theorem dJ1_charAt_3b067_14 : decode cJ1_charAt_3b067 14 = .ok (.ireturn, 1) := by decide +kernel
theorem dJ2_getChar_3b067_0 : decode cJ2_getChar_3b067 0 = .ok (.getstatic 44, 3) := by decide +kernel
theorem dJ2_getChar_3b067_3 : decode cJ2_getChar_3b067 3 = .ok (.ifCond .ne 25, 3) := by decide +kernel
theorem dJ2_getChar_3b067_6 : decode cJ2_getChar_3b067 6 = .ok (.iload_n 1, 1) := by decide +kernel
theorem dJ2_getChar_3b067_7 : decode cJ2_getChar_3b067 7 = .ok (.ifCond .lt 11, 3) := by decide +kernel
theorem dJ2_getChar_3b067_10 : decode cJ2_getChar_3b067 10 = .ok (.iload_n 1, 1) := by decide +kernel
theorem dJ2_getChar_3b067_11 : decode cJ2_getChar_3b067 11 = .ok (.aload_n 0, 1) := by decide +kernel
theorem dJ2_getChar_3b067_12 : decode cJ2_getChar_3b067 12 = .ok (.invokestatic 48, 3) := by decide +kernel
theorem dJ2_getChar_3b067_15 : decode cJ2_getChar_3b067 15 = .ok (.if_icmp .lt 13, 3) := by decide +kernel
theorem dJ2_getChar_3b067_18 : decode cJ2_getChar_3b067 18 = .ok (.new 52, 3) := by decide +kernel
theorem dJ2_getChar_3b067_21 : decode cJ2_getChar_3b067 21 = .ok (.dup, 1) := by decide +kernel
theorem dJ2_getChar_3b067_22 : decode cJ2_getChar_3b067 22 = .ok (.ldc 54, 2) := by decide +kernel
theorem dJ2_getChar_3b067_24 : decode cJ2_getChar_3b067 24 = .ok (.invokespecial 56, 3) := by decide +kernel
theorem dJ2_getChar_3b067_27 : decode cJ2_getChar_3b067 27 = .ok (.athrow, 1) := by decide +kernel
theorem dJ2_getChar_3b067_28 : decode cJ2_getChar_3b067 28 = .ok (.iload_n 1, 1) := by decide +kernel
theorem dJ2_getChar_3b067_29 : decode cJ2_getChar_3b067 29 = .ok (.iconst 1, 1) := by decide +kernel
theorem dJ2_getChar_3b067_30 : decode cJ2_getChar_3b067 30 = .ok (.ishl, 1) := by decide +kernel
theorem dJ2_getChar_3b067_31 : decode cJ2_getChar_3b067 31 = .ok (.istore_n 1, 1) := by decide +kernel
theorem dJ2_getChar_3b067_32 : decode cJ2_getChar_3b067 32 = .ok (.aload_n 0, 1) := by decide +kernel
theorem dJ2_getChar_3b067_33 : decode cJ2_getChar_3b067 33 = .ok (.iload_n 1, 1) := by decide +kernel
theorem dJ2_getChar_3b067_34 : decode cJ2_getChar_3b067 34 = .ok (.iinc 1 1, 3) := by decide +kernel
theorem dJ2_getChar_3b067_37 : decode cJ2_getChar_3b067 37 = .ok (.baload, 1) := by decide +kernel
theorem dJ2_getChar_3b067_38 : decode cJ2_getChar_3b067 38 = .ok (.sipush 255, 3) := by decide +kernel
theorem dJ2_getChar_3b067_41 : decode cJ2_getChar_3b067 41 = .ok (.iand, 1) := by decide +kernel
theorem dJ2_getChar_3b067_42 : decode cJ2_getChar_3b067 42 = .ok (.getstatic 59, 3) := by decide +kernel
theorem dJ2_getChar_3b067_45 : decode cJ2_getChar_3b067 45 = .ok (.ishl, 1) := by decide +kernel
theorem dJ2_getChar_3b067_46 : decode cJ2_getChar_3b067 46 = .ok (.aload_n 0, 1) := by decide +kernel
theorem dJ2_getChar_3b067_47 : decode cJ2_getChar_3b067 47 = .ok (.iload_n 1, 1) := by decide +kernel
theorem dJ2_getChar_3b067_48 : decode cJ2_getChar_3b067 48 = .ok (.baload, 1) := by decide +kernel
theorem dJ2_getChar_3b067_49 : decode cJ2_getChar_3b067 49 = .ok (.sipush 255, 3) := by decide +kernel
theorem dJ2_getChar_3b067_52 : decode cJ2_getChar_3b067 52 = .ok (.iand, 1) := by decide +kernel
theorem dJ2_getChar_3b067_53 : decode cJ2_getChar_3b067 53 = .ok (.getstatic 63, 3) := by decide +kernel
theorem dJ2_getChar_3b067_56 : decode cJ2_getChar_3b067 56 = .ok (.ishl, 1) := by decide +kernel
theorem dJ2_getChar_3b067_57 : decode cJ2_getChar_3b067 57 = .ok (.ior, 1) := by decide +kernel
theorem dJ2_getChar_3b067_58 : decode cJ2_getChar_3b067 58 = .ok (.i2c, 1) := by decide +kernel
theorem dJ2_getChar_3b067_59 : decode cJ2_getChar_3b067 59 = .ok (.ireturn, 1) := by decide +kernel
theorem dJ2_length_9d52b_0 : decode cJ2_length_9d52b 0 = .ok (.aload_n 0, 1) := by decide +kernel
theorem dJ2_length_9d52b_1 : decode cJ2_length_9d52b 1 = .ok (.arraylength, 1) := by decide +kernel
theorem dJ2_length_9d52b_2 : decode cJ2_length_9d52b 2 = .ok (.iconst 1, 1) := by decide +kernel
theorem dJ2_length_9d52b_3 : decode cJ2_length_9d52b 3 = .ok (.ishr, 1) := by decide +kernel
theorem dJ2_length_9d52b_4 : decode cJ2_length_9d52b 4 = .ok (.ireturn, 1) := by decide +kernel
theorem dJ2_charAt_3b067_0 : decode cJ2_charAt_3b067 0 = .ok (.iload_n 1, 1) := by decide +kernel
theorem dJ2_charAt_3b067_1 : decode cJ2_charAt_3b067 1 = .ok (.aload_n 0, 1) := by decide +kernel
theorem dJ2_charAt_3b067_2 : decode cJ2_charAt_3b067 2 = .ok (.invokestatic 67, 3) := by decide +kernel
theorem dJ2_charAt_3b067_5 : decode cJ2_charAt_3b067 5 = .ok (.aload_n 0, 1) := by decide +kernel
theorem dJ2_charAt_3b067_6 : decode cJ2_charAt_3b067 6 = .ok (.iload_n 1, 1) := by decide +kernel
theorem dJ2_charAt_3b067_7 : decode cJ2_charAt_3b067 7 = .ok (.invokestatic 71, 3) := by decide +kernel
theorem dJ2_charAt_3b067_10 : decode cJ2_charAt_3b067 10 = .ok (.ireturn, 1) := by decide +kernel
theorem dJ2_checkIndex_2214a_0 : decode cJ2_checkIndex_2214a 0 = .ok (.iload_n 0, 1) := by decide +kernel
theorem dJ2_checkIndex_2214a_1 : decode cJ2_checkIndex_2214a 1 = .ok (.aload_n 1, 1) := by decide +kernel
theorem dJ2_checkIndex_2214a_2 : decode cJ2_checkIndex_2214a 2 = .ok (.invokestatic 48, 3) := by decide +kernel
theorem dJ2_checkIndex_2214a_5 : decode cJ2_checkIndex_2214a 5 = .ok (.invokestatic 414, 3) := by decide +kernel
theorem dJ2_checkIndex_2214a_8 : decode cJ2_checkIndex_2214a 8 = .ok (.return_, 1) := by decide +kernel
theorem dJ3_checkIndex_8e157_0 : decode cJ3_checkIndex_8e157 0 = .ok (.iload_n 0, 1) := by decide +kernel
theorem dJ3_checkIndex_8e157_1 : decode cJ3_checkIndex_8e157 1 = .ok (.ifCond .lt 8, 3) := by decide +kernel
theorem dJ3_checkIndex_8e157_4 : decode cJ3_checkIndex_8e157 4 = .ok (.iload_n 0, 1) := by decide +kernel
theorem dJ3_checkIndex_8e157_5 : decode cJ3_checkIndex_8e157 5 = .ok (.iload_n 1, 1) := by decide +kernel
theorem dJ3_checkIndex_8e157_6 : decode cJ3_checkIndex_8e157 6 = .ok (.if_icmp .lt 10, 3) := by decide +kernel
theorem dJ3_checkIndex_8e157_9 : decode cJ3_checkIndex_8e157 9 = .ok (.aload_n 2, 1) := by decide +kernel
theorem dJ3_checkIndex_8e157_10 : decode cJ3_checkIndex_8e157 10 = .ok (.iload_n 0, 1) := by decide +kernel
theorem dJ3_checkIndex_8e157_11 : decode cJ3_checkIndex_8e157 11 = .ok (.iload_n 1, 1) := by decide +kernel
theorem dJ3_checkIndex_8e157_12 : decode cJ3_checkIndex_8e157 12 = .ok (.invokestatic 95, 3) := by decide +kernel
theorem dJ3_checkIndex_8e157_15 : decode cJ3_checkIndex_8e157 15 = .ok (.athrow, 1) := by decide +kernel
theorem dJ3_checkIndex_8e157_16 : decode cJ3_checkIndex_8e157 16 = .ok (.iload_n 0, 1) := by decide +kernel
theorem dJ3_checkIndex_8e157_17 : decode cJ3_checkIndex_8e157 17 = .ok (.ireturn, 1) := by decide +kernel
end
section
/-! THE MINI MACHINE: ints are Int with a bound, cells are numbered, the store is one function -/
abbrev Sto : Type := Nat → Int → Int
abbrev MV : Type := Int ⊕ (Int ⊕ Nat)
abbrev mI (z : Int) : MV := .inl z
abbrev mL (z : Int) : MV := .inr (.inl z)
abbrev mR (r : Nat) : MV := .inr (.inr r)
abbrev okI (z : Int) : Prop := -2147483648 ≤ z ∧ z < 2147483648
abbrev okL (z : Int) : Prop := -9223372036854775808 ≤ z ∧ z < 9223372036854775808
def okv : MV → Prop
  | .inl z => okI z
  | .inr (.inl z) => okL z
  | .inr (.inr _) => True
def okS (σ : Sto) : Prop := ∀ r i, okI (σ r i)
def upd2 (σ : Sto) (r : Nat) (k v : Int) : Sto := fun r' k' => if r' = r ∧ k' = k then v else σ r' k'
abbrev GG : Type := (Nat → ClassId) × (Nat → Nat → Nat) × (Nat → Nat) × ClassId × ClassId × ClassId × (Nat → Nat)
abbrev gD (g : GG) : va_G := (g.1, g.2.1)
abbrev gad (g : GG) : Nat → Nat := g.2.2.1
abbrev gI (g : GG) : ClassId := g.2.2.2.1
abbrev gB (g : GG) : ClassId := g.2.2.2.2.1
abbrev gZ (g : GG) : ClassId := g.2.2.2.2.2.1
abbrev gV (g : GG) : Nat → Nat := g.2.2.2.2.2.2
def tv (g : GG) : MV → Value
  | .inl z => .int (Int32.ofInt z)
  | .inr (.inl z) => .long (Int64.ofInt z)
  | .inr (.inr r) => .ref (gad g r)
abbrev NC : Nat := 92
def kdL : List Nat := [6, 101, 5, 100, 100, 100, 100, 100, 5, 100, 100, 100, 100, 100, 3, 100, 100, 100, 100, 100, 3, 100, 100, 100, 100, 100, 3, 100, 100, 100, 100, 100, 3, 100, 100, 100, 100, 100, 4, 1, 100, 100, 100, 0, 100, 100, 100, 100, 100, 2, 100, 100, 100, 100, 100, 100, 100, 100, 100, 102, 2, 100, 100, 100, 100, 100, 100, 100, 100, 100, 102, 7, 100, 100, 100, 100, 100, 102, 100, 100, 100, 102, 100, 100, 100, 100, 100, 100, 100, 100, 100, 100]
def lnL : List Nat := [0, 400, 0, 6, 6, 6, 48, 48, 0, 6, 6, 6, 48, 48, 0, 80, 8, 8, 8, 6, 0, 80, 8, 8, 8, 6, 0, 80, 8, 8, 8, 6, 0, 80, 8, 8, 8, 6, 0, 0, 8, 8, 8, 0, 80, 80, 80, 1640, 1640, 0, 8, 8, 72, 152, 152, 152, 152, 152, 152, 152, 0, 8, 8, 72, 152, 152, 152, 152, 152, 152, 152, 0, 591, 591, 114, 114, 1182, 2, 400, 10, 41, 6, 9, 8, 300, 300, 300, 300, 6642, 6642, 6642, 7]
def fdL : List (List (Option Nat)) := [[some 1, none, some 2, some 14, some 8, some 20, some 38, some 39, some 43, some 49, some 60, none, some 26, some 32, none, none], [], [none, some 3, some 4, some 5, some 6, some 7], [], [], [], [], [], [none, some 9, some 10, some 11, some 12, some 13], [], [], [], [], [], [none, none, some 15, some 16, some 17, some 18, some 19], [], [], [], [], [], [none, none, some 21, some 22, some 23, some 24, some 25], [], [], [], [], [], [none, none, some 27, some 28, some 29, some 30, some 31], [], [], [], [], [], [none, none, some 33, some 34, some 35, some 36, some 37], [], [], [], [], [], [some 1, some 8, some 20, none, none, none, none, none, none, none, none], [some 2, some 14, none, none, some 40, some 41, some 42], [], [], [], [some 44, some 45, some 46, some 47, some 48, none, none, none], [], [], [], [], [], [some 14, some 39, some 43, none, some 50, some 51, some 52, some 53, some 54, some 55, some 56, some 57, some 58, some 59], [], [], [], [], [], [], [], [], [], [], [some 14, some 39, some 43, none, some 61, some 62, some 63, some 64, some 65, some 66, some 67, some 68, some 69, some 70], [], [], [], [], [], [], [], [], [], [], [some 72, some 73, some 74, none, some 75, none, some 76, some 77, some 78, none, none, none, none, none, none, none, some 79, some 80, some 81, some 82, some 83, some 84, some 85, some 86, some 87, none, some 88, some 89, some 90, some 91], [], [], [], [], [], [], [], [], [], [], [], [], [], [], [], [], [], [], [], []]
def kd (r : Nat) : Nat := kdL.getD r 0
def ln (r : Nat) : Nat := lnL.getD r 0
def fdn (r : Nat) : Nat := (fdL.getD r []).length
def fld (r k : Nat) : Option Nat := (fdL.getD r []).getD k none
def fvO (g : GG) (σ : Sto) (r k : Nat) : Value := match fld r k with
  | none => .int (Int32.ofInt (σ r (k : Int)))
  | some q => .ref (gad g q)
def fsO (g : GG) (σ : Sto) (r : Nat) : List Value := (List.range (fdn r)).map (fvO g σ r)
def gcA (g : GG) (k : Nat) : ClassId := if k = 100 then gI g else if k = 101 then gB g else gZ g
def cel (g : GG) (σ : Sto) (r : Nat) : va_E := if kd r < 100 then .inr (kd r, fsO g σ r) else .inl (gcA g (kd r), ln r, .inl (fun i => Int32.ofInt (σ r (i : Int))))
def wsO (g : GG) (σ : Sto) : va_W := (List.range NC).map (fun r => (gad g r, cel g σ r))
abbrev tyO (g : GG) : List (ClassId × FieldType) := [(gI g, .int), (gB g, .byte), (gZ g, .boolean)]
def gAr (g : GG) : Nat → Prop := fun q => ∃ r, r < NC ∧ q = gad g r
def gInj (g : GG) : Prop := ∀ i j, i < NC → j < NC → gad g i = gad g j → i = j
theorem wsO_at {g : GG} {σ : Sto} {r : Nat} (h : r < NC) : (wsO g σ)[r]? = some (gad g r, cel g σ r) := by
  simp [wsO, List.getElem?_map, List.getElem?_range h]
theorem wsO_obj {g : GG} {σ : Sto} {r ci : Nat} (h : r < NC) (hk : kd r = ci) (hc : ci < 100) : (wsO g σ)[r]? = some (gad g r, .inr (ci, fsO g σ r)) := by
  rw [wsO_at h, cel, hk, if_pos hc]
theorem wsO_arr {g : GG} {σ : Sto} {r k : Nat} (h : r < NC) (hk : kd r = k) (hc : ¬ k < 100) : (wsO g σ)[r]? = some (gad g r, .inl (gcA g k, ln r, .inl (fun i => Int32.ofInt (σ r (i : Int))))) := by
  rw [wsO_at h, cel, hk, if_neg hc]
theorem wsO_inv {g : GG} {σ : Sto} {k : Nat} {q : Nat × va_E} (h : (wsO g σ)[k]? = some q) : k < NC ∧ q = (gad g k, cel g σ k) := by
  have hk : k < NC := by
    have := (List.getElem?_eq_some_iff.mp h).1
    simpa [wsO] using this
  rw [wsO_at hk] at h
  exact ⟨hk, (Option.some.inj h).symm⟩
theorem wsO_D {g : GG} (σ : Sto) (h : gInj g) : va_D (gAr g) (wsO g σ) := by
  refine ⟨fun i j p q hp hq e => ?_, fun k q hq => ?_⟩
  · obtain ⟨hi, rfl⟩ := wsO_inv hp
    obtain ⟨hj, rfl⟩ := wsO_inv hq
    exact h i j hi hj e
  · obtain ⟨hk, rfl⟩ := wsO_inv hq
    exact ⟨k, hk, rfl⟩
theorem wsO_set {g : GG} {σ σ' : Sto} {r : Nat} {e : va_E} (h : r < NC) (he : e = cel g σ' r) (ho : ∀ q, q ≠ r → σ' q = σ q) : (wsO g σ).set r (gad g r, e) = wsO g σ' := by
  apply List.ext_getElem?
  intro i
  rw [List.getElem?_set]
  by_cases hi : r = i
  · subst hi
    have hl : r < (wsO g σ).length := by simpa [wsO] using h
    rw [if_pos rfl, if_pos hl, wsO_at h, he]
  · rw [if_neg hi]
    by_cases hc : i < NC
    · rw [wsO_at hc, wsO_at hc]
      have e1 : σ' i = σ i := ho i (fun z => hi z.symm)
      have e2 : fvO g σ' i = fvO g σ i := by funext k; simp only [fvO, e1]
      simp only [cel, fsO, e1, e2]
    · rw [List.getElem?_eq_none (by simpa [wsO] using hc), List.getElem?_eq_none (by simpa [wsO] using hc)]
theorem upd2_out {σ : Sto} {r : Nat} {k v : Int} {q : Nat} (h : q ≠ r) : upd2 σ r k v q = σ q := by
  funext j
  simp [upd2, h]
theorem cel_upd_obj {g : GG} {σ : Sto} {r k : Nat} {v : Int} (hk : kd r < 100) (hf : fld r k = none) (hl : k < fdn r) : .inr (kd r, (fsO g σ r).set k (.int (Int32.ofInt v))) = cel g (upd2 σ r (k : Int) v) r := by
  rw [cel, if_pos hk]
  congr 2
  apply List.ext_getElem?
  intro i
  rw [List.getElem?_set]
  by_cases hi : k = i
  · subst hi
    rw [if_pos rfl, if_pos (by simpa [fsO] using hl)]
    simp [fsO, List.getElem?_map, List.getElem?_range hl, fvO, hf, upd2]
  · rw [if_neg hi]
    by_cases hc : i < fdn r
    · simp only [fsO, List.getElem?_map, List.getElem?_range hc, Option.map_some]
      congr 1
      simp only [fvO]
      cases fld r i with
      | some q => rfl
      | none =>
        have e : ¬ ((i : Int) = (k : Int)) := by omega
        simp [upd2, e]
    · rw [List.getElem?_eq_none (by simpa [fsO] using hc), List.getElem?_eq_none (by simpa [fsO] using hc)]
theorem cel_upd_arr {g : GG} {σ : Sto} {r kk : Nat} {i v : Int} (hk : kd r = kk) (hc : ¬ kk < 100) (hi : 0 ≤ i) : .inl (gcA g kk, ln r, .inl (upd (fun j => Int32.ofInt (σ r (j : Int))) i.toNat (Int32.ofInt v))) = cel g (upd2 σ r i v) r := by
  rw [cel, hk, if_neg hc]
  congr 4
  funext j
  simp only [upd, upd2]
  by_cases hj : j = i.toNat
  · have e : (j : Int) = i := by omega
    rw [if_pos hj, if_pos ⟨trivial, e⟩]
  · have e : ¬ (j : Int) = i := by omega
    simp [hj, e]
/-- numbers -/
theorem oI_toInt {z : Int} (h : okI z) : (Int32.ofInt z).toInt = z := Int32.toInt_ofInt_of_le h.1 h.2
theorem oI_eq {a b : Int} (ha : okI a) (hb : okI b) : Int32.ofInt a = Int32.ofInt b ↔ a = b := by
  constructor
  · intro h
    have := congrArg Int32.toInt h
    rwa [oI_toInt ha, oI_toInt hb] at this
  · intro h; rw [h]
theorem oI_lt {a b : Int} (ha : okI a) (hb : okI b) : Int32.ofInt a < Int32.ofInt b ↔ a < b := by
  rw [Int32.lt_iff_toInt_lt, oI_toInt ha, oI_toInt hb]
theorem oI_le {a b : Int} (ha : okI a) (hb : okI b) : Int32.ofInt a ≤ Int32.ofInt b ↔ a ≤ b := by
  rw [Int32.le_iff_toInt_le, oI_toInt ha, oI_toInt hb]
theorem oI_0 : Int32.ofInt 0 = 0 := by decide
theorem ok0 : okI 0 := by unfold okI; omega
theorem oI_add (a b : Int) : Int32.ofInt a + Int32.ofInt b = Int32.ofInt (a + b) := (Int32.ofInt_add a b).symm
theorem oI_sub (a b : Int) : Int32.ofInt a - Int32.ofInt b = Int32.ofInt (a - b) := (Int32.ofInt_sub a b).symm
theorem oI_mul (a b : Int) : Int32.ofInt a * Int32.ofInt b = Int32.ofInt (a * b) := (Int32.ofInt_mul a b).symm
theorem fb_bmod' {z : Int} (h : okI z) : z.bmod (2 ^ 32) = z := by
  have e : z.bmod 4294967296 = z := by
    unfold okI at h
    rw [Int.bmod_def]
    split <;> omega
  exact e
theorem oI_div {a b : Int} (ha : okI a) (hb : okI b) (hr : okI (a.tdiv b)) : Int32.ofInt a / Int32.ofInt b = Int32.ofInt (a.tdiv b) := by
  apply Int32.toInt_inj.mp
  rw [Int32.toInt_div, oI_toInt ha, oI_toInt hb, oI_toInt hr]
  exact fb_bmod' hr
theorem oI_clamp {z : Int} (h : okI z) (h0 : 0 ≤ z) : (Int32.ofInt z).toNatClampNeg = z.toNat := by
  show (Int32.ofInt z).toInt.toNat = z.toNat
  rw [oI_toInt h]
theorem oI_in {z : Int} {n : Nat} (h : okI z) (h0 : 0 ≤ z) (h1 : z < n) : vp_in (Int32.ofInt z) n := by
  rintro (q | q)
  · rw [← oI_0, oI_lt h ok0] at q; omega
  · rw [oI_clamp h h0] at q; omega
end
section
def gtb : List Cond := lw_tbl.filter goodWord
theorem gtb_of {w : Cond} (h : w ∈ lw_tbl) (hg : goodWord w = true) : w ∈ gtb := List.mem_filter.mpr ⟨h, hg⟩
theorem tb_mem {i : Nat} {w : Cond} (h : tables_1[i]? = some w) : w ∈ lw_tbl := List.mem_append_right _ (List.mem_of_getElem? h)
theorem tb_sel {q : MethodName × Nat} {i : Nat} (h : lw_privs[i]? = some q) : Cond.selects q.1.cls q.1 q.1 ∈ lw_tbl := List.mem_append_left _ (List.mem_map.mpr ⟨q, List.mem_of_getElem? h, rfl⟩)
def isNF : Cond → Bool
  | .fieldLinkNest .. => true
  | _ => false
def isNM : Cond → Bool
  | .methodLinkNest .. => true
  | _ => false
def stN (k : Nat) : String := if k = 0 then "SETTING_LEAST" else if k = 1 then "SETTING_MOST" else "SETTING_AT_FIRST"
def stL (k : Nat) : List Int := if k = 0 then [20, 4, 2, 0, 0, 0] else if k = 1 then [99, 20, 20, 9, 1, 2] else [40, 8, 5, 1, 0, 0]
def stV (k : Nat) (j : Int) : Int := (stL k).getD j.toNat 0
def strI : List (Nat × String) := [(69, "set"), (78, "shape"), (83, "par"), (157, "measure"), (159, "leading"), (161, "cap"), (163, "gap"), (165, "mode"), (167, "policy")]
def strB : List (List Int32) := [[115, 101, 116], [115, 104, 97, 112, 101], [112, 97, 114], [109, 101, 97, 115, 117, 114, 101], [108, 101, 97, 100, 105, 110, 103], [99, 97, 112], [103, 97, 112], [109, 111, 100, 101], [112, 111, 108, 105, 99, 121]]
def strLn : List Nat := [3, 5, 3, 7, 7, 3, 3, 4, 6]
def strC (k : Nat) (j : Int) : Int := ((strB.getD k []).getD j.toNat 0).toInt
/-- what stays: links among nest mates, statics, constants of text -/
def Fx (g : GG) (U : State) (H : Heap) : Prop :=
  (∀ w ∈ lw_tbl, isNF w = true → va_Nw w U) ∧ (∀ w ∈ lw_tbl, isNM w = true → va_Nw w U) ∧
  (∀ k, k < 3 → va_Z RX6 (stN k) "[I" (.ref (gad g (1000 + k))) (gAr g) U H ∧ va_T .int (gad g (1000 + k)) 6 (fun j => .int (Int32.ofInt (stV k (j : Int)))) (gAr g) U H) ∧
  (∀ k, k < 9 → vk_R RX4 (strI.getD k (0, "")).1 (strI.getD k (0, "")).2 (gad g (2000 + k)) U) ∧ vk_S 9 strLn strB (fun i => gad g (2000 + i)) (gV g) (gAr g) U H ∧
  va_Z "java/lang/String" "COMPACT_STRINGS" "Z" (.int 1) (gAr g) U H ∧ va_Zq "jdk/internal/util/Preconditions" "SIOOBE_FORMATTER" "Ljava/util/function/BiFunction;" (gAr g) U H
theorem Fx_moved {g : GG} {s U : State} {H : Heap} (hW : s.WarmedH U.vm) (hk : ∀ a : Nat, a < s.heap.size → ¬ gAr g a → H[a]? = s.heap[a]?) (h : Fx g s s.heap) : Fx g U H := by
  obtain ⟨h1, h2, h3, h4, h5, h6, h7⟩ := h
  refine ⟨fun w hw hn => ?_, fun w hw hn => ?_, fun k hk3 => ⟨((h3 k hk3).1.moved hW.alike).kept hk, ((h3 k hk3).2.moved hW.alike).kept hk⟩, fun k hk9 => (h4 k hk9).warm hW, (h5.moved hW.alike).kept hk, (h6.moved hW.alike).kept hk, (h7.moved hW.alike).kept hk⟩
  · cases w <;> first | exact absurd hn (by decide) | exact va_Nw.warmF hW (h1 _ hw hn) | (exfalso; simp [isNF] at hn)
  · cases w <;> first | exact absurd hn (by decide) | exact va_Nw.warmM hW (h2 _ hw hn) | (exfalso; simp [isNM] at hn)
theorem Fx_same {g : GG} {u U : State} {H : Heap} (hv : U.vm = u.vm) (h : Fx g u H) : Fx g U H := by
  obtain ⟨h1, h2, h3, h4, h5, h6, h7⟩ := h
  have ha : u.vm.Alike U.vm := by rw [hv]; exact Vm.Alike.refl _
  refine ⟨fun w hw hn => ?_, fun w hw hn => ?_, fun k hk3 => ⟨(h3 k hk3).1.moved ha, (h3 k hk3).2.moved ha⟩, fun k hk9 => (h4 k hk9).same hv, h5.moved ha, h6.moved ha, h7.moved ha⟩
  · cases w <;> first | exact va_Nw.same rfl hv.symm (h1 _ hw hn) | (exfalso; simp [isNF] at hn)
  · cases w <;> first | exact va_Nw.same rfl hv.symm (h2 _ hw hn) | (exfalso; simp [isNM] at hn)
def Ctx (g : GG) (cc : ByteArray) (own : String) (rt : Option FieldType) (nL : Nat) (p : Program) (s : State) (m : MethodId) (args : Array Value) (meth : Method) (c : Code) : Prop :=
  p.tables.exec = Jvm.exec ∧ c.code = cc ∧ meth.sig.returnType = rt ∧ c.maxLocals = nL ∧ s.vm.findClass own = some m.cls ∧ (∀ w ∈ gtb, w.before args s = true) ∧ meth.locks = false ∧ va_K (gD g) vwCl (tyO g) s ∧ Fx g s s.heap ∧ gInj g
def als (g : GG) : Nat → List (Option MV) → List (Nat × Value)
  | _, [] => []
  | n, none :: t => als g (n + 1) t
  | n, some v :: t => (n, tv g v) :: als g (n + 1) t
theorem als_mem {g : GG} {v : MV} : ∀ (loc : List (Option MV)) (n k : Nat), loc[k]? = some (some v) → (n + k, tv g v) ∈ als g n loc
  | [], n, k, h => by simp at h
  | none :: t, n, 0, h => by simp at h
  | none :: t, n, k + 1, h => by
    have := als_mem (g := g) t (n + 1) k (by simpa using h)
    rw [show n + (k + 1) = n + 1 + k by omega]
    exact this
  | some u :: t, n, 0, h => by
    have e : u = v := by simpa using h
    subst e
    exact List.mem_cons_self
  | some u :: t, n, k + 1, h => by
    have := als_mem (g := g) t (n + 1) k (by simpa using h)
    rw [show n + (k + 1) = n + 1 + k by omega]
    exact List.mem_cons_of_mem _ this
theorem als_inv {g : GG} {q : Nat × Value} : ∀ (loc : List (Option MV)) (n : Nat), q ∈ als g n loc → ∃ (k : Nat) (v : MV), loc[k]? = some (some v) ∧ q = (n + k, tv g v)
  | [], n, h => by simp [als] at h
  | none :: t, n, h => by
    obtain ⟨k, v, h1, h2⟩ := als_inv t (n + 1) h
    exact ⟨k + 1, v, by simpa using h1, by rw [h2]; congr 1; omega⟩
  | some u :: t, n, h => by
    rcases List.mem_cons.mp h with h | h
    · exact ⟨0, u, by simp, by rw [h]; rfl⟩
    · obtain ⟨k, v, h1, h2⟩ := als_inv t (n + 1) h
      exact ⟨k + 1, v, by simpa using h1, by rw [h2]; congr 1; omega⟩
def lok (g : GG) (ls : Array Slot) (loc : List (Option MV)) : Prop := lv_has ls loc.length (als g 0 loc) ∧ ∀ v, some v ∈ loc → okv v
theorem lok_at {g : GG} {ls : Array Slot} {loc : List (Option MV)} (h : lok g ls loc) {k : Nat} {v : MV} (hk : loc[k]? = some (some v)) : ls[k]? = some (.val (tv g v)) ∧ okv v := by
  refine ⟨?_, h.2 v (List.mem_of_getElem? hk)⟩
  have := h.1.2.2 _ (als_mem (g := g) loc 0 k hk)
  simpa using this
def noL (loc : List (Option MV)) (k : Nat) : Bool := match k with
  | 0 => true
  | j + 1 => match loc[j]? with
    | some (some (.inr (.inl _))) => false
    | _ => true
theorem tv_cat {g : GG} {v : MV} (h : (tv g v).category = 2) : ∃ z, v = .inr (.inl z) := by
  rcases v with z | z | z
  · exact absurd h (by decide : ¬ (1 : Nat) = 2)
  · exact ⟨z, rfl⟩
  · exact absurd h (by decide : ¬ (1 : Nat) = 2)
theorem lok_set {g : GG} {ls : Array Slot} {loc : List (Option MV)} {k : Nat} {v : MV} (h : lv_has ls loc.length ((k, tv g v) :: (als g 0 loc).filter (fun q => !(q.1 == k) && !(q.1 + 1 == k && q.2.category == 2)))) (hn : noL loc k = true) (ho : ∀ u, some u ∈ loc → okv u) (hv : okv v) : lok g ls (loc.set k (some v)) := by
  refine ⟨⟨by rw [List.length_set]; exact h.1, h.2.1, fun q hq => ?_⟩, fun u hu => ?_⟩
  · obtain ⟨j, u, h1, h2⟩ := als_inv _ _ hq
    rw [List.getElem?_set] at h1
    by_cases hj : k = j
    · subst hj
      rw [if_pos rfl] at h1
      by_cases hl : k < loc.length
      · rw [if_pos hl] at h1
        have e : v = u := by simpa using h1
        subst e
        refine h.2.2 q (List.mem_cons.mpr (Or.inl ?_))
        rw [h2]; simp
      · rw [if_neg hl] at h1
        cases h1
    · rw [if_neg hj] at h1
      refine h.2.2 q (List.mem_cons.mpr (Or.inr (List.mem_filter.mpr ⟨?_, ?_⟩)))
      · rw [h2]; exact als_mem loc 0 j h1
      · have e1 : (q.1 == k) = false := by rw [h2]; simp; omega
        rw [e1]
        simp only [Bool.not_false, Bool.true_and, Bool.not_eq_true', Bool.and_eq_false_iff]
        by_cases hk : q.1 + 1 = k
        · right
          have hjk : k = j + 1 := by rw [h2] at hk; simp at hk; omega
          rw [hjk] at hn
          simp only [noL, h1] at hn
          by_cases hc : (tv g u).category = 2
          · obtain ⟨z, rfl⟩ := tv_cat hc
            simp at hn
          · rw [h2]; simpa using hc
        · left
          simpa using hk
  · rcases List.mem_or_eq_of_mem_set hu with h1 | h1
    · exact ho u h1
    · cases h1; exact hv
def oks : List MV → Prop
  | [] => True
  | v :: t => okv v ∧ oks t
def QcO (g : GG) (Q : Option MV → Sto → Prop) : Array Value → State → Outcome → State → Prop := fun _ st oc t => (∃ (r : Option MV) (σ' : Sto), oc = .returned (r.map (tv g)) ∧ Q r σ' ∧ okS σ' ∧ (∀ v, r = some v → okv v) ∧ va_P (gD g) vwCl (wsO g σ') t.heap) ∧ va_F (gAr g) st t
abbrev rmd (d : Nat) : Room := { frames := d, cells := 0, slots := 0, locals := 40 * d }
def Wp (cc : ByteArray) (own : String) (rt : Option FieldType) (d pc : Nat) (loc : List (Option MV)) (stk : List MV) (σ : Sto) (Q : Option MV → Sto → Prop) : Prop :=
  ∀ (g : GG) (p : Program) (l : Launch) (e : Env) (s : State) (m : MethodId) (args : Array Value) (below : List Frame) (meth : Method) (c : Code) (H : Heap) (locs : List Loc) (ls : Array Slot),
    Ctx g cc own rt loc.length p s m args meth c → va_P (gD g) vwCl (wsO g σ) H → va_S (gAr g) s.heap H locs → okS σ → lok g ls loc → oks stk →
    W p l e (rmd d) s m args below meth c H locs 0 0 (MQ below (QcO g Q) args s 0 0 (gAr g)) (F0 m pc ls (stk.map (tv g)))
def PcO (g : GG) (as : List MV) (σ : Sto) : Array Value → State → Prop := va_Pc (as.map (tv g)) (fun U => va_P (gD g) vwCl (wsO g σ) U.heap ∧ va_K (gD g) vwCl (tyO g) U ∧ gInj g ∧ Fx g U U.heap ∧ okS σ ∧ oks as)
def Ct (y : MethodName) (cc : ByteArray) (nL : Nat) (rt : Option FieldType) (d : Nat) (as : List MV) (σ : Sto) (Q : Option MV → Sto → Prop) : Prop :=
  ∀ (l : Launch) (g : GG), Met l y (.code y cc nL rt :: gtb) (rmd d) (PcO g as σ) (QcO g Q) 0 0 (gAr g)
def locO : List MV → List (Option MV)
  | [] => []
  | .inl z :: t => some (.inl z) :: locO t
  | .inr (.inl z) :: t => some (.inr (.inl z)) :: none :: locO t
  | .inr (.inr r) :: t => some (.inr (.inr r)) :: locO t
theorem locO_ok : ∀ {as : List MV}, oks as → ∀ v, some v ∈ locO as → okv v
  | [], _, v, h => by simp [locO] at h
  | .inl z :: t, ho, v, h => by
    rcases List.mem_cons.mp h with h | h
    · cases h; exact ho.1
    · exact locO_ok ho.2 v h
  | .inr (.inl z) :: t, ho, v, h => by
    rcases List.mem_cons.mp h with h | h
    · cases h; exact ho.1
    · rcases List.mem_cons.mp h with h | h
      · cases h
      · exact locO_ok ho.2 v h
  | .inr (.inr z) :: t, ho, v, h => by
    rcases List.mem_cons.mp h with h | h
    · cases h; exact ho.1
    · exact locO_ok ho.2 v h
theorem locO_als {g : GG} : ∀ (as : List MV) (n : Nat), als g n (locO as) = lv_args n (as.map (tv g))
  | [], n => rfl
  | .inl z :: t, n => by
    show (n, _) :: als g (n + 1) (locO t) = _
    rw [locO_als t (n + 1)]; rfl
  | .inr (.inl z) :: t, n => by
    show (n, _) :: als g (n + 1 + 1) (locO t) = _
    rw [locO_als t (n + 1 + 1)]; rfl
  | .inr (.inr z) :: t, n => by
    show (n, _) :: als g (n + 1) (locO t) = _
    rw [locO_als t (n + 1)]; rfl
theorem als_pad {g : GG} : ∀ (l : List (Option MV)) (n k : Nat), als g n (l ++ List.replicate k none) = als g n l
  | [], n, 0 => rfl
  | [], n, k + 1 => by
    show als g (n + 1) (List.replicate k none) = []
    exact als_pad [] (n + 1) k
  | none :: t, n, k => als_pad t (n + 1) k
  | some v :: t, n, k => by
    show (n, _) :: als g (n + 1) (t ++ List.replicate k none) = (n, _) :: _
    rw [als_pad t (n + 1) k]
theorem locO_len {g : GG} : ∀ (as : List MV), (lg_sl (as.map (tv g))).length = (locO as).length
  | [] => rfl
  | .inl z :: t => by
    have := locO_len (g := g) t
    simpa [lg_sl, locO, tv, Value.category] using this
  | .inr (.inl z) :: t => by
    have := locO_len (g := g) t
    simpa [lg_sl, locO, tv, Value.category] using this
  | .inr (.inr z) :: t => by
    have := locO_len (g := g) t
    simpa [lg_sl, locO, tv, Value.category] using this
theorem PcO_blind {g : GG} {as : List MV} {σ : Sto} : FrameBlind (PcO g as σ) := by
  intro a U f mk h
  obtain ⟨h1, h2, h3, h4, h5, h6, h7⟩ := h
  exact ⟨h1, h2, va_K.moved (u := U) (U := U.calling f mk a) (Vm.Alike.refl U.vm) h3, h4, Fx_same (u := U) (U := U.calling f mk a) rfl h5, h6, h7⟩
/-- a method's contract out of its body -/
theorem ct_of {y : MethodName} {cc : ByteArray} {nL : Nat} {rt : Option FieldType} {d : Nat} {as : List MV} {σ : Sto} {Q : Option MV → Sto → Prop} (hy : plainName y.cls = true) (loc : List (Option MV)) (hlen : ((locO as).length ≤ nL)) (hloc : locO as ++ List.replicate (nL - (locO as).length) none = loc) (h : okS σ → Wp cc y.cls rt d 0 loc [] σ Q) : Ct y cc nL rt d as σ Q := by
  intro l g
  refine Met.ofW (cc := cc) (maxL := nL) (ret := rt) hy rfl ?_
  intro p e s m args below meth c s₁ B hml hv
  obtain ⟨rfl, hP, hK, hI, hF, hσ, ho⟩ := hv
  have hts := atoms_spec (ws := .code y cc nL rt :: gtb) B.pre
  have hown : s.vm.findClass y.cls = some m.cls := findClass_of_methodNamed B.named
  have hl := lv_entry (as.map (tv g)) (n := nL) (by rw [locO_len]; exact hlen)
  rw [lg_entry_eq]
  have hloclen : loc.length = nL := by rw [← hloc, List.length_append, List.length_replicate]; omega
  refine h hσ g p l e s m _ below meth c s.heap [] _ ⟨B.exec, B.bytes, B.returns, by rw [hml, hloclen], hown, fun w hw => hts w (List.mem_cons_of_mem _ hw), B.notSynchronized, hK, hF, hI⟩ hP va_S.rf hσ ⟨?_, ?_⟩ trivial
  · rw [hloclen, ← hloc, als_pad, locO_als]
    exact hl
  · intro v hv
    rw [← hloc] at hv
    rcases List.mem_append.mp hv with hv | hv
    · exact locO_ok ho v hv
    · rw [List.mem_replicate] at hv
      cases hv.2
end
section
theorem oL_toInt {z : Int} (h : okL z) : (Int64.ofInt z).toInt = z := Int64.toInt_ofInt_of_le h.1 h.2
theorem oL_cmp {a b : Int} (ha : okL a) (hb : okL b) : lg_cmp (Int64.ofInt a) (Int64.ofInt b) = if b < a then 1 else if a = b then 0 else -1 := by
  unfold lg_cmp
  simp only [gt_iff_lt, Int64.lt_iff_toInt_lt, ← Int64.toInt_inj, oL_toInt ha, oL_toInt hb]
theorem i8_id {a : Int} (h0 : -128 ≤ a) (h1 : a < 128) : (Int32.ofInt a).toInt8.toInt32 = Int32.ofInt a := by
  apply Int32.toInt_inj.mp
  have ho : okI a := ⟨by omega, by omega⟩
  rw [Int8.toInt_toInt32, Int32.toInt_toInt8, oI_toInt ho, Int.bmod_def]
  split <;> omega
theorem tv_cat1 {g : GG} {v : MV} (h : ∀ z, v ≠ mL z) : (tv g v).category = 1 := by
  rcases v with z | z | z
  · rfl
  · exact absurd rfl (h z)
  · rfl
section ROWS
variable {cc : ByteArray} {own : String} {rt : Option FieldType} {d pc : Nat} {loc : List (Option MV)} {st : List MV} {σ : Sto} {Q : Option MV → Sto → Prop}
theorem wp_iconst {n : Int} (hd : decode cc pc = .ok (.iconst n, 1)) (hn : okI n) (k : Wp cc own rt d (pc + 1) loc (mI n :: st) σ Q) : Wp cc own rt d pc loc st σ Q := by
  intro g p l e s m args below meth c H locs ls C hP hS hσ hl hst
  exact lv_iconst C.1 C.2.1 hd rfl (k g p l e s m args below meth c H locs ls C hP hS hσ hl ⟨hn, hst⟩)
theorem wp_bipush {n : Int} (hd : decode cc pc = .ok (.bipush n, 2)) (hn : (Int8.ofInt n).toInt32 = Int32.ofInt n) (ho : okI n) (k : Wp cc own rt d (pc + 2) loc (mI n :: st) σ Q) : Wp cc own rt d pc loc st σ Q := by
  intro g p l e s m args below meth c H locs ls C hP hS hσ hl hst
  exact lv_bipush C.1 C.2.1 hd hn (k g p l e s m args below meth c H locs ls C hP hS hσ hl ⟨ho, hst⟩)
theorem wp_sipush {n : Int} (hd : decode cc pc = .ok (.sipush n, 3)) (hn : (Int16.ofInt n).toInt32 = Int32.ofInt n) (ho : okI n) (k : Wp cc own rt d (pc + 3) loc (mI n :: st) σ Q) : Wp cc own rt d pc loc st σ Q := by
  intro g p l e s m args below meth c H locs ls C hP hS hσ hl hst
  exact lv_sipush C.1 C.2.1 hd hn (k g p l e s m args below meth c H locs ls C hP hS hσ hl ⟨ho, hst⟩)
theorem wp_lconst {n : Fin 2} {z : Int} (hd : decode cc pc = .ok (.lconst n, 1)) (hn : Int64.ofNat (n : Nat) = Int64.ofInt z) (ho : okL z) (k : Wp cc own rt d (pc + 1) loc (mL z :: st) σ Q) : Wp cc own rt d pc loc st σ Q := by
  intro g p l e s m args below meth c H locs ls C hP hS hσ hl hst
  exact lv_lconst C.1 C.2.1 hd hn (k g p l e s m args below meth c H locs ls C hP hS hσ hl ⟨ho, hst⟩)
theorem wp_ldc {i : Nat} {v : Int32} {z : Int} (hd : decode cc pc = .ok (.ldc i, 2)) (hc : Cond.constant own i v ∈ gtb) (hv : Int32.ofInt z = v) (ho : okI z) (k : Wp cc own rt d (pc + 2) loc (mI z :: st) σ Q) : Wp cc own rt d pc loc st σ Q := by
  intro g p l e s m args below meth c H locs ls C hP hS hσ hl hst
  refine lv_ldc C.1 C.2.1 C.2.2.2.2.1 (C.2.2.2.2.2.1 _ hc) hd ?_
  rw [← hv]
  exact k g p l e s m args below meth c H locs ls C hP hS hσ hl ⟨ho, hst⟩
theorem wp_ldc_w {i : Nat} {v : Int32} {z : Int} (hd : decode cc pc = .ok (.ldc_w i, 3)) (hc : Cond.constant own i v ∈ gtb) (hv : Int32.ofInt z = v) (ho : okI z) (k : Wp cc own rt d (pc + 3) loc (mI z :: st) σ Q) : Wp cc own rt d pc loc st σ Q := by
  intro g p l e s m args below meth c H locs ls C hP hS hσ hl hst
  refine lv_ldcw C.1 C.2.1 C.2.2.2.2.1 (C.2.2.2.2.2.1 _ hc) hd ?_
  rw [← hv]
  exact k g p l e s m args below meth c H locs ls C hP hS hσ hl ⟨ho, hst⟩
theorem wp_ldc2 {i : Nat} {v : Int64} {z : Int} (hd : decode cc pc = .ok (.ldc2_w i, 3)) (hc : Cond.constantLong own i v ∈ gtb) (hv : Int64.ofInt z = v) (ho : okL z) (k : Wp cc own rt d (pc + 3) loc (mL z :: st) σ Q) : Wp cc own rt d pc loc st σ Q := by
  intro g p l e s m args below meth c H locs ls C hP hS hσ hl hst
  refine lv_ldc2 C.1 C.2.1 C.2.2.2.2.1 (C.2.2.2.2.2.1 _ hc) hd ?_
  rw [← hv]
  exact k g p l e s m args below meth c H locs ls C hP hS hσ hl ⟨ho, hst⟩
theorem wp_iload_n {k : Fin 4} {i : Nat} {z : Int} (hd : decode cc pc = .ok (.iload_n k, 1)) (hi : (k : Nat) = i) (hk : loc[i]? = some (some (mI z))) (k : Wp cc own rt d (pc + 1) loc (mI z :: st) σ Q) : Wp cc own rt d pc loc st σ Q := by
  intro g p l e s m args below meth c H locs ls C hP hS hσ hl hst
  exact lv_iload_n C.1 C.2.1 hd hi (lok_at hl hk).1 (k g p l e s m args below meth c H locs ls C hP hS hσ hl ⟨(lok_at hl hk).2, hst⟩)
theorem wp_iload {i : Nat} {z : Int} (hd : decode cc pc = .ok (.iload i, 2)) (hk : loc[i]? = some (some (mI z))) (k : Wp cc own rt d (pc + 2) loc (mI z :: st) σ Q) : Wp cc own rt d pc loc st σ Q := by
  intro g p l e s m args below meth c H locs ls C hP hS hσ hl hst
  exact lv_iload C.1 C.2.1 hd (lok_at hl hk).1 (k g p l e s m args below meth c H locs ls C hP hS hσ hl ⟨(lok_at hl hk).2, hst⟩)
theorem wp_lload_n {k : Fin 4} {i : Nat} {z : Int} (hd : decode cc pc = .ok (.lload_n k, 1)) (hi : (k : Nat) = i) (hk : loc[i]? = some (some (mL z))) (k : Wp cc own rt d (pc + 1) loc (mL z :: st) σ Q) : Wp cc own rt d pc loc st σ Q := by
  intro g p l e s m args below meth c H locs ls C hP hS hσ hl hst
  exact lv_lload_n C.1 C.2.1 hd hi (lok_at hl hk).1 (k g p l e s m args below meth c H locs ls C hP hS hσ hl ⟨(lok_at hl hk).2, hst⟩)
theorem wp_lload {i : Nat} {z : Int} (hd : decode cc pc = .ok (.lload i, 2)) (hk : loc[i]? = some (some (mL z))) (k : Wp cc own rt d (pc + 2) loc (mL z :: st) σ Q) : Wp cc own rt d pc loc st σ Q := by
  intro g p l e s m args below meth c H locs ls C hP hS hσ hl hst
  exact lv_lload C.1 C.2.1 hd (lok_at hl hk).1 (k g p l e s m args below meth c H locs ls C hP hS hσ hl ⟨(lok_at hl hk).2, hst⟩)
theorem wp_aload_n {k : Fin 4} {i : Nat} {z : Nat} (hd : decode cc pc = .ok (.aload_n k, 1)) (hi : (k : Nat) = i) (hk : loc[i]? = some (some (mR z))) (k : Wp cc own rt d (pc + 1) loc (mR z :: st) σ Q) : Wp cc own rt d pc loc st σ Q := by
  intro g p l e s m args below meth c H locs ls C hP hS hσ hl hst
  exact lv_aload_n C.1 C.2.1 hd hi (lok_at hl hk).1 (k g p l e s m args below meth c H locs ls C hP hS hσ hl ⟨(lok_at hl hk).2, hst⟩)
theorem wp_aload {i : Nat} {z : Nat} (hd : decode cc pc = .ok (.aload i, 2)) (hk : loc[i]? = some (some (mR z))) (k : Wp cc own rt d (pc + 2) loc (mR z :: st) σ Q) : Wp cc own rt d pc loc st σ Q := by
  intro g p l e s m args below meth c H locs ls C hP hS hσ hl hst
  exact lv_aload C.1 C.2.1 hd (lok_at hl hk).1 (k g p l e s m args below meth c H locs ls C hP hS hσ hl ⟨(lok_at hl hk).2, hst⟩)
theorem wp_istore_n {k : Fin 4} {i : Nat} {z : Int} (hd : decode cc pc = .ok (.istore_n k, 1)) (hi : (k : Nat) = i) (hlt : i < loc.length) (hn : noL loc i = true) (k : Wp cc own rt d (pc + 1) (loc.set i (some (mI z))) st σ Q) : Wp cc own rt d pc loc (mI z :: st) σ Q := by
  intro g p l e s m args below meth c H locs ls C hP hS hσ hl hst
  exact lv_istore_n C.1 C.2.1 hd hi hl.1 hlt rfl (fun ls2 h2 => k g p l e s m args below meth c H locs ls2 (by rw [List.length_set]; exact C) hP hS hσ (lok_set h2 hn hl.2 hst.1) hst.2)
theorem wp_istore {i : Nat} {z : Int} (hd : decode cc pc = .ok (.istore i, 2)) (hlt : i < loc.length) (hn : noL loc i = true) (k : Wp cc own rt d (pc + 2) (loc.set i (some (mI z))) st σ Q) : Wp cc own rt d pc loc (mI z :: st) σ Q := by
  intro g p l e s m args below meth c H locs ls C hP hS hσ hl hst
  exact lv_istore C.1 C.2.1 hd hl.1 hlt rfl (fun ls2 h2 => k g p l e s m args below meth c H locs ls2 (by rw [List.length_set]; exact C) hP hS hσ (lok_set h2 hn hl.2 hst.1) hst.2)
theorem wp_astore_n {k : Fin 4} {i : Nat} {z : Nat} (hd : decode cc pc = .ok (.astore_n k, 1)) (hi : (k : Nat) = i) (hlt : i < loc.length) (hn : noL loc i = true) (k : Wp cc own rt d (pc + 1) (loc.set i (some (mR z))) st σ Q) : Wp cc own rt d pc loc (mR z :: st) σ Q := by
  intro g p l e s m args below meth c H locs ls C hP hS hσ hl hst
  exact lv_astore_n C.1 C.2.1 hd hi hl.1 hlt rfl (fun ls2 h2 => k g p l e s m args below meth c H locs ls2 (by rw [List.length_set]; exact C) hP hS hσ (lok_set h2 hn hl.2 hst.1) hst.2)
theorem wp_astore {i : Nat} {z : Nat} (hd : decode cc pc = .ok (.astore i, 2)) (hlt : i < loc.length) (hn : noL loc i = true) (k : Wp cc own rt d (pc + 2) (loc.set i (some (mR z))) st σ Q) : Wp cc own rt d pc loc (mR z :: st) σ Q := by
  intro g p l e s m args below meth c H locs ls C hP hS hσ hl hst
  exact lv_astore C.1 C.2.1 hd hl.1 hlt rfl (fun ls2 h2 => k g p l e s m args below meth c H locs ls2 (by rw [List.length_set]; exact C) hP hS hσ (lok_set h2 hn hl.2 hst.1) hst.2)
theorem wp_iinc {i : Nat} {n z : Int} (hd : decode cc pc = .ok (.iinc i n, 3)) (hk : loc[i]? = some (some (mI z))) (hn : noL loc i = true) (ho : okI (z + n)) (k : Wp cc own rt d (pc + 3) (loc.set i (some (mI (z + n)))) st σ Q) : Wp cc own rt d pc loc st σ Q := by
  intro g p l e s m args below meth c H locs ls C hP hS hσ hl hst
  have hm := als_mem (g := g) loc 0 i hk
  rw [Nat.zero_add] at hm
  obtain ⟨kk, hkk⟩ := List.getElem?_of_mem hm
  have hlt : i < loc.length := (List.getElem?_eq_some_iff.mp hk).1
  exact lv_iinc (v := Int32.ofInt (z + n)) C.1 C.2.1 hd hl.1 hkk (oI_add z n) hlt rfl (fun ls2 h2 => k g p l e s m args below meth c H locs ls2 (by rw [List.length_set]; exact C) hP hS hσ (lok_set (v := mI (z + n)) h2 hn hl.2 ho) hst)
theorem wp_iadd {a b : Int} (hd : decode cc pc = .ok (.iadd, 1)) (ho : okI (a + b)) (k : Wp cc own rt d (pc + 1) loc (mI (a + b) :: st) σ Q) : Wp cc own rt d pc loc (mI b :: mI a :: st) σ Q := by
  intro g p l e s m args below meth c H locs ls C hP hS hσ hl hst
  refine lv_iadd C.1 C.2.1 hd ?_
  rw [oI_add]
  exact k g p l e s m args below meth c H locs ls C hP hS hσ hl ⟨ho, hst.2.2⟩
theorem wp_isub {a b : Int} (hd : decode cc pc = .ok (.isub, 1)) (ho : okI (a - b)) (k : Wp cc own rt d (pc + 1) loc (mI (a - b) :: st) σ Q) : Wp cc own rt d pc loc (mI b :: mI a :: st) σ Q := by
  intro g p l e s m args below meth c H locs ls C hP hS hσ hl hst
  refine lv_isub C.1 C.2.1 hd ?_
  rw [oI_sub]
  exact k g p l e s m args below meth c H locs ls C hP hS hσ hl ⟨ho, hst.2.2⟩
theorem wp_imul {a b : Int} (hd : decode cc pc = .ok (.imul, 1)) (ho : okI (a * b)) (k : Wp cc own rt d (pc + 1) loc (mI (a * b) :: st) σ Q) : Wp cc own rt d pc loc (mI b :: mI a :: st) σ Q := by
  intro g p l e s m args below meth c H locs ls C hP hS hσ hl hst
  refine lv_imul C.1 C.2.1 hd ?_
  rw [oI_mul]
  exact k g p l e s m args below meth c H locs ls C hP hS hσ hl ⟨ho, hst.2.2⟩
theorem wp_idiv {a b : Int} (hd : decode cc pc = .ok (.idiv, 1)) (h0 : 0 ≤ a) (hb : 0 < b) (k : Wp cc own rt d (pc + 1) loc (mI (a / b) :: st) σ Q) : Wp cc own rt d pc loc (mI b :: mI a :: st) σ Q := by
  intro g p l e s m args below meth c H locs ls C hP hS hσ hl hst
  have ha : okI a := hst.2.1
  have hb2 : okI b := hst.1
  have e9 : a.tdiv b = a / b := Int.tdiv_eq_ediv_of_nonneg h0
  have h1 : 0 ≤ a / b := Int.ediv_nonneg h0 (by omega)
  have h2 : a / b ≤ a := Int.ediv_le_self b h0
  have ho : okI (a / b) := ⟨by omega, by have := ha.2; omega⟩
  refine lv_idiv C.1 C.2.1 hd ?_ ?_
  · rw [← oI_0, oI_eq hb2 ok0]; omega
  · rw [oI_div ha hb2 (by rw [e9]; exact ho), e9]
    exact k g p l e s m args below meth c H locs ls C hP hS hσ hl ⟨ho, hst.2.2⟩
theorem wp_ladd {a b : Int} (hd : decode cc pc = .ok (.ladd, 1)) (ho : okL (a + b)) (k : Wp cc own rt d (pc + 1) loc (mL (a + b) :: st) σ Q) : Wp cc own rt d pc loc (mL b :: mL a :: st) σ Q := by
  intro g p l e s m args below meth c H locs ls C hP hS hσ hl hst
  refine lv_ladd C.1 C.2.1 hd ?_
  rw [← Int64.ofInt_add]
  exact k g p l e s m args below meth c H locs ls C hP hS hσ hl ⟨ho, hst.2.2⟩
theorem wp_lmul {a b : Int} (hd : decode cc pc = .ok (.lmul, 1)) (ho : okL (a * b)) (k : Wp cc own rt d (pc + 1) loc (mL (a * b) :: st) σ Q) : Wp cc own rt d pc loc (mL b :: mL a :: st) σ Q := by
  intro g p l e s m args below meth c H locs ls C hP hS hσ hl hst
  refine lv_lmul C.1 C.2.1 hd ?_
  rw [← Int64.ofInt_mul]
  exact k g p l e s m args below meth c H locs ls C hP hS hσ hl ⟨ho, hst.2.2⟩
theorem wp_i2l {a : Int} (hd : decode cc pc = .ok (.i2l, 1)) (k : Wp cc own rt d (pc + 1) loc (mL a :: st) σ Q) : Wp cc own rt d pc loc (mI a :: st) σ Q := by
  intro g p l e s m args below meth c H locs ls C hP hS hσ hl hst
  have ha : okI a := hst.1
  have ho : okL a := ⟨by have := ha.1; omega, by have := ha.2; omega⟩
  refine lv_i2l C.1 C.2.1 hd (v := Int64.ofInt a) ?_ (k g p l e s m args below meth c H locs ls C hP hS hσ hl ⟨ho, hst.2⟩)
  apply Int64.toInt_inj.mp
  rw [Int32.toInt_toInt64, oI_toInt ha, oL_toInt ho]
theorem wp_i2b {a : Int} (hd : decode cc pc = .ok (.i2b, 1)) (h0 : -128 ≤ a) (h1 : a < 128) (k : Wp cc own rt d (pc + 1) loc (mI a :: st) σ Q) : Wp cc own rt d pc loc (mI a :: st) σ Q := by
  intro g p l e s m args below meth c H locs ls C hP hS hσ hl hst
  refine lv_i2b C.1 C.2.1 hd (v := Int32.ofInt a) (i8_id h0 h1) (k g p l e s m args below meth c H locs ls C hP hS hσ hl hst)
theorem lc_lt (a b : Int) : ((if b < a then (1 : Int32) else if a = b then 0 else -1) < 0) ↔ (a < b) := by
  rcases Int.lt_trichotomy a b with q | q | q
  · rw [if_neg (by omega), if_neg (by omega)]
    first | exact iff_of_true (by decide) (by omega) | exact iff_of_false (by decide) (by omega)
  · rw [if_neg (by omega), if_pos q]
    first | exact iff_of_true (by decide) (by omega) | exact iff_of_false (by decide) (by omega)
  · rw [if_pos q]
    first | exact iff_of_true (by decide) (by omega) | exact iff_of_false (by decide) (by omega)
theorem wp_lcmp_lt {a b off : Int} (tgt : Nat) (hd : decode cc pc = .ok (.lcmp, 1)) (hd2 : decode cc (pc + 1) = .ok (.ifCond .lt off, 3)) (ht : ((pc + 1 : Nat) : Int) + off = (tgt : Int)) (kt : a < b → Wp cc own rt d tgt loc st σ Q) (kf : ¬ (a < b) → Wp cc own rt d (pc + 4) loc st σ Q) : Wp cc own rt d pc loc (mL b :: mL a :: st) σ Q := by
  intro g p l e s m args below meth c H locs ls C hP hS hσ hl hst
  have ha : okL a := hst.2.1
  have hb : okL b := hst.1
  refine W.lcmp C.1 C.2.1 hd ?_
  rw [oL_cmp ha hb]
  refine lv_if_lt (tgt := tgt) C.1 C.2.1 hd2 ht (fun h => ?_) (fun h => ?_)
  · exact kt ((lc_lt a b).mp h) g p l e s m args below meth c H locs ls C hP hS hσ hl hst.2.2
  · exact kf (fun q => h ((lc_lt a b).mpr q)) g p l e s m args below meth c H locs ls C hP hS hσ hl hst.2.2
theorem lc_ge (a b : Int) : (0 ≤ (if b < a then (1 : Int32) else if a = b then 0 else -1)) ↔ (b ≤ a) := by
  rcases Int.lt_trichotomy a b with q | q | q
  · rw [if_neg (by omega), if_neg (by omega)]
    first | exact iff_of_true (by decide) (by omega) | exact iff_of_false (by decide) (by omega)
  · rw [if_neg (by omega), if_pos q]
    first | exact iff_of_true (by decide) (by omega) | exact iff_of_false (by decide) (by omega)
  · rw [if_pos q]
    first | exact iff_of_true (by decide) (by omega) | exact iff_of_false (by decide) (by omega)
theorem wp_lcmp_ge {a b off : Int} (tgt : Nat) (hd : decode cc pc = .ok (.lcmp, 1)) (hd2 : decode cc (pc + 1) = .ok (.ifCond .ge off, 3)) (ht : ((pc + 1 : Nat) : Int) + off = (tgt : Int)) (kt : b ≤ a → Wp cc own rt d tgt loc st σ Q) (kf : ¬ (b ≤ a) → Wp cc own rt d (pc + 4) loc st σ Q) : Wp cc own rt d pc loc (mL b :: mL a :: st) σ Q := by
  intro g p l e s m args below meth c H locs ls C hP hS hσ hl hst
  have ha : okL a := hst.2.1
  have hb : okL b := hst.1
  refine W.lcmp C.1 C.2.1 hd ?_
  rw [oL_cmp ha hb]
  refine lv_if_ge (tgt := tgt) C.1 C.2.1 hd2 ht (fun h => ?_) (fun h => ?_)
  · exact kt ((lc_ge a b).mp h) g p l e s m args below meth c H locs ls C hP hS hσ hl hst.2.2
  · exact kf (fun q => h ((lc_ge a b).mpr q)) g p l e s m args below meth c H locs ls C hP hS hσ hl hst.2.2
theorem lc_gt (a b : Int) : (0 < (if b < a then (1 : Int32) else if a = b then 0 else -1)) ↔ (b < a) := by
  rcases Int.lt_trichotomy a b with q | q | q
  · rw [if_neg (by omega), if_neg (by omega)]
    first | exact iff_of_true (by decide) (by omega) | exact iff_of_false (by decide) (by omega)
  · rw [if_neg (by omega), if_pos q]
    first | exact iff_of_true (by decide) (by omega) | exact iff_of_false (by decide) (by omega)
  · rw [if_pos q]
    first | exact iff_of_true (by decide) (by omega) | exact iff_of_false (by decide) (by omega)
theorem wp_lcmp_gt {a b off : Int} (tgt : Nat) (hd : decode cc pc = .ok (.lcmp, 1)) (hd2 : decode cc (pc + 1) = .ok (.ifCond .gt off, 3)) (ht : ((pc + 1 : Nat) : Int) + off = (tgt : Int)) (kt : b < a → Wp cc own rt d tgt loc st σ Q) (kf : ¬ (b < a) → Wp cc own rt d (pc + 4) loc st σ Q) : Wp cc own rt d pc loc (mL b :: mL a :: st) σ Q := by
  intro g p l e s m args below meth c H locs ls C hP hS hσ hl hst
  have ha : okL a := hst.2.1
  have hb : okL b := hst.1
  refine W.lcmp C.1 C.2.1 hd ?_
  rw [oL_cmp ha hb]
  refine lv_if_gt (tgt := tgt) C.1 C.2.1 hd2 ht (fun h => ?_) (fun h => ?_)
  · exact kt ((lc_gt a b).mp h) g p l e s m args below meth c H locs ls C hP hS hσ hl hst.2.2
  · exact kf (fun q => h ((lc_gt a b).mpr q)) g p l e s m args below meth c H locs ls C hP hS hσ hl hst.2.2
theorem lc_le (a b : Int) : ((if b < a then (1 : Int32) else if a = b then 0 else -1) ≤ 0) ↔ (a ≤ b) := by
  rcases Int.lt_trichotomy a b with q | q | q
  · rw [if_neg (by omega), if_neg (by omega)]
    first | exact iff_of_true (by decide) (by omega) | exact iff_of_false (by decide) (by omega)
  · rw [if_neg (by omega), if_pos q]
    first | exact iff_of_true (by decide) (by omega) | exact iff_of_false (by decide) (by omega)
  · rw [if_pos q]
    first | exact iff_of_true (by decide) (by omega) | exact iff_of_false (by decide) (by omega)
theorem wp_lcmp_le {a b off : Int} (tgt : Nat) (hd : decode cc pc = .ok (.lcmp, 1)) (hd2 : decode cc (pc + 1) = .ok (.ifCond .le off, 3)) (ht : ((pc + 1 : Nat) : Int) + off = (tgt : Int)) (kt : a ≤ b → Wp cc own rt d tgt loc st σ Q) (kf : ¬ (a ≤ b) → Wp cc own rt d (pc + 4) loc st σ Q) : Wp cc own rt d pc loc (mL b :: mL a :: st) σ Q := by
  intro g p l e s m args below meth c H locs ls C hP hS hσ hl hst
  have ha : okL a := hst.2.1
  have hb : okL b := hst.1
  refine W.lcmp C.1 C.2.1 hd ?_
  rw [oL_cmp ha hb]
  refine lv_if_le (tgt := tgt) C.1 C.2.1 hd2 ht (fun h => ?_) (fun h => ?_)
  · exact kt ((lc_le a b).mp h) g p l e s m args below meth c H locs ls C hP hS hσ hl hst.2.2
  · exact kf (fun q => h ((lc_le a b).mpr q)) g p l e s m args below meth c H locs ls C hP hS hσ hl hst.2.2
theorem lc_eq (a b : Int) : ((if b < a then (1 : Int32) else if a = b then 0 else -1) = 0) ↔ (a = b) := by
  rcases Int.lt_trichotomy a b with q | q | q
  · rw [if_neg (by omega), if_neg (by omega)]
    first | exact iff_of_true (by decide) (by omega) | exact iff_of_false (by decide) (by omega)
  · rw [if_neg (by omega), if_pos q]
    first | exact iff_of_true (by decide) (by omega) | exact iff_of_false (by decide) (by omega)
  · rw [if_pos q]
    first | exact iff_of_true (by decide) (by omega) | exact iff_of_false (by decide) (by omega)
theorem wp_lcmp_eq {a b off : Int} (tgt : Nat) (hd : decode cc pc = .ok (.lcmp, 1)) (hd2 : decode cc (pc + 1) = .ok (.ifCond .eq off, 3)) (ht : ((pc + 1 : Nat) : Int) + off = (tgt : Int)) (kt : a = b → Wp cc own rt d tgt loc st σ Q) (kf : ¬ (a = b) → Wp cc own rt d (pc + 4) loc st σ Q) : Wp cc own rt d pc loc (mL b :: mL a :: st) σ Q := by
  intro g p l e s m args below meth c H locs ls C hP hS hσ hl hst
  have ha : okL a := hst.2.1
  have hb : okL b := hst.1
  refine W.lcmp C.1 C.2.1 hd ?_
  rw [oL_cmp ha hb]
  refine lv_if_eq (tgt := tgt) C.1 C.2.1 hd2 ht (fun h => ?_) (fun h => ?_)
  · exact kt ((lc_eq a b).mp h) g p l e s m args below meth c H locs ls C hP hS hσ hl hst.2.2
  · exact kf (fun q => h ((lc_eq a b).mpr q)) g p l e s m args below meth c H locs ls C hP hS hσ hl hst.2.2
theorem lc_ne (a b : Int) : (¬ (if b < a then (1 : Int32) else if a = b then 0 else -1) = 0) ↔ (¬ a = b) := by
  rcases Int.lt_trichotomy a b with q | q | q
  · rw [if_neg (by omega), if_neg (by omega)]
    first | exact iff_of_true (by decide) (by omega) | exact iff_of_false (by decide) (by omega)
  · rw [if_neg (by omega), if_pos q]
    first | exact iff_of_true (by decide) (by omega) | exact iff_of_false (by decide) (by omega)
  · rw [if_pos q]
    first | exact iff_of_true (by decide) (by omega) | exact iff_of_false (by decide) (by omega)
theorem wp_lcmp_ne {a b off : Int} (tgt : Nat) (hd : decode cc pc = .ok (.lcmp, 1)) (hd2 : decode cc (pc + 1) = .ok (.ifCond .ne off, 3)) (ht : ((pc + 1 : Nat) : Int) + off = (tgt : Int)) (kt : ¬ a = b → Wp cc own rt d tgt loc st σ Q) (kf : a = b → Wp cc own rt d (pc + 4) loc st σ Q) : Wp cc own rt d pc loc (mL b :: mL a :: st) σ Q := by
  intro g p l e s m args below meth c H locs ls C hP hS hσ hl hst
  have ha : okL a := hst.2.1
  have hb : okL b := hst.1
  refine W.lcmp C.1 C.2.1 hd ?_
  rw [oL_cmp ha hb]
  refine lv_if_ne (tgt := tgt) C.1 C.2.1 hd2 ht (fun h => ?_) (fun h => ?_)
  · exact kt ((lc_ne a b).mp h) g p l e s m args below meth c H locs ls C hP hS hσ hl hst.2.2
  · exact kf (Classical.byContradiction (fun q => (lc_ne a b).mpr q h)) g p l e s m args below meth c H locs ls C hP hS hσ hl hst.2.2
theorem wp_if_eq {z off : Int} (tgt : Nat) (hd : decode cc pc = .ok (.ifCond .eq off, 3)) (ht : (pc : Int) + off = (tgt : Int)) (kt : z = 0 → Wp cc own rt d tgt loc st σ Q) (kf : ¬ (z = 0) → Wp cc own rt d (pc + 3) loc st σ Q) : Wp cc own rt d pc loc (mI z :: st) σ Q := by
  intro g p l e s m args below meth c H locs ls C hP hS hσ hl hst
  have hz : okI z := hst.1
  exact lv_if_eq (tgt := tgt) C.1 C.2.1 hd ht (fun h => kt (by rw [← oI_0] at h; rwa [oI_eq hz ok0] at h) g p l e s m args below meth c H locs ls C hP hS hσ hl hst.2) (fun h => kf (by rw [← oI_0] at h; rwa [oI_eq hz ok0] at h) g p l e s m args below meth c H locs ls C hP hS hσ hl hst.2)
theorem wp_if_ne {z off : Int} (tgt : Nat) (hd : decode cc pc = .ok (.ifCond .ne off, 3)) (ht : (pc : Int) + off = (tgt : Int)) (kt : ¬ z = 0 → Wp cc own rt d tgt loc st σ Q) (kf : z = 0 → Wp cc own rt d (pc + 3) loc st σ Q) : Wp cc own rt d pc loc (mI z :: st) σ Q := by
  intro g p l e s m args below meth c H locs ls C hP hS hσ hl hst
  have hz : okI z := hst.1
  exact lv_if_ne (tgt := tgt) C.1 C.2.1 hd ht (fun h => kt (by rw [← oI_0] at h; rwa [oI_eq hz ok0] at h) g p l e s m args below meth c H locs ls C hP hS hσ hl hst.2) (fun h => kf (by rw [← oI_0] at h; rwa [oI_eq hz ok0] at h) g p l e s m args below meth c H locs ls C hP hS hσ hl hst.2)
theorem wp_if_lt {z off : Int} (tgt : Nat) (hd : decode cc pc = .ok (.ifCond .lt off, 3)) (ht : (pc : Int) + off = (tgt : Int)) (kt : z < 0 → Wp cc own rt d tgt loc st σ Q) (kf : ¬ (z < 0) → Wp cc own rt d (pc + 3) loc st σ Q) : Wp cc own rt d pc loc (mI z :: st) σ Q := by
  intro g p l e s m args below meth c H locs ls C hP hS hσ hl hst
  have hz : okI z := hst.1
  exact lv_if_lt (tgt := tgt) C.1 C.2.1 hd ht (fun h => kt (by rw [← oI_0] at h; rwa [oI_lt hz ok0] at h) g p l e s m args below meth c H locs ls C hP hS hσ hl hst.2) (fun h => kf (by rw [← oI_0] at h; rwa [oI_lt hz ok0] at h) g p l e s m args below meth c H locs ls C hP hS hσ hl hst.2)
theorem wp_if_ge {z off : Int} (tgt : Nat) (hd : decode cc pc = .ok (.ifCond .ge off, 3)) (ht : (pc : Int) + off = (tgt : Int)) (kt : 0 ≤ z → Wp cc own rt d tgt loc st σ Q) (kf : ¬ (0 ≤ z) → Wp cc own rt d (pc + 3) loc st σ Q) : Wp cc own rt d pc loc (mI z :: st) σ Q := by
  intro g p l e s m args below meth c H locs ls C hP hS hσ hl hst
  have hz : okI z := hst.1
  exact lv_if_ge (tgt := tgt) C.1 C.2.1 hd ht (fun h => kt (by rw [← oI_0] at h; rwa [oI_le ok0 hz] at h) g p l e s m args below meth c H locs ls C hP hS hσ hl hst.2) (fun h => kf (by rw [← oI_0] at h; rwa [oI_le ok0 hz] at h) g p l e s m args below meth c H locs ls C hP hS hσ hl hst.2)
theorem wp_if_gt {z off : Int} (tgt : Nat) (hd : decode cc pc = .ok (.ifCond .gt off, 3)) (ht : (pc : Int) + off = (tgt : Int)) (kt : 0 < z → Wp cc own rt d tgt loc st σ Q) (kf : ¬ (0 < z) → Wp cc own rt d (pc + 3) loc st σ Q) : Wp cc own rt d pc loc (mI z :: st) σ Q := by
  intro g p l e s m args below meth c H locs ls C hP hS hσ hl hst
  have hz : okI z := hst.1
  exact lv_if_gt (tgt := tgt) C.1 C.2.1 hd ht (fun h => kt (by rw [← oI_0] at h; rwa [oI_lt ok0 hz] at h) g p l e s m args below meth c H locs ls C hP hS hσ hl hst.2) (fun h => kf (by rw [← oI_0] at h; rwa [oI_lt ok0 hz] at h) g p l e s m args below meth c H locs ls C hP hS hσ hl hst.2)
theorem wp_if_le {z off : Int} (tgt : Nat) (hd : decode cc pc = .ok (.ifCond .le off, 3)) (ht : (pc : Int) + off = (tgt : Int)) (kt : z ≤ 0 → Wp cc own rt d tgt loc st σ Q) (kf : ¬ (z ≤ 0) → Wp cc own rt d (pc + 3) loc st σ Q) : Wp cc own rt d pc loc (mI z :: st) σ Q := by
  intro g p l e s m args below meth c H locs ls C hP hS hσ hl hst
  have hz : okI z := hst.1
  exact lv_if_le (tgt := tgt) C.1 C.2.1 hd ht (fun h => kt (by rw [← oI_0] at h; rwa [oI_le hz ok0] at h) g p l e s m args below meth c H locs ls C hP hS hσ hl hst.2) (fun h => kf (by rw [← oI_0] at h; rwa [oI_le hz ok0] at h) g p l e s m args below meth c H locs ls C hP hS hσ hl hst.2)
theorem wp_icmp_eq {a b off : Int} (tgt : Nat) (hd : decode cc pc = .ok (.if_icmp .eq off, 3)) (ht : (pc : Int) + off = (tgt : Int)) (kt : a = b → Wp cc own rt d tgt loc st σ Q) (kf : ¬ (a = b) → Wp cc own rt d (pc + 3) loc st σ Q) : Wp cc own rt d pc loc (mI b :: mI a :: st) σ Q := by
  intro g p l e s m args below meth c H locs ls C hP hS hσ hl hst
  have ha : okI a := hst.2.1
  have hb : okI b := hst.1
  exact lv_icmp_eq (tgt := tgt) C.1 C.2.1 hd ht (fun h => kt (by rwa [oI_eq ha hb] at h) g p l e s m args below meth c H locs ls C hP hS hσ hl hst.2.2) (fun h => kf (by rwa [oI_eq ha hb] at h) g p l e s m args below meth c H locs ls C hP hS hσ hl hst.2.2)
theorem wp_icmp_ne {a b off : Int} (tgt : Nat) (hd : decode cc pc = .ok (.if_icmp .ne off, 3)) (ht : (pc : Int) + off = (tgt : Int)) (kt : ¬ a = b → Wp cc own rt d tgt loc st σ Q) (kf : a = b → Wp cc own rt d (pc + 3) loc st σ Q) : Wp cc own rt d pc loc (mI b :: mI a :: st) σ Q := by
  intro g p l e s m args below meth c H locs ls C hP hS hσ hl hst
  have ha : okI a := hst.2.1
  have hb : okI b := hst.1
  exact lv_icmp_ne (tgt := tgt) C.1 C.2.1 hd ht (fun h => kt (by rwa [oI_eq ha hb] at h) g p l e s m args below meth c H locs ls C hP hS hσ hl hst.2.2) (fun h => kf (by rwa [oI_eq ha hb] at h) g p l e s m args below meth c H locs ls C hP hS hσ hl hst.2.2)
theorem wp_icmp_lt {a b off : Int} (tgt : Nat) (hd : decode cc pc = .ok (.if_icmp .lt off, 3)) (ht : (pc : Int) + off = (tgt : Int)) (kt : a < b → Wp cc own rt d tgt loc st σ Q) (kf : ¬ (a < b) → Wp cc own rt d (pc + 3) loc st σ Q) : Wp cc own rt d pc loc (mI b :: mI a :: st) σ Q := by
  intro g p l e s m args below meth c H locs ls C hP hS hσ hl hst
  have ha : okI a := hst.2.1
  have hb : okI b := hst.1
  exact lv_icmp_lt (tgt := tgt) C.1 C.2.1 hd ht (fun h => kt (by rwa [oI_lt ha hb] at h) g p l e s m args below meth c H locs ls C hP hS hσ hl hst.2.2) (fun h => kf (by rwa [oI_lt ha hb] at h) g p l e s m args below meth c H locs ls C hP hS hσ hl hst.2.2)
theorem wp_icmp_ge {a b off : Int} (tgt : Nat) (hd : decode cc pc = .ok (.if_icmp .ge off, 3)) (ht : (pc : Int) + off = (tgt : Int)) (kt : b ≤ a → Wp cc own rt d tgt loc st σ Q) (kf : ¬ (b ≤ a) → Wp cc own rt d (pc + 3) loc st σ Q) : Wp cc own rt d pc loc (mI b :: mI a :: st) σ Q := by
  intro g p l e s m args below meth c H locs ls C hP hS hσ hl hst
  have ha : okI a := hst.2.1
  have hb : okI b := hst.1
  exact lv_icmp_ge (tgt := tgt) C.1 C.2.1 hd ht (fun h => kt (by rwa [oI_le hb ha] at h) g p l e s m args below meth c H locs ls C hP hS hσ hl hst.2.2) (fun h => kf (by rwa [oI_le hb ha] at h) g p l e s m args below meth c H locs ls C hP hS hσ hl hst.2.2)
theorem wp_icmp_gt {a b off : Int} (tgt : Nat) (hd : decode cc pc = .ok (.if_icmp .gt off, 3)) (ht : (pc : Int) + off = (tgt : Int)) (kt : b < a → Wp cc own rt d tgt loc st σ Q) (kf : ¬ (b < a) → Wp cc own rt d (pc + 3) loc st σ Q) : Wp cc own rt d pc loc (mI b :: mI a :: st) σ Q := by
  intro g p l e s m args below meth c H locs ls C hP hS hσ hl hst
  have ha : okI a := hst.2.1
  have hb : okI b := hst.1
  exact lv_icmp_gt (tgt := tgt) C.1 C.2.1 hd ht (fun h => kt (by rwa [oI_lt hb ha] at h) g p l e s m args below meth c H locs ls C hP hS hσ hl hst.2.2) (fun h => kf (by rwa [oI_lt hb ha] at h) g p l e s m args below meth c H locs ls C hP hS hσ hl hst.2.2)
theorem wp_icmp_le {a b off : Int} (tgt : Nat) (hd : decode cc pc = .ok (.if_icmp .le off, 3)) (ht : (pc : Int) + off = (tgt : Int)) (kt : a ≤ b → Wp cc own rt d tgt loc st σ Q) (kf : ¬ (a ≤ b) → Wp cc own rt d (pc + 3) loc st σ Q) : Wp cc own rt d pc loc (mI b :: mI a :: st) σ Q := by
  intro g p l e s m args below meth c H locs ls C hP hS hσ hl hst
  have ha : okI a := hst.2.1
  have hb : okI b := hst.1
  exact lv_icmp_le (tgt := tgt) C.1 C.2.1 hd ht (fun h => kt (by rwa [oI_le ha hb] at h) g p l e s m args below meth c H locs ls C hP hS hσ hl hst.2.2) (fun h => kf (by rwa [oI_le ha hb] at h) g p l e s m args below meth c H locs ls C hP hS hσ hl hst.2.2)
theorem wp_goto {off : Int} (tgt : Nat) (hd : decode cc pc = .ok (.goto off, 3)) (ht : (pc : Int) + off = (tgt : Int)) (k : Wp cc own rt d tgt loc st σ Q) : Wp cc own rt d pc loc st σ Q := by
  intro g p l e s m args below meth c H locs ls C hP hS hσ hl hst
  exact lv_goto (tgt := tgt) C.1 C.2.1 hd ht (k g p l e s m args below meth c H locs ls C hP hS hσ hl hst)
theorem wp_pop {v : MV} (hd : decode cc pc = .ok (.pop, 1)) (hv : ∀ z, v ≠ mL z) (k : Wp cc own rt d (pc + 1) loc st σ Q) : Wp cc own rt d pc loc (v :: st) σ Q := by
  intro g p l e s m args below meth c H locs ls C hP hS hσ hl hst
  exact lv_pop C.1 C.2.1 hd (tv_cat1 hv) (k g p l e s m args below meth c H locs ls C hP hS hσ hl hst.2)
theorem wp_dup {v : MV} (hd : decode cc pc = .ok (.dup, 1)) (hv : ∀ z, v ≠ mL z) (k : Wp cc own rt d (pc + 1) loc (v :: v :: st) σ Q) : Wp cc own rt d pc loc (v :: st) σ Q := by
  intro g p l e s m args below meth c H locs ls C hP hS hσ hl hst
  exact lv_dup C.1 C.2.1 hd (tv_cat1 hv) (k g p l e s m args below meth c H locs ls C hP hS hσ hl ⟨hst.1, hst⟩)
theorem wp_dup2 {v u : MV} (hd : decode cc pc = .ok (.dup2, 1)) (hv : ∀ z, v ≠ mL z) (hu : ∀ z, u ≠ mL z) (k : Wp cc own rt d (pc + 1) loc (v :: u :: v :: u :: st) σ Q) : Wp cc own rt d pc loc (v :: u :: st) σ Q := by
  intro g p l e s m args below meth c H locs ls C hP hS hσ hl hst
  exact lv_dup2_11 C.1 C.2.1 hd (tv_cat1 hv) (tv_cat1 hu) (k g p l e s m args below meth c H locs ls C hP hS hσ hl ⟨hst.1, hst.2.1, hst⟩)
theorem wp_ireturn {z : Int} (hd : decode cc pc = .ok (.ireturn, 1)) (hr : rt = some .int) (hq : Q (some (mI z)) σ) : Wp cc own rt d pc loc [mI z] σ Q := by
  intro g p l e s m args below meth c H locs ls C hP hS hσ hl hst
  exact W.iret C.1 C.2.1 (by rw [C.2.2.1, hr]) (fun t ht hW => ⟨⟨some (mI z), σ, rfl, hq, hσ, fun v hv => by cases hv; exact hst.1, by rw [ht]; exact hP⟩, hS.F ht⟩) hS.2.2 hd C.2.2.2.2.2.2.1
theorem wp_zreturn {z : Int} (hd : decode cc pc = .ok (.ireturn, 1)) (hr : rt = some .boolean) (hz : z = 0 ∨ z = 1) (hq : Q (some (mI z)) σ) : Wp cc own rt d pc loc [mI z] σ Q := by
  intro g p l e s m args below meth c H locs ls C hP hS hσ hl hst
  exact W.zret C.1 C.2.1 (ty := .boolean) (by rw [C.2.2.1, hr]) (by rcases hz with rfl | rfl <;> rfl) (fun t ht hW => ⟨⟨some (mI z), σ, rfl, hq, hσ, fun v hv => by cases hv; exact hst.1, by rw [ht]; exact hP⟩, hS.F ht⟩) hS.2.2 hd C.2.2.2.2.2.2.1
theorem wp_return  (hd : decode cc pc = .ok (.return_, 1)) (hr : rt = none) (hq : Q none σ) : Wp cc own rt d pc loc [] σ Q := by
  intro g p l e s m args below meth c H locs ls C hP hS hσ hl hst
  exact W.vret C.1 C.2.1 (by rw [C.2.2.1, hr]) (fun t ht hW => ⟨⟨none, σ, rfl, hq, hσ, (fun v hv => by cases hv), by rw [ht]; exact hP⟩, hS.F ht⟩) hS.2.2 hd C.2.2.2.2.2.2.1
theorem wp_areturn {z : Nat} {n : String} (hd : decode cc pc = .ok (.areturn, 1)) (hr : rt = some (.object n)) (hq : Q (some (mR z)) σ) : Wp cc own rt d pc loc [mR z] σ Q := by
  intro g p l e s m args below meth c H locs ls C hP hS hσ hl hst
  exact W.aret C.1 C.2.1 (by rw [C.2.2.1, hr]) (Or.inl ⟨n, rfl⟩) (Or.inr ⟨_, rfl⟩) (fun t ht hW => ⟨⟨some (mR z), σ, rfl, hq, hσ, fun v hv => by cases hv; exact hst.1, by rw [ht]; exact hP⟩, hS.F ht⟩) hS.2.2 hd C.2.2.2.2.2.2.1
end ROWS
end
section
theorem inG {ws : List Cond} (ps : List Nat) (h : ps.map (fun i => tables_1[i]?) = ws.map some) (hg : ws.all goodWord = true) : ∀ w ∈ ws, w ∈ gtb := by
  intro w hw
  refine gtb_of ?_ (List.all_eq_true.mp hg w hw)
  have h1 : some w ∈ ws.map some := List.mem_map.mpr ⟨w, hw, rfl⟩
  rw [← h] at h1
  obtain ⟨i, -, hi⟩ := List.mem_map.mp h1
  exact tb_mem hi
def clsOK (ci : Nat) (C : String) (T : u_T) (N : Nat) : Prop := vwCl[ci]? = some (C, T, N) ∧ (∀ w ∈ u_ws C T N, w ∈ gtb) ∧ (∃ ty0 : Nat → FieldType, ∀ k, k < N → parseFieldDescriptor (T k).2.2.1 = some (ty0 k)) ∧ (∀ a, a < N → ∀ b, b < N → a ≠ b → (T a).2.1 ≠ (T b).2.1)
def FLk (own : String) (idx ci k : Nat) (C : String) (T : u_T) (N : Nat) : Prop := clsOK ci C T N ∧ k < N ∧ (T k).1 = C ∧ (Cond.fieldLink own idx C (T k).2.1 (T k).2.2.1 ∈ gtb ∨ ∃ host, Cond.fieldLinkNest own idx C (T k).2.1 (T k).2.2.1 host ∈ lw_tbl)
def fOk (r ci k : Nat) (x : Option Nat) : Bool := decide (r < NC) && (kd r == ci) && decide (ci < 100) && decide (k < fdn r) && (fld r k == x)
theorem fOk_at {r ci k : Nat} {x : Option Nat} (h : fOk r ci k x = true) : r < NC ∧ kd r = ci ∧ ci < 100 ∧ k < fdn r ∧ fld r k = x := by
  simp only [fOk, Bool.and_eq_true, decide_eq_true_eq, beq_iff_eq] at h
  exact ⟨h.1.1.1.1, h.1.1.1.2, h.1.1.2, h.1.2, h.2⟩
def aOk (r kk n : Nat) : Bool := decide (r < NC) && (kd r == kk) && (ln r == n)
theorem aOk_at {r kk n : Nat} (h : aOk r kk n = true) : r < NC ∧ kd r = kk ∧ ln r = n := by
  simp only [aOk, Bool.and_eq_true, decide_eq_true_eq, beq_iff_eq] at h
  exact ⟨h.1.1, h.1.2, h.2⟩
def oOk (r ci : Nat) : Bool := decide (r < NC) && (kd r == ci) && decide (ci < 100)
theorem oOk_at {r ci : Nat} (h : oOk r ci = true) : r < NC ∧ kd r = ci ∧ ci < 100 := by
  simp only [oOk, Bool.and_eq_true, decide_eq_true_eq, beq_iff_eq] at h
  exact ⟨h.1.1, h.1.2, h.2⟩
theorem fsO_at {g : GG} {σ : Sto} {r k : Nat} (h : k < fdn r) : (fsO g σ r)[k]? = some (fvO g σ r k) := by
  simp [fsO, List.getElem?_map, List.getElem?_range h]
theorem okS_upd {σ : Sto} {r : Nat} {k v : Int} (h : okS σ) (hv : okI v) : okS (upd2 σ r k v) := by
  intro q j
  simp only [upd2]
  split
  · exact hv
  · exact h q j
section FLD
variable {cc : ByteArray} {own : String} {rt : Option FieldType} {d pc : Nat} {loc : List (Option MV)} {st : List MV} {σ : Sto} {Q : Option MV → Sto → Prop}
theorem wp_get {idx ci k : Nat} {C : String} {T : u_T} {N r : Nat} {x : Option Nat} {v : MV} (hd : decode cc pc = .ok (.getfield idx, 3)) (hl : FLk own idx ci k C T N) (hf : fOk r ci k x = true) (hv : ∀ g, fvO g σ r k = tv g v) (hov : okS σ → okv v) (kk : Wp cc own rt d (pc + 3) loc (v :: st) σ Q) : Wp cc own rt d pc loc (mR r :: st) σ Q := by
  intro g p l e s m args below meth c H locs ls Cx hP hS hσ hlo hst
  obtain ⟨hr, hk, hc, hkn, -⟩ := fOk_at hf
  obtain ⟨⟨h1, h2, -, -⟩, h5, h6, h7⟩ := hl
  have hat : (wsO g σ)[r]? = some (gad g r, .inr (ci, fsO g σ r)) := wsO_obj hr hk hc
  have hfv : (fsO g σ r)[k]? = some (tv g v) := by rw [fsO_at hkn, hv g]
  have kk' := kk g p l e s m args below meth c H locs ls Cx hP hS hσ hlo ⟨hov hσ, hst.2⟩
  obtain ⟨c1, c2, c3, c4, c5, c6, c7, c8, c9, c10⟩ := Cx
  rcases h7 with h7 | ⟨host, h7⟩
  · exact va_get (ref := C) (C := C) (T := T) (N := N) c1 c2 c6 h2 c5 c8 hP r hat h1 k h5 (c6 _ h7) (fun x hx => by rw [h6] at hx; exact hx) hfv hd kk'
  · exact va_getN (ref := C) (C := C) (T := T) (N := N) (host := host) c1 c2 c6 h2 c5 c8 hP r hat h1 k h5 (va_Nw.use rfl (c9.1 _ h7 rfl)) (fun x hx => by rw [h6] at hx; exact hx) hfv hd kk'
theorem wp_getI {idx ci k : Nat} {C : String} {T : u_T} {N r : Nat} (kz : Int) (hd : decode cc pc = .ok (.getfield idx, 3)) (hl : FLk own idx ci k C T N) (hf : fOk r ci k none = true) (hk : (k : Int) = kz) (kk : Wp cc own rt d (pc + 3) loc (mI (σ r kz) :: st) σ Q) : Wp cc own rt d pc loc (mR r :: st) σ Q :=
  wp_get (v := mI (σ r kz)) hd hl hf (fun g => by rw [fvO, (fOk_at hf).2.2.2.2, hk]; rfl) (fun h => h r kz) kk
theorem wp_getR {idx ci k : Nat} {C : String} {T : u_T} {N r q : Nat} (hd : decode cc pc = .ok (.getfield idx, 3)) (hl : FLk own idx ci k C T N) (hf : fOk r ci k (some q) = true) (kk : Wp cc own rt d (pc + 3) loc (mR q :: st) σ Q) : Wp cc own rt d pc loc (mR r :: st) σ Q :=
  wp_get (v := mR q) hd hl hf (fun g => by rw [fvO, (fOk_at hf).2.2.2.2]; rfl) (fun _ => trivial) kk
theorem wp_put {idx ci k : Nat} {C : String} {T : u_T} {N r : Nat} {ty : FieldType} {z : Int} (kz : Int) (hd : decode cc pc = .ok (.putfield idx, 3)) (hl : FLk own idx ci k C T N) (hp : (T k).2.2.2 = false ∧ parseFieldDescriptor (T k).2.2.1 = some ty) (hf : fOk r ci k none = true) (hk : (k : Int) = kz) (hn : narrow ty (.int (Int32.ofInt z)) = .int (Int32.ofInt z)) (hfit : fits ty (.int (Int32.ofInt z)) = true) (kk : Wp cc own rt d (pc + 3) loc st (upd2 σ r kz z) Q) : Wp cc own rt d pc loc (mI z :: mR r :: st) σ Q := by
  intro g p l e s m args below meth c H locs ls Cx hP hS hσ hlo hst
  obtain ⟨hr, hk1, hc, hkn, hfn⟩ := fOk_at hf
  obtain ⟨⟨h1, h2, ⟨ty0, h3⟩, h4⟩, h5, h6, h7⟩ := hl
  have hat : (wsO g σ)[r]? = some (gad g r, .inr (ci, fsO g σ r)) := wsO_obj hr hk1 hc
  have hD := wsO_D σ Cx.2.2.2.2.2.2.2.2.2
  have hlen : k < (fsO g σ r).length := by simpa [fsO] using hkn
  have heq : (wsO g σ).set r (gad g r, .inr (ci, (fsO g σ r).set k (.int (Int32.ofInt z)))) = wsO g (upd2 σ r kz z) := by
    refine wsO_set hr ?_ (fun q hq => upd2_out hq)
    rw [← hk, ← hk1]
    exact cel_upd_obj (by rw [hk1]; exact hc) hfn hkn
  have fin : ∀ (H1 : Heap) (locs1 : List Loc), va_P (gD g) vwCl ((wsO g σ).set r (gad g r, .inr (ci, (fsO g σ r).set k (.int (Int32.ofInt z))))) H1 → va_D (gAr g) ((wsO g σ).set r (gad g r, .inr (ci, (fsO g σ r).set k (.int (Int32.ofInt z))))) → va_S (gAr g) s.heap H1 locs1 → W p l e (rmd d) s m args below meth c H1 locs1 0 0 (MQ below (QcO g Q) args s 0 0 (gAr g)) (F0 m (pc + 3) ls (st.map (tv g))) := by
    intro H1 locs1 q1 _ q3
    rw [heq] at q1
    exact kk g p l e s m args below meth c H1 locs1 ls Cx q1 q3 (okS_upd hσ hst.1) hlo hst.2.2
  obtain ⟨c1, c2, c3, c4, c5, c6, c7, c8, c9, c10⟩ := Cx
  rcases h7 with h7 | ⟨host, h7⟩
  · exact va_put (ref := C) (C := C) (T := T) (N := N) c1 c2 c6 h2 ty0 h3 h4 c5 c8 hP hD hS r hat h1 k h5 (c6 _ h7) (fun x hx => by rw [h6] at hx; exact hx) hp.1 hp.2 hn hfit hlen hd fin
  · exact va_putN (ref := C) (C := C) (T := T) (N := N) (host := host) c1 c2 c6 h2 ty0 h3 h4 c5 c8 hP hD hS r hat h1 k h5 (va_Nw.use rfl (c9.1 _ h7 rfl)) (fun x hx => by rw [h6] at hx; exact hx) hp.1 hp.2 hn hfit hlen hd fin
theorem wp_putI {idx ci k : Nat} {C : String} {T : u_T} {N r : Nat} {z : Int} (kz : Int) (hd : decode cc pc = .ok (.putfield idx, 3)) (hl : FLk own idx ci k C T N) (hp : (T k).2.2.2 = false ∧ parseFieldDescriptor (T k).2.2.1 = some .int) (hf : fOk r ci k none = true) (hk : (k : Int) = kz) (kk : Wp cc own rt d (pc + 3) loc st (upd2 σ r kz z) Q) : Wp cc own rt d pc loc (mI z :: mR r :: st) σ Q :=
  wp_put kz hd hl hp hf hk (vp_nar_int _) rfl kk
theorem wp_putZ {idx ci k : Nat} {C : String} {T : u_T} {N r : Nat} {z : Int} (kz : Int) (hd : decode cc pc = .ok (.putfield idx, 3)) (hl : FLk own idx ci k C T N) (hp : (T k).2.2.2 = false ∧ parseFieldDescriptor (T k).2.2.1 = some .boolean) (hf : fOk r ci k none = true) (hk : (k : Int) = kz) (hz : z = 0 ∨ z = 1) (kk : Wp cc own rt d (pc + 3) loc st (upd2 σ r kz z) Q) : Wp cc own rt d pc loc (mI z :: mR r :: st) σ Q :=
  wp_put kz hd hl hp hf hk (by rcases hz with rfl | rfl <;> rfl) (by rcases hz with rfl | rfl <;> rfl) kk
theorem wp_iald {r : Nat} {i : Int} (n : Nat) (hd : decode cc pc = .ok (.iaload, 1)) (ha : aOk r 100 n = true) (hi : 0 ≤ i ∧ i < (n : Int)) (kk : Wp cc own rt d (pc + 1) loc (mI (σ r i) :: st) σ Q) : Wp cc own rt d pc loc (mI i :: mR r :: st) σ Q := by
  intro g p l e s m args below meth c H locs ls Cx hP hS hσ hlo hst
  obtain ⟨hr, hk, hn⟩ := aOk_at ha
  have hoi : okI i := hst.1
  have hat := wsO_arr (g := g) (σ := σ) hr hk (by decide)
  refine va_iald (n := ln r) Cx.1 Cx.2.1 Cx.2.2.2.2.2.2.2.1 hP r 0 hat rfl (oI_in hoi hi.1 (by rw [hn]; exact hi.2)) hd ?_
  have e1 : (((Int32.ofInt i).toNatClampNeg : Nat) : Int) = i := by rw [oI_clamp hoi hi.1]; omega
  rw [e1]
  exact kk g p l e s m args below meth c H locs ls Cx hP hS hσ hlo ⟨hσ r i, hst.2.2⟩
theorem wp_bald {r : Nat} {i : Int} (n : Nat) (hd : decode cc pc = .ok (.baload, 1)) (ha : aOk r 101 n = true) (hi : 0 ≤ i ∧ i < (n : Int)) (kk : Wp cc own rt d (pc + 1) loc (mI (σ r i) :: st) σ Q) : Wp cc own rt d pc loc (mI i :: mR r :: st) σ Q := by
  intro g p l e s m args below meth c H locs ls Cx hP hS hσ hlo hst
  obtain ⟨hr, hk, hn⟩ := aOk_at ha
  have hoi : okI i := hst.1
  have hat := wsO_arr (g := g) (σ := σ) hr hk (by decide)
  refine va_bald (n := ln r) Cx.1 Cx.2.1 Cx.2.2.2.2.2.2.2.1 hP r 1 hat rfl (oI_in hoi hi.1 (by rw [hn]; exact hi.2)) hd ?_
  have e1 : (((Int32.ofInt i).toNatClampNeg : Nat) : Int) = i := by rw [oI_clamp hoi hi.1]; omega
  rw [e1]
  exact kk g p l e s m args below meth c H locs ls Cx hP hS hσ hlo ⟨hσ r i, hst.2.2⟩
theorem wp_zald {r : Nat} {i : Int} (n : Nat) (hd : decode cc pc = .ok (.baload, 1)) (ha : aOk r 102 n = true) (hi : 0 ≤ i ∧ i < (n : Int)) (kk : Wp cc own rt d (pc + 1) loc (mI (σ r i) :: st) σ Q) : Wp cc own rt d pc loc (mI i :: mR r :: st) σ Q := by
  intro g p l e s m args below meth c H locs ls Cx hP hS hσ hlo hst
  obtain ⟨hr, hk, hn⟩ := aOk_at ha
  have hoi : okI i := hst.1
  have hat := wsO_arr (g := g) (σ := σ) hr hk (by decide)
  refine va_zald (n := ln r) Cx.1 Cx.2.1 Cx.2.2.2.2.2.2.2.1 hP r 2 hat rfl (oI_in hoi hi.1 (by rw [hn]; exact hi.2)) hd ?_
  have e1 : (((Int32.ofInt i).toNatClampNeg : Nat) : Int) = i := by rw [oI_clamp hoi hi.1]; omega
  rw [e1]
  exact kk g p l e s m args below meth c H locs ls Cx hP hS hσ hlo ⟨hσ r i, hst.2.2⟩
theorem wp_iast {r : Nat} {i z : Int} (n : Nat) (hd : decode cc pc = .ok (.iastore, 1)) (ha : aOk r 100 n = true) (hi : 0 ≤ i ∧ i < (n : Int)) (kk : Wp cc own rt d (pc + 1) loc st (upd2 σ r i z) Q) : Wp cc own rt d pc loc (mI z :: mI i :: mR r :: st) σ Q := by
  intro g p l e s m args below meth c H locs ls Cx hP hS hσ hlo hst
  obtain ⟨hr, hk, hn⟩ := aOk_at ha
  have hoi : okI i := hst.2.1
  have hat := wsO_arr (g := g) (σ := σ) hr hk (by decide)
  have hD := wsO_D σ Cx.2.2.2.2.2.2.2.2.2
  refine va_iast (n := ln r) Cx.1 Cx.2.1 Cx.2.2.2.2.2.2.2.1 hP hD hS r 0 hat rfl (oI_in hoi hi.1 (by rw [hn]; exact hi.2)) hd (fun H1 locs1 q1 _ q3 => ?_)
  rw [oI_clamp hoi hi.1, wsO_set (σ' := upd2 σ r i z) hr (cel_upd_arr hk (by decide) hi.1) (fun q hq => upd2_out hq)] at q1
  exact kk g p l e s m args below meth c H1 locs1 ls Cx q1 q3 (okS_upd hσ hst.1) hlo hst.2.2.2
theorem wp_bast {r : Nat} {i z : Int} (n : Nat) (hd : decode cc pc = .ok (.bastore, 1)) (ha : aOk r 101 n = true) (hi : 0 ≤ i ∧ i < (n : Int)) (hz : -128 ≤ z ∧ z < 128) (kk : Wp cc own rt d (pc + 1) loc st (upd2 σ r i z) Q) : Wp cc own rt d pc loc (mI z :: mI i :: mR r :: st) σ Q := by
  intro g p l e s m args below meth c H locs ls Cx hP hS hσ hlo hst
  obtain ⟨hr, hk, hn⟩ := aOk_at ha
  have hoi : okI i := hst.2.1
  have hat := wsO_arr (g := g) (σ := σ) hr hk (by decide)
  have hD := wsO_D σ Cx.2.2.2.2.2.2.2.2.2
  have en : vp_nar .byte (Int32.ofInt z) = Int32.ofInt z := by rw [vp_nar_byte]; exact i8_id hz.1 hz.2
  refine va_bast (n := ln r) Cx.1 Cx.2.1 Cx.2.2.2.2.2.2.2.1 hP hD hS r 1 hat rfl (oI_in hoi hi.1 (by rw [hn]; exact hi.2)) hd (fun H1 locs1 q1 _ q3 => ?_)
  rw [en] at q1
  rw [oI_clamp hoi hi.1, wsO_set (σ' := upd2 σ r i z) hr (cel_upd_arr hk (by decide) hi.1) (fun q hq => upd2_out hq)] at q1
  exact kk g p l e s m args below meth c H1 locs1 ls Cx q1 q3 (okS_upd hσ hst.1) hlo hst.2.2.2
theorem wp_zast {r : Nat} {i z : Int} (n : Nat) (hd : decode cc pc = .ok (.bastore, 1)) (ha : aOk r 102 n = true) (hi : 0 ≤ i ∧ i < (n : Int)) (hz : z = 0 ∨ z = 1) (kk : Wp cc own rt d (pc + 1) loc st (upd2 σ r i z) Q) : Wp cc own rt d pc loc (mI z :: mI i :: mR r :: st) σ Q := by
  intro g p l e s m args below meth c H locs ls Cx hP hS hσ hlo hst
  obtain ⟨hr, hk, hn⟩ := aOk_at ha
  have hoi : okI i := hst.2.1
  have hat := wsO_arr (g := g) (σ := σ) hr hk (by decide)
  have hD := wsO_D σ Cx.2.2.2.2.2.2.2.2.2
  have en : vp_nar .boolean (Int32.ofInt z) = Int32.ofInt z := by rcases hz with rfl | rfl <;> rfl
  refine va_zast (n := ln r) Cx.1 Cx.2.1 Cx.2.2.2.2.2.2.2.1 hP hD hS r 2 hat rfl (oI_in hoi hi.1 (by rw [hn]; exact hi.2)) hd (fun H1 locs1 q1 _ q3 => ?_)
  rw [en] at q1
  rw [oI_clamp hoi hi.1, wsO_set (σ' := upd2 σ r i z) hr (cel_upd_arr hk (by decide) hi.1) (fun q hq => upd2_out hq)] at q1
  exact kk g p l e s m args below meth c H1 locs1 ls Cx q1 q3 (okS_upd hσ hst.1) hlo hst.2.2.2
theorem wp_alen {r : Nat} (kk0 n : Nat) (hd : decode cc pc = .ok (.arraylength, 1)) (ha : aOk r kk0 n = true) (h3 : kk0 = 100 ∨ kk0 = 101 ∨ kk0 = 102) (hno : okI (n : Int)) (kk : Wp cc own rt d (pc + 1) loc (mI (n : Int) :: st) σ Q) : Wp cc own rt d pc loc (mR r :: st) σ Q := by
  intro g p l e s m args below meth c H locs ls Cx hP hS hσ hlo hst
  obtain ⟨hr, hk, hn⟩ := aOk_at ha
  have hat := wsO_arr (g := g) (σ := σ) hr hk (by omega)
  have hv : Int32.ofNat (ln r) = Int32.ofInt (n : Int) := by rw [hn]; rfl
  have kk' := kk g p l e s m args below meth c H locs ls Cx hP hS hσ hlo ⟨hno, hst.2⟩
  rcases h3 with rfl | rfl | rfl
  · exact va_alen Cx.1 Cx.2.1 Cx.2.2.2.2.2.2.2.1 hP r 0 hat (ty := .int) rfl hv hd kk'
  · exact va_alen Cx.1 Cx.2.1 Cx.2.2.2.2.2.2.2.1 hP r 1 hat (ty := .byte) rfl hv hd kk'
  · exact va_alen Cx.1 Cx.2.1 Cx.2.2.2.2.2.2.2.1 hP r 2 hat (ty := .boolean) rfl hv hd kk'
/-- static tables -/
def SLk (own : String) (idx k : Nat) : Prop := k < 3 ∧ (Cond.fieldLink own idx RX6 (stN k) "[I" ∈ gtb ∨ ∃ host, Cond.fieldLinkNest own idx RX6 (stN k) "[I" host ∈ lw_tbl)
theorem wp_gets {idx : Nat} (k : Nat) (hd : decode cc pc = .ok (.getstatic idx, 3)) (hl : SLk own idx k) (kk : Wp cc own rt d (pc + 3) loc (mR (1000 + k) :: st) σ Q) : Wp cc own rt d pc loc st σ Q := by
  intro g p l e s m args below meth c H locs ls Cx hP hS hσ hlo hst
  have kk' := kk g p l e s m args below meth c H locs ls Cx hP hS hσ hlo ⟨trivial, hst⟩
  obtain ⟨c1, c2, c3, c4, c5, c6, c7, c8, c9, c10⟩ := Cx
  have hZ := (c9.2.2.1 k hl.1).1
  rcases hl.2 with h7 | ⟨host, h7⟩
  · exact va_gets c1 c2 hZ hS c5 (c6 _ h7) (fun x hx => hx) hd kk'
  · exact va_getsN c1 c2 hZ hS c5 (va_Nw.use rfl (c9.1 _ h7 rfl)) (fun x hx => hx) hd kk'
theorem wp_tald {i : Int} (k : Nat) (hk : k < 3) (hd : decode cc pc = .ok (.iaload, 1)) (hi : 0 ≤ i ∧ i < 6) (hov : okI (stV k i)) (kk : Wp cc own rt d (pc + 1) loc (mI (stV k i) :: st) σ Q) : Wp cc own rt d pc loc (mI i :: mR (1000 + k) :: st) σ Q := by
  intro g p l e s m args below meth c H locs ls Cx hP hS hσ hlo hst
  have hoi : okI i := hst.1
  refine va_ti Cx.1 Cx.2.1 (Cx.2.2.2.2.2.2.2.2.1.2.2.1 k hk).2 hS (oI_in hoi hi.1 hi.2) (v := .int (Int32.ofInt (stV k i))) ?_ hd (kk g p l e s m args below meth c H locs ls Cx hP hS hσ hlo ⟨hov, hst.2.2⟩)
  have e1 : (((Int32.ofInt i).toNatClampNeg : Nat) : Int) = i := by rw [oI_clamp hoi hi.1]; omega
  rw [e1]
theorem wp_ldcS {idx : Nat} (k : Nat) (hd : decode cc pc = .ok (.ldc idx, 2)) (ho : own = RX4) (hk : k < 9) (hi : (strI.getD k (0, "")).1 = idx) (kk : Wp cc own rt d (pc + 2) loc (mR (2000 + k) :: st) σ Q) : Wp cc own rt d pc loc st σ Q := by
  intro g p l e s m args below meth c H locs ls Cx hP hS hσ hlo hst
  have hR := Cx.2.2.2.2.2.2.2.2.1.2.2.2.1 k hk
  rw [hi, ← ho] at hR
  exact va_ldcS Cx.1 Cx.2.1 Cx.2.2.2.2.1 hR hd (kk g p l e s m args below meth c H locs ls Cx hP hS hσ hlo ⟨trivial, hst⟩)
end FLD
def cpy2 (σ : Sto) (src dst : Nat) (sp dp n : Int) : Sto := fun r k => if r = dst ∧ dp ≤ k ∧ k < dp + n then σ src (sp + (k - dp)) else σ r k
theorem okS_cpy {σ : Sto} {a b : Nat} {x y n : Int} (h : okS σ) : okS (cpy2 σ a b x y n) := by
  intro q j
  simp only [cpy2]
  split
  · exact h _ _
  · exact h q j
def CPk (own : String) (idx : Nat) : Prop := Cond.methodLink own idx arraycopyName ∈ gtb ∧ Cond.native arraycopyName ∈ gtb ∧ Cond.static arraycopyName ∈ gtb ∧ Cond.initialized "java/lang/System" ∈ gtb
def catS : List MV → Nat
  | [] => 0
  | .inr (.inl _) :: t => 2 + catS t
  | _ :: t => 1 + catS t
theorem catS_eq {g : GG} : ∀ (st : List MV), ((st.map (tv g)).map fun v => v.category).sum = catS st
  | [] => rfl
  | .inl z :: t => by
    have := catS_eq (g := g) t
    simp only [List.map_cons, List.sum_cons, catS, this]; rfl
  | .inr (.inl z) :: t => by
    have := catS_eq (g := g) t
    simp only [List.map_cons, List.sum_cons, catS, this]; rfl
  | .inr (.inr z) :: t => by
    have := catS_eq (g := g) t
    simp only [List.map_cons, List.sum_cons, catS, this]; rfl
section CALL
variable {cc : ByteArray} {own : String} {rt : Option FieldType} {d pc : Nat} {loc : List (Option MV)} {st : List MV} {σ : Sto} {Q : Option MV → Sto → Prop}
theorem wp_copy {idx a b : Nat} {n sp dp : Int} (na nb : Nat) (hd : decode cc pc = .ok (.invokestatic idx, 3)) (hl : CPk own idx) (ha : aOk a 100 na = true) (hb : aOk b 100 nb = true) (h1 : 0 ≤ sp) (h2 : 0 ≤ dp) (h3 : 0 ≤ n) (h4 : sp + n ≤ (na : Int)) (h5 : dp + n ≤ (nb : Int)) (hdd : 1 ≤ d) (hcat : catS st ≤ 8) (kk : Wp cc own rt d (pc + 3) loc st (cpy2 σ a b sp dp n) Q) : Wp cc own rt d pc loc (mI n :: mI dp :: mR b :: mI sp :: mR a :: st) σ Q := by
  intro g p l e s m args below meth c H locs ls Cx hP hS hσ hlo hst
  obtain ⟨ra, ka, na'⟩ := aOk_at ha
  obtain ⟨rb, kb, nb'⟩ := aOk_at hb
  have on : okI n := hst.1
  have odp : okI dp := hst.2.1
  have osp : okI sp := hst.2.2.2.1
  have hata := wsO_arr (g := g) (σ := σ) ra ka (by decide)
  have hatb := wsO_arr (g := g) (σ := σ) rb kb (by decide)
  have hD := wsO_D σ Cx.2.2.2.2.2.2.2.2.2
  have nn : ∀ z : Int, okI z → 0 ≤ z → ¬ Int32.ofInt z < 0 := fun z hz h0 q => by rw [← oI_0, oI_lt hz ok0] at q; omega
  refine va_copyi (n0 := ln a) (n1 := ln b) (ty := .int) Cx.1 Cx.2.1 (by rw [Cx.2.2.2.1]; exact hlo.1.1.symm) Cx.2.2.2.2.1 (Cx.2.2.2.2.2.1 _ hl.1) (Cx.2.2.2.2.2.1 _ hl.2.1) (Cx.2.2.2.2.2.1 _ hl.2.2.1) (Cx.2.2.2.2.2.1 _ hl.2.2.2) Cx.2.2.2.2.2.2.2.1 hP hD hS a b 0 0 hata hatb rfl rfl rfl (nn sp osp h1) (nn dp odp h2) (nn n on h3) ?_ ?_ (fun _ _ => rfl) hdd ?_ hd (fun H1 locs1 q1 _ q3 => ?_)
  · rw [oI_clamp osp h1, oI_clamp on h3]; omega
  · rw [oI_clamp odp h2, oI_clamp on h3]; omega
  · rw [catS_eq]
    have : nativeFrameWords "java/lang/System" "arraycopy" 5 + 11 ≤ 32 := by decide
    show _ ≤ 40 * d
    omega
  · rw [wsO_set (σ' := cpy2 σ a b sp dp n) rb ?_ (fun q hq => ?_)] at q1
    · exact kk g p l e s m args below meth c H1 locs1 ls Cx q1 q3 (okS_cpy hσ) hlo hst.2.2.2.2.2
    · rw [oI_clamp osp h1, oI_clamp odp h2, oI_clamp on h3, cel, kb, if_neg (by decide)]
      congr 4
      funext j
      simp only [va_cpy, cpy2]
      by_cases hj : dp.toNat ≤ j ∧ j < dp.toNat + n.toNat
      · rw [if_pos hj, if_pos ⟨trivial, by omega, by omega⟩]
        congr 2; omega
      · rw [if_neg hj, if_neg (fun q => hj ⟨by omega, by omega⟩)]
    · funext j
      simp [cpy2, hq]
def MXk (own : String) (idx : Nat) (mx : Bool) : Prop := Cond.methodLink own idx (if mx then Lib.Math.max.name else Lib.Math.min.name) ∈ gtb ∧ Cond.static (if mx then Lib.Math.max.name else Lib.Math.min.name) ∈ gtb ∧ Cond.initialized "java/lang/Math" ∈ gtb ∧ Cond.code (if mx then Lib.Math.max.name else Lib.Math.min.name) (if mx then Lib.Math.max.code else Lib.Math.min.code) 2 (some .int) ∈ gtb
theorem wp_max {idx : Nat} {a b : Int} (hd : decode cc pc = .ok (.invokestatic idx, 3)) (hl : MXk own idx true) (hdd : 1 ≤ d) (hcat : catS st ≤ 8) (kk : Wp cc own rt d (pc + 3) loc (mI (max a b) :: st) σ Q) : Wp cc own rt d pc loc (mI b :: mI a :: st) σ Q := by
  intro g p l e s m args below meth c H locs ls Cx hP hS hσ hlo hst
  have oa : okI a := hst.2.1
  have ob : okI b := hst.1
  have om : okI (max a b) := ⟨by have := oa.1; omega, by have := oa.2; have := ob.2; omega⟩
  refine va_mmax Cx.1 Cx.2.1 (by rw [Cx.2.2.2.1]; exact hlo.1.1.symm) Cx.2.2.2.2.1 (Cx.2.2.2.2.2.1 _ hl.1) (Cx.2.2.2.2.2.1 _ hl.2.1) (Cx.2.2.2.2.2.1 _ hl.2.2.1) (Cx.2.2.2.2.2.1 _ hl.2.2.2) hdd (by rw [catS_eq]; show _ ≤ 40 * d; omega) (Nat.le_refl _) (Nat.le_refl _) hd ?_
  have e1 : (if Int32.ofInt a < Int32.ofInt b then Int32.ofInt b else Int32.ofInt a) = Int32.ofInt (max a b) := by
    by_cases h : a < b
    · rw [if_pos ((oI_lt oa ob).mpr h)]; congr 1; omega
    · rw [if_neg (fun q => h ((oI_lt oa ob).mp q))]; congr 1; omega
  rw [e1]
  exact kk g p l e s m args below meth c H locs ls Cx hP hS hσ hlo ⟨om, hst.2.2⟩
theorem wp_min {idx : Nat} {a b : Int} (hd : decode cc pc = .ok (.invokestatic idx, 3)) (hl : MXk own idx false) (hdd : 1 ≤ d) (hcat : catS st ≤ 8) (kk : Wp cc own rt d (pc + 3) loc (mI (min a b) :: st) σ Q) : Wp cc own rt d pc loc (mI b :: mI a :: st) σ Q := by
  intro g p l e s m args below meth c H locs ls Cx hP hS hσ hlo hst
  have oa : okI a := hst.2.1
  have ob : okI b := hst.1
  have om : okI (min a b) := ⟨by have := oa.1; have := ob.1; omega, by have := oa.2; omega⟩
  refine va_mmin Cx.1 Cx.2.1 (by rw [Cx.2.2.2.1]; exact hlo.1.1.symm) Cx.2.2.2.2.1 (Cx.2.2.2.2.2.1 _ hl.1) (Cx.2.2.2.2.2.1 _ hl.2.1) (Cx.2.2.2.2.2.1 _ hl.2.2.1) (Cx.2.2.2.2.2.1 _ hl.2.2.2) hdd (by rw [catS_eq]; show _ ≤ 40 * d; omega) (Nat.le_refl _) (Nat.le_refl _) hd ?_
  have e1 : (if Int32.ofInt b < Int32.ofInt a then Int32.ofInt b else Int32.ofInt a) = Int32.ofInt (min a b) := by
    by_cases h : b < a
    · rw [if_pos ((oI_lt ob oa).mpr h)]; congr 1; omega
    · rw [if_neg (fun q => h ((oI_lt ob oa).mp q))]; congr 1; omega
  rw [e1]
  exact kk g p l e s m args below meth c H locs ls Cx hP hS hσ hlo ⟨om, hst.2.2⟩
/-- a call's words: a method of an object, a static one, a static one of a nest mate -/
def CBk (y : MethodName) (bc : ByteArray) (nL : Nat) (rty : Option FieldType) (n : Nat) : Prop := Cond.initialized y.cls ∈ gtb ∧ Cond.code y bc nL rty ∈ gtb ∧ y.cls ≠ "java/lang/invoke/MethodHandle" ∧ y.cls ≠ "java/lang/invoke/VarHandle" ∧ (parseMethodDescriptor y.desc).map (fun d => d.parameters.length) = some n ∧ nL ≤ 21
def MVk (own : String) (idx : Nat) (y : MethodName) (bc : ByteArray) (nL : Nat) (rty : Option FieldType) (n ci : Nat) : Prop := Cond.methodLink own idx y ∈ gtb ∧ Cond.instanceMethod y ∈ gtb ∧ Cond.selects y.cls y y ∈ gtb ∧ CBk y bc nL rty n ∧ ∃ (T : u_T) (N : Nat), vwCl[ci]? = some (y.cls, T, N)
def MSk (own : String) (idx : Nat) (y : MethodName) (bc : ByteArray) (nL : Nat) (rty : Option FieldType) (n : Nat) : Prop := Cond.static y ∈ gtb ∧ CBk y bc nL rty n ∧ (Cond.methodLink own idx y ∈ gtb ∨ ∃ host, Cond.methodLinkNest own idx y host ∈ lw_tbl)
theorem goodC {y : MethodName} {bc : ByteArray} {nL : Nat} {rty : Option FieldType} (h : Cond.code y bc nL rty ∈ gtb) : GoodIn gtb (.code y bc nL rty :: gtb) := by
  intro w hw
  rcases List.mem_cons.mp hw with rfl | hw
  · exact ⟨h, good_of_word (List.mem_filter.mp h).2⟩
  · exact ⟨hw, good_of_word (List.mem_filter.mp hw).2⟩
theorem oks_rev : ∀ {as st : List MV}, oks (as.reverse ++ st) → oks as ∧ oks st := by
  intro as
  induction as with
  | nil => intro st h; exact ⟨trivial, h⟩
  | cons a t ih =>
    intro st h
    rw [List.reverse_cons, List.append_assoc] at h
    obtain ⟨h1, h2⟩ := ih h
    exact ⟨⟨h2.1, h1⟩, h2.2⟩
theorem call_fin {g : GG} {p : Program} {l : Launch} {e : Env} {s : State} {m : MethodId} {args a : Array Value} {below : List Frame} {meth : Method} {c : Code} {H : Heap} {locs : List Loc} {ls : Array Slot} {stk : List Value} {Q' : Option MV → Sto → Prop}
    (Cx : Ctx g cc own rt loc.length p s m args meth c) (hS : va_S (gAr g) s.heap H locs) (hlo : lok g ls loc) (hst : oks st)
    (hr : va_Run p l e (rmd d) s m args below meth c H locs 0 0 0 0 (F0 m pc ls stk) (st.map (tv g)) (QcO g Q' a) (gAr g))
    (k : ∀ v σ', Q' v σ' → Wp cc own rt d (pc + 3) loc (v.toList ++ st) σ' Q) : W p l e (rmd d) s m args below meth c H locs 0 0 (MQ below (QcO g Q) args s 0 0 (gAr g)) (F0 m pc ls stk) := by
  intro T hT X
  obtain ⟨v, st₀, t, T', L, h0, X', hL, e1, e2, ⟨⟨r, σ', hv, hq, hσ', hrv, hP'⟩, hz, hk⟩, stp⟩ := hr T hT X
  have hv' : v = r.map (tv g) := by cases hv; rfl
  subst hv'
  rw [h0] at hz hk
  have hS' : va_S (gAr g) s.heap T'.heap (locs ++ L) := by
    refine ⟨Nat.le_trans hS.1 (by rw [e1]; exact hz), fun q h1 h2 => ?_, fun q hq => ?_⟩
    · rw [e1, hk q (Nat.lt_of_lt_of_le h1 hS.1) h2]
      exact hS.2.1 q h1 h2
    · rcases List.mem_append.mp hq with h | h
      · exact hS.2.2 q h
      · exact hL q h
  have hok : oks (r.toList ++ st) := by
    cases r with
    | none => exact hst
    | some u => exact ⟨hrv u rfl, hst⟩
  have hmap : (r.toList ++ st).map (tv g) = (r.map (tv g)).toList ++ st.map (tv g) := by cases r <;> rfl
  obtain ⟨t2, a1, b1⟩ := k r σ' hq g p l e s m args below meth c T'.heap (locs ++ L) ls Cx (by rw [e1]; exact hP') hS' hσ' hlo hok T' rfl X'
  rw [hmap] at a1
  exact ⟨t2, stp t2 a1, b1⟩
theorem wp_cv {y : MethodName} {bc : ByteArray} {nL : Nat} {rty : Option FieldType} {d' n idx ci r : Nat} {as stk : List MV} {Q' : Option MV → Sto → Prop} (hd : decode cc pc = .ok (.invokevirtual idx, 3)) (hl : MVk own idx y bc nL rty n ci) (hM : Ct y bc nL rty d' (mR r :: as) σ Q') (hdep : d' + 1 ≤ d) (hr : oOk r ci = true) (hstk : stk = as.reverse ++ mR r :: st) (hn : as.length = n) (hcat : catS st ≤ 8) (k : ∀ v σ', Q' v σ' → Wp cc own rt d (pc + 3) loc (v.toList ++ st) σ' Q) : Wp cc own rt d pc loc stk σ Q := by
  intro g p l e s m args below meth c H locs ls Cx hP hS hσ hlo hst
  subst hstk
  obtain ⟨ho1, ho2⟩ := oks_rev hst
  obtain ⟨h1, h2, h3, ⟨i1, i2, i3, i4, i5, i6⟩, T, N, h5⟩ := hl
  obtain ⟨r1, r2, r3⟩ := oOk_at hr
  have hat := wsO_obj (g := g) (σ := σ) r1 r2 r3
  have Cx' := Cx
  obtain ⟨c1, c2, c3, c4, c5, c6, c7, c8, c9, c10⟩ := Cx
  refine call_fin Cx' hS hlo ho2.2 (va_runV (As := as.map (tv g)) (C := y.cls) (n := n) ⟨c1, c2, c4, c5, c6⟩ (hM l g) ⟨callB_of n c6 (goodC i2) rfl rfl rfl (c6 _ i1) (c6 _ h1) ⟨i3, i4, i5⟩ ⟨hdep, ?_⟩, c6 _ h2, c6 _ h3⟩ ⟨PcO_blind, va_recv c8 hP h5 hat, fun U hU hW => ⟨rfl, by rw [hU]; exact hP, va_K.moved hW.alike c8, c10, Fx_moved hW (fun a ha hna => by rw [hU]; exact hS.2.1 a ha hna) c9, hσ, trivial, ho1⟩⟩ rfl (by rw [List.length_map]; exact hn) hlo.1.1 ?_ (lv_room (by rw [catS_eq]; exact hcat)) hd ⟨Nat.le_refl _, Nat.le_refl _⟩) k
  · show 8 + (nL + 11) + 40 * d' ≤ 40 * d
    omega
  · show (as.reverse ++ mR r :: st).map (tv g) = _
    rw [List.map_append, List.map_reverse]; rfl
theorem wp_cs {y : MethodName} {bc : ByteArray} {nL : Nat} {rty : Option FieldType} {d' n idx : Nat} {as stk : List MV} {Q' : Option MV → Sto → Prop} (hd : decode cc pc = .ok (.invokestatic idx, 3)) (hl : MSk own idx y bc nL rty n) (hM : Ct y bc nL rty d' as σ Q') (hdep : d' + 1 ≤ d) (hstk : stk = as.reverse ++ st) (hn : as.length = n) (hcat : catS st ≤ 8) (k : ∀ v σ', Q' v σ' → Wp cc own rt d (pc + 3) loc (v.toList ++ st) σ' Q) : Wp cc own rt d pc loc stk σ Q := by
  intro g p l e s m args below meth c H locs ls Cx hP hS hσ hlo hst
  subst hstk
  obtain ⟨ho1, ho2⟩ := oks_rev hst
  obtain ⟨h1, ⟨i1, i2, i3, i4, i5, i6⟩, h7⟩ := hl
  have Cx' := Cx
  obtain ⟨c1, c2, c3, c4, c5, c6, c7, c8, c9, c10⟩ := Cx
  have hR : 8 + (nL + 11) + (rmd d').locals ≤ (rmd d).locals := by show 8 + (nL + 11) + 40 * d' ≤ 40 * d; omega
  have hstm : (as.reverse ++ st).map (tv g) = (as.map (tv g)).reverse ++ st.map (tv g) := by rw [List.map_append, List.map_reverse]
  have hpre : PreS s H (PcO g as σ) (as.map (tv g)) := ⟨PcO_blind, fun U hU hW => ⟨rfl, by rw [hU]; exact hP, va_K.moved hW.alike c8, c10, Fx_moved hW (fun a ha hna => by rw [hU]; exact hS.2.1 a ha hna) c9, hσ, ho1⟩⟩
  rcases h7 with h7 | ⟨host, h7⟩
  · exact call_fin Cx' hS hlo ho2 (va_runS (As := as.map (tv g)) (n := n) ⟨c1, c2, c4, c5, c6⟩ (hM l g) ⟨callB_of n c6 (goodC i2) rfl rfl rfl (c6 _ i1) (c6 _ h7) ⟨i3, i4, i5⟩ ⟨hdep, hR⟩, c6 _ h1⟩ hpre rfl (by rw [List.length_map]; exact hn) hlo.1.1 hstm (lv_room (by rw [catS_eq]; exact hcat)) hd ⟨Nat.le_refl _, Nat.le_refl _⟩) k
  · exact call_fin Cx' hS hlo ho2 (va_runSN (As := as.map (tv g)) (n := n) ⟨c1, c2, c4, c5, c6⟩ (hM l g) ⟨va_cnB n c6 (goodC i2) rfl rfl rfl (c9.2.1 _ h7 rfl) (c6 _ i1) ⟨i3, i4, i5⟩ ⟨hdep, hR⟩, c6 _ h1, trivial⟩ hpre rfl (by rw [List.length_map]; exact hn) hlo.1.1 hstm (lv_room (by rw [catS_eq]; exact hcat)) hd ⟨Nat.le_refl _, Nat.le_refl _⟩) k
abbrev CtI (y : MethodName) (bc : ByteArray) (nL : Nat) (rty : Option FieldType) (d : Nat) (as : List MV) (σ : Sto) (Q : Int → Sto → Prop) : Prop := Ct y bc nL rty d as σ (fun v σ' => ∃ z, v = some (mI z) ∧ Q z σ')
abbrev CtV (y : MethodName) (bc : ByteArray) (nL : Nat) (rty : Option FieldType) (d : Nat) (as : List MV) (σ : Sto) (Q : Sto → Prop) : Prop := Ct y bc nL rty d as σ (fun v σ' => v = none ∧ Q σ')
abbrev CtR (y : MethodName) (bc : ByteArray) (nL : Nat) (rty : Option FieldType) (d : Nat) (as : List MV) (σ : Sto) (Q : Nat → Sto → Prop) : Prop := Ct y bc nL rty d as σ (fun v σ' => ∃ z, v = some (mR z) ∧ Q z σ')
theorem wp_cvI0 {y : MethodName} {bc : ByteArray} {nL : Nat} {rty : Option FieldType} {d' idx ci r : Nat} {Q' : Int → Sto → Prop} (hd : decode cc pc = .ok (.invokevirtual idx, 3)) (hl : MVk own idx y bc nL rty 0 ci) (hM : CtI y bc nL rty d' [mR r] σ Q') (hdep : d' + 1 ≤ d) (hr : oOk r ci = true) (hcat : catS st ≤ 8) (k : ∀ z σ', Q' z σ' → Wp cc own rt d (pc + 3) loc (mI z :: st) σ' Q) : Wp cc own rt d pc loc (mR r :: st) σ Q :=
  wp_cv (as := []) hd hl hM hdep hr rfl rfl hcat (fun v σ' h => by obtain ⟨z, rfl, h⟩ := h; exact k z σ' h)
theorem wp_cvI1 {y : MethodName} {bc : ByteArray} {nL : Nat} {rty : Option FieldType} {d' idx ci r : Nat} {a1 : MV} {Q' : Int → Sto → Prop} (hd : decode cc pc = .ok (.invokevirtual idx, 3)) (hl : MVk own idx y bc nL rty 1 ci) (hM : CtI y bc nL rty d' [mR r, a1] σ Q') (hdep : d' + 1 ≤ d) (hr : oOk r ci = true) (hcat : catS st ≤ 8) (k : ∀ z σ', Q' z σ' → Wp cc own rt d (pc + 3) loc (mI z :: st) σ' Q) : Wp cc own rt d pc loc (a1 :: mR r :: st) σ Q :=
  wp_cv (as := [a1]) hd hl hM hdep hr rfl rfl hcat (fun v σ' h => by obtain ⟨z, rfl, h⟩ := h; exact k z σ' h)
theorem wp_csI1 {y : MethodName} {bc : ByteArray} {nL : Nat} {rty : Option FieldType} {d' idx : Nat} {a1 : MV} {Q' : Int → Sto → Prop} (hd : decode cc pc = .ok (.invokestatic idx, 3)) (hl : MSk own idx y bc nL rty 1) (hM : CtI y bc nL rty d' [a1] σ Q') (hdep : d' + 1 ≤ d) (hcat : catS st ≤ 8) (k : ∀ z σ', Q' z σ' → Wp cc own rt d (pc + 3) loc (mI z :: st) σ' Q) : Wp cc own rt d pc loc (a1 :: st) σ Q :=
  wp_cs (as := [a1]) hd hl hM hdep rfl rfl hcat (fun v σ' h => by obtain ⟨z, rfl, h⟩ := h; exact k z σ' h)
theorem wp_cvI2 {y : MethodName} {bc : ByteArray} {nL : Nat} {rty : Option FieldType} {d' idx ci r : Nat} {a1 a2 : MV} {Q' : Int → Sto → Prop} (hd : decode cc pc = .ok (.invokevirtual idx, 3)) (hl : MVk own idx y bc nL rty 2 ci) (hM : CtI y bc nL rty d' [mR r, a1, a2] σ Q') (hdep : d' + 1 ≤ d) (hr : oOk r ci = true) (hcat : catS st ≤ 8) (k : ∀ z σ', Q' z σ' → Wp cc own rt d (pc + 3) loc (mI z :: st) σ' Q) : Wp cc own rt d pc loc (a2 :: a1 :: mR r :: st) σ Q :=
  wp_cv (as := [a1, a2]) hd hl hM hdep hr rfl rfl hcat (fun v σ' h => by obtain ⟨z, rfl, h⟩ := h; exact k z σ' h)
theorem wp_csI2 {y : MethodName} {bc : ByteArray} {nL : Nat} {rty : Option FieldType} {d' idx : Nat} {a1 a2 : MV} {Q' : Int → Sto → Prop} (hd : decode cc pc = .ok (.invokestatic idx, 3)) (hl : MSk own idx y bc nL rty 2) (hM : CtI y bc nL rty d' [a1, a2] σ Q') (hdep : d' + 1 ≤ d) (hcat : catS st ≤ 8) (k : ∀ z σ', Q' z σ' → Wp cc own rt d (pc + 3) loc (mI z :: st) σ' Q) : Wp cc own rt d pc loc (a2 :: a1 :: st) σ Q :=
  wp_cs (as := [a1, a2]) hd hl hM hdep rfl rfl hcat (fun v σ' h => by obtain ⟨z, rfl, h⟩ := h; exact k z σ' h)
theorem wp_cvI3 {y : MethodName} {bc : ByteArray} {nL : Nat} {rty : Option FieldType} {d' idx ci r : Nat} {a1 a2 a3 : MV} {Q' : Int → Sto → Prop} (hd : decode cc pc = .ok (.invokevirtual idx, 3)) (hl : MVk own idx y bc nL rty 3 ci) (hM : CtI y bc nL rty d' [mR r, a1, a2, a3] σ Q') (hdep : d' + 1 ≤ d) (hr : oOk r ci = true) (hcat : catS st ≤ 8) (k : ∀ z σ', Q' z σ' → Wp cc own rt d (pc + 3) loc (mI z :: st) σ' Q) : Wp cc own rt d pc loc (a3 :: a2 :: a1 :: mR r :: st) σ Q :=
  wp_cv (as := [a1, a2, a3]) hd hl hM hdep hr rfl rfl hcat (fun v σ' h => by obtain ⟨z, rfl, h⟩ := h; exact k z σ' h)
theorem wp_csI3 {y : MethodName} {bc : ByteArray} {nL : Nat} {rty : Option FieldType} {d' idx : Nat} {a1 a2 a3 : MV} {Q' : Int → Sto → Prop} (hd : decode cc pc = .ok (.invokestatic idx, 3)) (hl : MSk own idx y bc nL rty 3) (hM : CtI y bc nL rty d' [a1, a2, a3] σ Q') (hdep : d' + 1 ≤ d) (hcat : catS st ≤ 8) (k : ∀ z σ', Q' z σ' → Wp cc own rt d (pc + 3) loc (mI z :: st) σ' Q) : Wp cc own rt d pc loc (a3 :: a2 :: a1 :: st) σ Q :=
  wp_cs (as := [a1, a2, a3]) hd hl hM hdep rfl rfl hcat (fun v σ' h => by obtain ⟨z, rfl, h⟩ := h; exact k z σ' h)
theorem wp_cvI4 {y : MethodName} {bc : ByteArray} {nL : Nat} {rty : Option FieldType} {d' idx ci r : Nat} {a1 a2 a3 a4 : MV} {Q' : Int → Sto → Prop} (hd : decode cc pc = .ok (.invokevirtual idx, 3)) (hl : MVk own idx y bc nL rty 4 ci) (hM : CtI y bc nL rty d' [mR r, a1, a2, a3, a4] σ Q') (hdep : d' + 1 ≤ d) (hr : oOk r ci = true) (hcat : catS st ≤ 8) (k : ∀ z σ', Q' z σ' → Wp cc own rt d (pc + 3) loc (mI z :: st) σ' Q) : Wp cc own rt d pc loc (a4 :: a3 :: a2 :: a1 :: mR r :: st) σ Q :=
  wp_cv (as := [a1, a2, a3, a4]) hd hl hM hdep hr rfl rfl hcat (fun v σ' h => by obtain ⟨z, rfl, h⟩ := h; exact k z σ' h)
theorem wp_csI4 {y : MethodName} {bc : ByteArray} {nL : Nat} {rty : Option FieldType} {d' idx : Nat} {a1 a2 a3 a4 : MV} {Q' : Int → Sto → Prop} (hd : decode cc pc = .ok (.invokestatic idx, 3)) (hl : MSk own idx y bc nL rty 4) (hM : CtI y bc nL rty d' [a1, a2, a3, a4] σ Q') (hdep : d' + 1 ≤ d) (hcat : catS st ≤ 8) (k : ∀ z σ', Q' z σ' → Wp cc own rt d (pc + 3) loc (mI z :: st) σ' Q) : Wp cc own rt d pc loc (a4 :: a3 :: a2 :: a1 :: st) σ Q :=
  wp_cs (as := [a1, a2, a3, a4]) hd hl hM hdep rfl rfl hcat (fun v σ' h => by obtain ⟨z, rfl, h⟩ := h; exact k z σ' h)
theorem wp_cvI5 {y : MethodName} {bc : ByteArray} {nL : Nat} {rty : Option FieldType} {d' idx ci r : Nat} {a1 a2 a3 a4 a5 : MV} {Q' : Int → Sto → Prop} (hd : decode cc pc = .ok (.invokevirtual idx, 3)) (hl : MVk own idx y bc nL rty 5 ci) (hM : CtI y bc nL rty d' [mR r, a1, a2, a3, a4, a5] σ Q') (hdep : d' + 1 ≤ d) (hr : oOk r ci = true) (hcat : catS st ≤ 8) (k : ∀ z σ', Q' z σ' → Wp cc own rt d (pc + 3) loc (mI z :: st) σ' Q) : Wp cc own rt d pc loc (a5 :: a4 :: a3 :: a2 :: a1 :: mR r :: st) σ Q :=
  wp_cv (as := [a1, a2, a3, a4, a5]) hd hl hM hdep hr rfl rfl hcat (fun v σ' h => by obtain ⟨z, rfl, h⟩ := h; exact k z σ' h)
theorem wp_csI5 {y : MethodName} {bc : ByteArray} {nL : Nat} {rty : Option FieldType} {d' idx : Nat} {a1 a2 a3 a4 a5 : MV} {Q' : Int → Sto → Prop} (hd : decode cc pc = .ok (.invokestatic idx, 3)) (hl : MSk own idx y bc nL rty 5) (hM : CtI y bc nL rty d' [a1, a2, a3, a4, a5] σ Q') (hdep : d' + 1 ≤ d) (hcat : catS st ≤ 8) (k : ∀ z σ', Q' z σ' → Wp cc own rt d (pc + 3) loc (mI z :: st) σ' Q) : Wp cc own rt d pc loc (a5 :: a4 :: a3 :: a2 :: a1 :: st) σ Q :=
  wp_cs (as := [a1, a2, a3, a4, a5]) hd hl hM hdep rfl rfl hcat (fun v σ' h => by obtain ⟨z, rfl, h⟩ := h; exact k z σ' h)
theorem wp_cvI6 {y : MethodName} {bc : ByteArray} {nL : Nat} {rty : Option FieldType} {d' idx ci r : Nat} {a1 a2 a3 a4 a5 a6 : MV} {Q' : Int → Sto → Prop} (hd : decode cc pc = .ok (.invokevirtual idx, 3)) (hl : MVk own idx y bc nL rty 6 ci) (hM : CtI y bc nL rty d' [mR r, a1, a2, a3, a4, a5, a6] σ Q') (hdep : d' + 1 ≤ d) (hr : oOk r ci = true) (hcat : catS st ≤ 8) (k : ∀ z σ', Q' z σ' → Wp cc own rt d (pc + 3) loc (mI z :: st) σ' Q) : Wp cc own rt d pc loc (a6 :: a5 :: a4 :: a3 :: a2 :: a1 :: mR r :: st) σ Q :=
  wp_cv (as := [a1, a2, a3, a4, a5, a6]) hd hl hM hdep hr rfl rfl hcat (fun v σ' h => by obtain ⟨z, rfl, h⟩ := h; exact k z σ' h)
theorem wp_csI6 {y : MethodName} {bc : ByteArray} {nL : Nat} {rty : Option FieldType} {d' idx : Nat} {a1 a2 a3 a4 a5 a6 : MV} {Q' : Int → Sto → Prop} (hd : decode cc pc = .ok (.invokestatic idx, 3)) (hl : MSk own idx y bc nL rty 6) (hM : CtI y bc nL rty d' [a1, a2, a3, a4, a5, a6] σ Q') (hdep : d' + 1 ≤ d) (hcat : catS st ≤ 8) (k : ∀ z σ', Q' z σ' → Wp cc own rt d (pc + 3) loc (mI z :: st) σ' Q) : Wp cc own rt d pc loc (a6 :: a5 :: a4 :: a3 :: a2 :: a1 :: st) σ Q :=
  wp_cs (as := [a1, a2, a3, a4, a5, a6]) hd hl hM hdep rfl rfl hcat (fun v σ' h => by obtain ⟨z, rfl, h⟩ := h; exact k z σ' h)
theorem wp_cvV0 {y : MethodName} {bc : ByteArray} {nL : Nat} {rty : Option FieldType} {d' idx ci r : Nat} {Q' : Sto → Prop} (hd : decode cc pc = .ok (.invokevirtual idx, 3)) (hl : MVk own idx y bc nL rty 0 ci) (hM : CtV y bc nL rty d' [mR r] σ Q') (hdep : d' + 1 ≤ d) (hr : oOk r ci = true) (hcat : catS st ≤ 8) (k : ∀ σ', Q' σ' → Wp cc own rt d (pc + 3) loc (st) σ' Q) : Wp cc own rt d pc loc (mR r :: st) σ Q :=
  wp_cv (as := []) hd hl hM hdep hr rfl rfl hcat (fun v σ' h => by obtain ⟨rfl, h⟩ := h; exact k σ' h)
theorem wp_cvV1 {y : MethodName} {bc : ByteArray} {nL : Nat} {rty : Option FieldType} {d' idx ci r : Nat} {a1 : MV} {Q' : Sto → Prop} (hd : decode cc pc = .ok (.invokevirtual idx, 3)) (hl : MVk own idx y bc nL rty 1 ci) (hM : CtV y bc nL rty d' [mR r, a1] σ Q') (hdep : d' + 1 ≤ d) (hr : oOk r ci = true) (hcat : catS st ≤ 8) (k : ∀ σ', Q' σ' → Wp cc own rt d (pc + 3) loc (st) σ' Q) : Wp cc own rt d pc loc (a1 :: mR r :: st) σ Q :=
  wp_cv (as := [a1]) hd hl hM hdep hr rfl rfl hcat (fun v σ' h => by obtain ⟨rfl, h⟩ := h; exact k σ' h)
theorem wp_csV1 {y : MethodName} {bc : ByteArray} {nL : Nat} {rty : Option FieldType} {d' idx : Nat} {a1 : MV} {Q' : Sto → Prop} (hd : decode cc pc = .ok (.invokestatic idx, 3)) (hl : MSk own idx y bc nL rty 1) (hM : CtV y bc nL rty d' [a1] σ Q') (hdep : d' + 1 ≤ d) (hcat : catS st ≤ 8) (k : ∀ σ', Q' σ' → Wp cc own rt d (pc + 3) loc (st) σ' Q) : Wp cc own rt d pc loc (a1 :: st) σ Q :=
  wp_cs (as := [a1]) hd hl hM hdep rfl rfl hcat (fun v σ' h => by obtain ⟨rfl, h⟩ := h; exact k σ' h)
theorem wp_cvV2 {y : MethodName} {bc : ByteArray} {nL : Nat} {rty : Option FieldType} {d' idx ci r : Nat} {a1 a2 : MV} {Q' : Sto → Prop} (hd : decode cc pc = .ok (.invokevirtual idx, 3)) (hl : MVk own idx y bc nL rty 2 ci) (hM : CtV y bc nL rty d' [mR r, a1, a2] σ Q') (hdep : d' + 1 ≤ d) (hr : oOk r ci = true) (hcat : catS st ≤ 8) (k : ∀ σ', Q' σ' → Wp cc own rt d (pc + 3) loc (st) σ' Q) : Wp cc own rt d pc loc (a2 :: a1 :: mR r :: st) σ Q :=
  wp_cv (as := [a1, a2]) hd hl hM hdep hr rfl rfl hcat (fun v σ' h => by obtain ⟨rfl, h⟩ := h; exact k σ' h)
theorem wp_csV2 {y : MethodName} {bc : ByteArray} {nL : Nat} {rty : Option FieldType} {d' idx : Nat} {a1 a2 : MV} {Q' : Sto → Prop} (hd : decode cc pc = .ok (.invokestatic idx, 3)) (hl : MSk own idx y bc nL rty 2) (hM : CtV y bc nL rty d' [a1, a2] σ Q') (hdep : d' + 1 ≤ d) (hcat : catS st ≤ 8) (k : ∀ σ', Q' σ' → Wp cc own rt d (pc + 3) loc (st) σ' Q) : Wp cc own rt d pc loc (a2 :: a1 :: st) σ Q :=
  wp_cs (as := [a1, a2]) hd hl hM hdep rfl rfl hcat (fun v σ' h => by obtain ⟨rfl, h⟩ := h; exact k σ' h)
theorem wp_cvV3 {y : MethodName} {bc : ByteArray} {nL : Nat} {rty : Option FieldType} {d' idx ci r : Nat} {a1 a2 a3 : MV} {Q' : Sto → Prop} (hd : decode cc pc = .ok (.invokevirtual idx, 3)) (hl : MVk own idx y bc nL rty 3 ci) (hM : CtV y bc nL rty d' [mR r, a1, a2, a3] σ Q') (hdep : d' + 1 ≤ d) (hr : oOk r ci = true) (hcat : catS st ≤ 8) (k : ∀ σ', Q' σ' → Wp cc own rt d (pc + 3) loc (st) σ' Q) : Wp cc own rt d pc loc (a3 :: a2 :: a1 :: mR r :: st) σ Q :=
  wp_cv (as := [a1, a2, a3]) hd hl hM hdep hr rfl rfl hcat (fun v σ' h => by obtain ⟨rfl, h⟩ := h; exact k σ' h)
theorem wp_csV3 {y : MethodName} {bc : ByteArray} {nL : Nat} {rty : Option FieldType} {d' idx : Nat} {a1 a2 a3 : MV} {Q' : Sto → Prop} (hd : decode cc pc = .ok (.invokestatic idx, 3)) (hl : MSk own idx y bc nL rty 3) (hM : CtV y bc nL rty d' [a1, a2, a3] σ Q') (hdep : d' + 1 ≤ d) (hcat : catS st ≤ 8) (k : ∀ σ', Q' σ' → Wp cc own rt d (pc + 3) loc (st) σ' Q) : Wp cc own rt d pc loc (a3 :: a2 :: a1 :: st) σ Q :=
  wp_cs (as := [a1, a2, a3]) hd hl hM hdep rfl rfl hcat (fun v σ' h => by obtain ⟨rfl, h⟩ := h; exact k σ' h)
theorem wp_cvV4 {y : MethodName} {bc : ByteArray} {nL : Nat} {rty : Option FieldType} {d' idx ci r : Nat} {a1 a2 a3 a4 : MV} {Q' : Sto → Prop} (hd : decode cc pc = .ok (.invokevirtual idx, 3)) (hl : MVk own idx y bc nL rty 4 ci) (hM : CtV y bc nL rty d' [mR r, a1, a2, a3, a4] σ Q') (hdep : d' + 1 ≤ d) (hr : oOk r ci = true) (hcat : catS st ≤ 8) (k : ∀ σ', Q' σ' → Wp cc own rt d (pc + 3) loc (st) σ' Q) : Wp cc own rt d pc loc (a4 :: a3 :: a2 :: a1 :: mR r :: st) σ Q :=
  wp_cv (as := [a1, a2, a3, a4]) hd hl hM hdep hr rfl rfl hcat (fun v σ' h => by obtain ⟨rfl, h⟩ := h; exact k σ' h)
theorem wp_csV4 {y : MethodName} {bc : ByteArray} {nL : Nat} {rty : Option FieldType} {d' idx : Nat} {a1 a2 a3 a4 : MV} {Q' : Sto → Prop} (hd : decode cc pc = .ok (.invokestatic idx, 3)) (hl : MSk own idx y bc nL rty 4) (hM : CtV y bc nL rty d' [a1, a2, a3, a4] σ Q') (hdep : d' + 1 ≤ d) (hcat : catS st ≤ 8) (k : ∀ σ', Q' σ' → Wp cc own rt d (pc + 3) loc (st) σ' Q) : Wp cc own rt d pc loc (a4 :: a3 :: a2 :: a1 :: st) σ Q :=
  wp_cs (as := [a1, a2, a3, a4]) hd hl hM hdep rfl rfl hcat (fun v σ' h => by obtain ⟨rfl, h⟩ := h; exact k σ' h)
theorem wp_cvV5 {y : MethodName} {bc : ByteArray} {nL : Nat} {rty : Option FieldType} {d' idx ci r : Nat} {a1 a2 a3 a4 a5 : MV} {Q' : Sto → Prop} (hd : decode cc pc = .ok (.invokevirtual idx, 3)) (hl : MVk own idx y bc nL rty 5 ci) (hM : CtV y bc nL rty d' [mR r, a1, a2, a3, a4, a5] σ Q') (hdep : d' + 1 ≤ d) (hr : oOk r ci = true) (hcat : catS st ≤ 8) (k : ∀ σ', Q' σ' → Wp cc own rt d (pc + 3) loc (st) σ' Q) : Wp cc own rt d pc loc (a5 :: a4 :: a3 :: a2 :: a1 :: mR r :: st) σ Q :=
  wp_cv (as := [a1, a2, a3, a4, a5]) hd hl hM hdep hr rfl rfl hcat (fun v σ' h => by obtain ⟨rfl, h⟩ := h; exact k σ' h)
theorem wp_csV5 {y : MethodName} {bc : ByteArray} {nL : Nat} {rty : Option FieldType} {d' idx : Nat} {a1 a2 a3 a4 a5 : MV} {Q' : Sto → Prop} (hd : decode cc pc = .ok (.invokestatic idx, 3)) (hl : MSk own idx y bc nL rty 5) (hM : CtV y bc nL rty d' [a1, a2, a3, a4, a5] σ Q') (hdep : d' + 1 ≤ d) (hcat : catS st ≤ 8) (k : ∀ σ', Q' σ' → Wp cc own rt d (pc + 3) loc (st) σ' Q) : Wp cc own rt d pc loc (a5 :: a4 :: a3 :: a2 :: a1 :: st) σ Q :=
  wp_cs (as := [a1, a2, a3, a4, a5]) hd hl hM hdep rfl rfl hcat (fun v σ' h => by obtain ⟨rfl, h⟩ := h; exact k σ' h)
theorem wp_cvV6 {y : MethodName} {bc : ByteArray} {nL : Nat} {rty : Option FieldType} {d' idx ci r : Nat} {a1 a2 a3 a4 a5 a6 : MV} {Q' : Sto → Prop} (hd : decode cc pc = .ok (.invokevirtual idx, 3)) (hl : MVk own idx y bc nL rty 6 ci) (hM : CtV y bc nL rty d' [mR r, a1, a2, a3, a4, a5, a6] σ Q') (hdep : d' + 1 ≤ d) (hr : oOk r ci = true) (hcat : catS st ≤ 8) (k : ∀ σ', Q' σ' → Wp cc own rt d (pc + 3) loc (st) σ' Q) : Wp cc own rt d pc loc (a6 :: a5 :: a4 :: a3 :: a2 :: a1 :: mR r :: st) σ Q :=
  wp_cv (as := [a1, a2, a3, a4, a5, a6]) hd hl hM hdep hr rfl rfl hcat (fun v σ' h => by obtain ⟨rfl, h⟩ := h; exact k σ' h)
theorem wp_csV6 {y : MethodName} {bc : ByteArray} {nL : Nat} {rty : Option FieldType} {d' idx : Nat} {a1 a2 a3 a4 a5 a6 : MV} {Q' : Sto → Prop} (hd : decode cc pc = .ok (.invokestatic idx, 3)) (hl : MSk own idx y bc nL rty 6) (hM : CtV y bc nL rty d' [a1, a2, a3, a4, a5, a6] σ Q') (hdep : d' + 1 ≤ d) (hcat : catS st ≤ 8) (k : ∀ σ', Q' σ' → Wp cc own rt d (pc + 3) loc (st) σ' Q) : Wp cc own rt d pc loc (a6 :: a5 :: a4 :: a3 :: a2 :: a1 :: st) σ Q :=
  wp_cs (as := [a1, a2, a3, a4, a5, a6]) hd hl hM hdep rfl rfl hcat (fun v σ' h => by obtain ⟨rfl, h⟩ := h; exact k σ' h)
theorem wp_cvR0 {y : MethodName} {bc : ByteArray} {nL : Nat} {rty : Option FieldType} {d' idx ci r : Nat} {Q' : Nat → Sto → Prop} (hd : decode cc pc = .ok (.invokevirtual idx, 3)) (hl : MVk own idx y bc nL rty 0 ci) (hM : CtR y bc nL rty d' [mR r] σ Q') (hdep : d' + 1 ≤ d) (hr : oOk r ci = true) (hcat : catS st ≤ 8) (k : ∀ z σ', Q' z σ' → Wp cc own rt d (pc + 3) loc (mR z :: st) σ' Q) : Wp cc own rt d pc loc (mR r :: st) σ Q :=
  wp_cv (as := []) hd hl hM hdep hr rfl rfl hcat (fun v σ' h => by obtain ⟨z, rfl, h⟩ := h; exact k z σ' h)
theorem wp_cvR1 {y : MethodName} {bc : ByteArray} {nL : Nat} {rty : Option FieldType} {d' idx ci r : Nat} {a1 : MV} {Q' : Nat → Sto → Prop} (hd : decode cc pc = .ok (.invokevirtual idx, 3)) (hl : MVk own idx y bc nL rty 1 ci) (hM : CtR y bc nL rty d' [mR r, a1] σ Q') (hdep : d' + 1 ≤ d) (hr : oOk r ci = true) (hcat : catS st ≤ 8) (k : ∀ z σ', Q' z σ' → Wp cc own rt d (pc + 3) loc (mR z :: st) σ' Q) : Wp cc own rt d pc loc (a1 :: mR r :: st) σ Q :=
  wp_cv (as := [a1]) hd hl hM hdep hr rfl rfl hcat (fun v σ' h => by obtain ⟨z, rfl, h⟩ := h; exact k z σ' h)
theorem wp_cvR2 {y : MethodName} {bc : ByteArray} {nL : Nat} {rty : Option FieldType} {d' idx ci r : Nat} {a1 a2 : MV} {Q' : Nat → Sto → Prop} (hd : decode cc pc = .ok (.invokevirtual idx, 3)) (hl : MVk own idx y bc nL rty 2 ci) (hM : CtR y bc nL rty d' [mR r, a1, a2] σ Q') (hdep : d' + 1 ≤ d) (hr : oOk r ci = true) (hcat : catS st ≤ 8) (k : ∀ z σ', Q' z σ' → Wp cc own rt d (pc + 3) loc (mR z :: st) σ' Q) : Wp cc own rt d pc loc (a2 :: a1 :: mR r :: st) σ Q :=
  wp_cv (as := [a1, a2]) hd hl hM hdep hr rfl rfl hcat (fun v σ' h => by obtain ⟨z, rfl, h⟩ := h; exact k z σ' h)
theorem wp_cvR3 {y : MethodName} {bc : ByteArray} {nL : Nat} {rty : Option FieldType} {d' idx ci r : Nat} {a1 a2 a3 : MV} {Q' : Nat → Sto → Prop} (hd : decode cc pc = .ok (.invokevirtual idx, 3)) (hl : MVk own idx y bc nL rty 3 ci) (hM : CtR y bc nL rty d' [mR r, a1, a2, a3] σ Q') (hdep : d' + 1 ≤ d) (hr : oOk r ci = true) (hcat : catS st ≤ 8) (k : ∀ z σ', Q' z σ' → Wp cc own rt d (pc + 3) loc (mR z :: st) σ' Q) : Wp cc own rt d pc loc (a3 :: a2 :: a1 :: mR r :: st) σ Q :=
  wp_cv (as := [a1, a2, a3]) hd hl hM hdep hr rfl rfl hcat (fun v σ' h => by obtain ⟨z, rfl, h⟩ := h; exact k z σ' h)
theorem wp_cvR4 {y : MethodName} {bc : ByteArray} {nL : Nat} {rty : Option FieldType} {d' idx ci r : Nat} {a1 a2 a3 a4 : MV} {Q' : Nat → Sto → Prop} (hd : decode cc pc = .ok (.invokevirtual idx, 3)) (hl : MVk own idx y bc nL rty 4 ci) (hM : CtR y bc nL rty d' [mR r, a1, a2, a3, a4] σ Q') (hdep : d' + 1 ≤ d) (hr : oOk r ci = true) (hcat : catS st ≤ 8) (k : ∀ z σ', Q' z σ' → Wp cc own rt d (pc + 3) loc (mR z :: st) σ' Q) : Wp cc own rt d pc loc (a4 :: a3 :: a2 :: a1 :: mR r :: st) σ Q :=
  wp_cv (as := [a1, a2, a3, a4]) hd hl hM hdep hr rfl rfl hcat (fun v σ' h => by obtain ⟨z, rfl, h⟩ := h; exact k z σ' h)
theorem wp_cvR5 {y : MethodName} {bc : ByteArray} {nL : Nat} {rty : Option FieldType} {d' idx ci r : Nat} {a1 a2 a3 a4 a5 : MV} {Q' : Nat → Sto → Prop} (hd : decode cc pc = .ok (.invokevirtual idx, 3)) (hl : MVk own idx y bc nL rty 5 ci) (hM : CtR y bc nL rty d' [mR r, a1, a2, a3, a4, a5] σ Q') (hdep : d' + 1 ≤ d) (hr : oOk r ci = true) (hcat : catS st ≤ 8) (k : ∀ z σ', Q' z σ' → Wp cc own rt d (pc + 3) loc (mR z :: st) σ' Q) : Wp cc own rt d pc loc (a5 :: a4 :: a3 :: a2 :: a1 :: mR r :: st) σ Q :=
  wp_cv (as := [a1, a2, a3, a4, a5]) hd hl hM hdep hr rfl rfl hcat (fun v σ' h => by obtain ⟨z, rfl, h⟩ := h; exact k z σ' h)
theorem wp_cvR6 {y : MethodName} {bc : ByteArray} {nL : Nat} {rty : Option FieldType} {d' idx ci r : Nat} {a1 a2 a3 a4 a5 a6 : MV} {Q' : Nat → Sto → Prop} (hd : decode cc pc = .ok (.invokevirtual idx, 3)) (hl : MVk own idx y bc nL rty 6 ci) (hM : CtR y bc nL rty d' [mR r, a1, a2, a3, a4, a5, a6] σ Q') (hdep : d' + 1 ≤ d) (hr : oOk r ci = true) (hcat : catS st ≤ 8) (k : ∀ z σ', Q' z σ' → Wp cc own rt d (pc + 3) loc (mR z :: st) σ' Q) : Wp cc own rt d pc loc (a6 :: a5 :: a4 :: a3 :: a2 :: a1 :: mR r :: st) σ Q :=
  wp_cv (as := [a1, a2, a3, a4, a5, a6]) hd hl hM hdep hr rfl rfl hcat (fun v σ' h => by obtain ⟨z, rfl, h⟩ := h; exact k z σ' h)
theorem wp_tabIn {dflt lo hi : Int} {offs : Array Int} {len : Nat} {x : Int} (off : Int) (tgt : Nat) (hd : decode cc pc = .ok (.tableswitch dflt lo hi offs, len)) (h1 : lo ≤ x) (h2 : x ≤ hi) (ho : offs[(x - lo).toNat]? = some off) (ht : (pc : Int) + off = (tgt : Int)) (k : Wp cc own rt d tgt loc st σ Q) : Wp cc own rt d pc loc (mI x :: st) σ Q := by
  intro g p l e s m args below meth c H locs ls Cx hP hS hσ hlo hst
  have ox : okI x := hst.1
  exact lv_tableIn (tgt := tgt) (off := off) Cx.1 Cx.2.1 hd (by rw [oI_toInt ox]; omega) (by rw [oI_toInt ox]; omega) (by rw [oI_toInt ox]; exact ho) ht (k g p l e s m args below meth c H locs ls Cx hP hS hσ hlo hst.2)
theorem wp_tabOut {dflt lo hi : Int} {offs : Array Int} {len : Nat} {x : Int} (tgt : Nat) (hd : decode cc pc = .ok (.tableswitch dflt lo hi offs, len)) (h : x < lo ∨ hi < x) (ht : (pc : Int) + dflt = (tgt : Int)) (k : Wp cc own rt d tgt loc st σ Q) : Wp cc own rt d pc loc (mI x :: st) σ Q := by
  intro g p l e s m args below meth c H locs ls Cx hP hS hσ hlo hst
  have ox : okI x := hst.1
  exact lv_tableOut (tgt := tgt) Cx.1 Cx.2.1 hd (by rw [oI_toInt ox]; exact h) ht (k g p l e s m args below meth c H locs ls Cx hP hS hσ hlo hst.2)
theorem wp_look {dflt : Int} {ps : Array (Int × Int)} {len : Nat} {x : Int} (off : Int) (tgt : Nat) (hd : decode cc pc = .ok (.lookupswitch dflt ps, len)) (hp : (ps.toList.zip (ps.toList.drop 1)).all (fun (a, next) => a.1 < next.1) = true) (ho : Op.lookupswitch.offset ps.toList dflt x = off) (ht : (pc : Int) + off = (tgt : Int)) (k : Wp cc own rt d tgt loc st σ Q) : Wp cc own rt d pc loc (mI x :: st) σ Q := by
  intro g p l e s m args below meth c H locs ls Cx hP hS hσ hlo hst
  have ox : okI x := hst.1
  exact lv_lookup (tgt := tgt) (off := off) Cx.1 Cx.2.1 hd hp (by rw [oI_toInt ox]; exact ho) ht (k g p l e s m args below meth c H locs ls Cx hP hS hσ hlo hst.2)
/-- what a proof may know of every number: its bound -/
theorem wp_ok {stk : List MV} (k : okS σ → Wp cc own rt d pc loc stk σ Q) : Wp cc own rt d pc loc stk σ Q := by
  intro g p l e s m args below meth c H locs ls Cx hP hS hσ hlo hst
  exact k hσ g p l e s m args below meth c H locs ls Cx hP hS hσ hlo hst
theorem wp_okl {stk : List MV} (k : (∀ v, some v ∈ loc → okv v) → Wp cc own rt d pc loc stk σ Q) : Wp cc own rt d pc loc stk σ Q := by
  intro g p l e s m args below meth c H locs ls Cx hP hS hσ hlo hst
  exact k hlo.2 g p l e s m args below meth c H locs ls Cx hP hS hσ hlo hst
theorem wp_okt {stk : List MV} (k : oks stk → Wp cc own rt d pc loc stk σ Q) : Wp cc own rt d pc loc stk σ Q := by
  intro g p l e s m args below meth c H locs ls Cx hP hS hσ hlo hst
  exact k hst g p l e s m args below meth c H locs ls Cx hP hS hσ hlo hst
theorem wp_top {z : Int} (k : ∀ y, y = z → Wp cc own rt d pc loc (mI y :: st) σ Q) : Wp cc own rt d pc loc (mI z :: st) σ Q := k z rfl
theorem wp_sto (k : ∀ σ', σ' = σ → Wp cc own rt d pc loc st σ' Q) : Wp cc own rt d pc loc st σ Q := k σ rfl
end CALL
end
