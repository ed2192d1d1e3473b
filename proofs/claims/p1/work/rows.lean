section
-- ===== PART A: goes FIRST, ahead of the names: the tables' words, and 'selects' of the private methods out of them =====
/-- a private method of a class that the tables say can be made, by its rows of tables_1 -/
def lw_okq (q : MethodName × Nat) : Prop := (q.1.cls ≠ "java/lang/invoke/MethodHandle" ∧ q.1.cls ≠ "java/lang/invoke/VarHandle") ∧ Cond.instantiable q.1.cls q.2 ∈ tables_1 ∧ Cond.privateMethod q.1 ∈ tables_1 ∧ Cond.instanceMethod q.1 ∈ tables_1
theorem lw_p0 : lw_okq (⟨"CollectorHouse", "readPolicy", "()I"⟩, 12) := ⟨⟨by decide +kernel, by decide +kernel⟩, List.mem_of_getElem? (i := 31) (by decide +kernel), List.mem_of_getElem? (i := 365) (by decide +kernel), List.mem_of_getElem? (i := 366) (by decide +kernel)⟩
theorem lw_p1 : lw_okq (⟨"CollectorHouse", "nextToken", "()Z"⟩, 12) := ⟨⟨by decide +kernel, by decide +kernel⟩, List.mem_of_getElem? (i := 31) (by decide +kernel), List.mem_of_getElem? (i := 369) (by decide +kernel), List.mem_of_getElem? (i := 370) (by decide +kernel)⟩
theorem lw_p2 : lw_okq (⟨"CollectorHouse", "policyToken", "()I"⟩, 12) := ⟨⟨by decide +kernel, by decide +kernel⟩, List.mem_of_getElem? (i := 31) (by decide +kernel), List.mem_of_getElem? (i := 373) (by decide +kernel), List.mem_of_getElem? (i := 374) (by decide +kernel)⟩
theorem lw_p3 : lw_okq (⟨"CollectorHouse", "tokenIs", "(Ljava/lang/String;)Z"⟩, 12) := ⟨⟨by decide +kernel, by decide +kernel⟩, List.mem_of_getElem? (i := 31) (by decide +kernel), List.mem_of_getElem? (i := 378) (by decide +kernel), List.mem_of_getElem? (i := 379) (by decide +kernel)⟩
theorem lw_p4 : lw_okq (⟨"CollectorHouse", "partToken", "(C)I"⟩, 12) := ⟨⟨by decide +kernel, by decide +kernel⟩, List.mem_of_getElem? (i := 31) (by decide +kernel), List.mem_of_getElem? (i := 445) (by decide +kernel), List.mem_of_getElem? (i := 446) (by decide +kernel)⟩
theorem lw_p5 : lw_okq (⟨"CollectorHouse", "numberToken", "(II)I"⟩, 12) := ⟨⟨by decide +kernel, by decide +kernel⟩, List.mem_of_getElem? (i := 31) (by decide +kernel), List.mem_of_getElem? (i := 449) (by decide +kernel), List.mem_of_getElem? (i := 450) (by decide +kernel)⟩
theorem lw_p6 : lw_okq (⟨"CollectorHouse", "formToken", "()I"⟩, 12) := ⟨⟨by decide +kernel, by decide +kernel⟩, List.mem_of_getElem? (i := 31) (by decide +kernel), List.mem_of_getElem? (i := 456) (by decide +kernel), List.mem_of_getElem? (i := 457) (by decide +kernel)⟩
theorem lw_p7 : lw_okq (⟨"CollectorHouse", "barrierToken", "()I"⟩, 12) := ⟨⟨by decide +kernel, by decide +kernel⟩, List.mem_of_getElem? (i := 31) (by decide +kernel), List.mem_of_getElem? (i := 464) (by decide +kernel), List.mem_of_getElem? (i := 465) (by decide +kernel)⟩
theorem lw_p8 : lw_okq (⟨"java/lang/Throwable", "fillInStackTrace", "(I)Ljava/lang/Throwable;"⟩, 6) := ⟨⟨by decide +kernel, by decide +kernel⟩, List.mem_of_getElem? (i := 572) (by decide +kernel), List.mem_of_getElem? (i := 570) (by decide +kernel), List.mem_of_getElem? (i := 571) (by decide +kernel)⟩
theorem lw_p9 : lw_okq (⟨"CollectorHouse", "addBytes", "(I)V"⟩, 12) := ⟨⟨by decide +kernel, by decide +kernel⟩, List.mem_of_getElem? (i := 31) (by decide +kernel), List.mem_of_getElem? (i := 597) (by decide +kernel), List.mem_of_getElem? (i := 598) (by decide +kernel)⟩
theorem lw_p10 : lw_okq (⟨"CollectorHouse", "addObject", "(IIJI)I"⟩, 12) := ⟨⟨by decide +kernel, by decide +kernel⟩, List.mem_of_getElem? (i := 31) (by decide +kernel), List.mem_of_getElem? (i := 657) (by decide +kernel), List.mem_of_getElem? (i := 658) (by decide +kernel)⟩
theorem lw_p11 : lw_okq (⟨"CollectorHouse", "needCollector", "()LCollectorHouse$Collector;"⟩, 12) := ⟨⟨by decide +kernel, by decide +kernel⟩, List.mem_of_getElem? (i := 31) (by decide +kernel), List.mem_of_getElem? (i := 661) (by decide +kernel), List.mem_of_getElem? (i := 662) (by decide +kernel)⟩
theorem lw_p12 : lw_okq (⟨"CollectorHouse$Ages", "findOldRoom", "(I)I"⟩, 10) := ⟨⟨by decide +kernel, by decide +kernel⟩, List.mem_of_getElem? (i := 213) (by decide +kernel), List.mem_of_getElem? (i := 671) (by decide +kernel), List.mem_of_getElem? (i := 672) (by decide +kernel)⟩
theorem lw_p13 : lw_okq (⟨"CollectorHouse$Ages", "cleanOld", "()I"⟩, 10) := ⟨⟨by decide +kernel, by decide +kernel⟩, List.mem_of_getElem? (i := 213) (by decide +kernel), List.mem_of_getElem? (i := 675) (by decide +kernel), List.mem_of_getElem? (i := 676) (by decide +kernel)⟩
theorem lw_p14 : lw_okq (⟨"CollectorHouse$Store", "freeWords", "(II)V"⟩, 13) := ⟨⟨by decide +kernel, by decide +kernel⟩, List.mem_of_getElem? (i := 39) (by decide +kernel), List.mem_of_getElem? (i := 744) (by decide +kernel), List.mem_of_getElem? (i := 745) (by decide +kernel)⟩
theorem lw_p15 : lw_okq (⟨"CollectorHouse$Ages", "findDirty", "()V"⟩, 10) := ⟨⟨by decide +kernel, by decide +kernel⟩, List.mem_of_getElem? (i := 213) (by decide +kernel), List.mem_of_getElem? (i := 768) (by decide +kernel), List.mem_of_getElem? (i := 769) (by decide +kernel)⟩
def lw_privs_1 : List (MethodName × Nat) := [(⟨"CollectorHouse", "readPolicy", "()I"⟩, 12), (⟨"CollectorHouse", "nextToken", "()Z"⟩, 12), (⟨"CollectorHouse", "policyToken", "()I"⟩, 12), (⟨"CollectorHouse", "tokenIs", "(Ljava/lang/String;)Z"⟩, 12), (⟨"CollectorHouse", "partToken", "(C)I"⟩, 12), (⟨"CollectorHouse", "numberToken", "(II)I"⟩, 12), (⟨"CollectorHouse", "formToken", "()I"⟩, 12), (⟨"CollectorHouse", "barrierToken", "()I"⟩, 12), (⟨"java/lang/Throwable", "fillInStackTrace", "(I)Ljava/lang/Throwable;"⟩, 6), (⟨"CollectorHouse", "addBytes", "(I)V"⟩, 12), (⟨"CollectorHouse", "addObject", "(IIJI)I"⟩, 12), (⟨"CollectorHouse", "needCollector", "()LCollectorHouse$Collector;"⟩, 12), (⟨"CollectorHouse$Ages", "findOldRoom", "(I)I"⟩, 10), (⟨"CollectorHouse$Ages", "cleanOld", "()I"⟩, 10), (⟨"CollectorHouse$Store", "freeWords", "(II)V"⟩, 13), (⟨"CollectorHouse$Ages", "findDirty", "()V"⟩, 10)]
theorem lw_r1 : ∀ q ∈ lw_privs_1, lw_okq q := List.forall_mem_cons.mpr ⟨lw_p0, List.forall_mem_cons.mpr ⟨lw_p1, List.forall_mem_cons.mpr ⟨lw_p2, List.forall_mem_cons.mpr ⟨lw_p3, List.forall_mem_cons.mpr ⟨lw_p4, List.forall_mem_cons.mpr ⟨lw_p5, List.forall_mem_cons.mpr ⟨lw_p6, List.forall_mem_cons.mpr ⟨lw_p7, List.forall_mem_cons.mpr ⟨lw_p8, List.forall_mem_cons.mpr ⟨lw_p9, List.forall_mem_cons.mpr ⟨lw_p10, List.forall_mem_cons.mpr ⟨lw_p11, List.forall_mem_cons.mpr ⟨lw_p12, List.forall_mem_cons.mpr ⟨lw_p13, List.forall_mem_cons.mpr ⟨lw_p14, List.forall_mem_cons.mpr ⟨lw_p15, fun _ h => absurd h List.not_mem_nil⟩⟩⟩⟩⟩⟩⟩⟩⟩⟩⟩⟩⟩⟩⟩⟩
theorem lw_p16 : lw_okq (⟨"CollectorHouse$Ages", "isYoung", "(LCollectorHouse$Thing;)Z"⟩, 10) := ⟨⟨by decide +kernel, by decide +kernel⟩, List.mem_of_getElem? (i := 213) (by decide +kernel), List.mem_of_getElem? (i := 773) (by decide +kernel), List.mem_of_getElem? (i := 774) (by decide +kernel)⟩
theorem lw_p17 : lw_okq (⟨"CollectorHouse$Ages", "cardOf", "(LCollectorHouse$Thing;I)I"⟩, 10) := ⟨⟨by decide +kernel, by decide +kernel⟩, List.mem_of_getElem? (i := 213) (by decide +kernel), List.mem_of_getElem? (i := 782) (by decide +kernel), List.mem_of_getElem? (i := 783) (by decide +kernel)⟩
theorem lw_p18 : lw_okq (⟨"CollectorHouse$Ages", "hasYoungRoom", "(I)Z"⟩, 10) := ⟨⟨by decide +kernel, by decide +kernel⟩, List.mem_of_getElem? (i := 213) (by decide +kernel), List.mem_of_getElem? (i := 786) (by decide +kernel), List.mem_of_getElem? (i := 787) (by decide +kernel)⟩
theorem lw_p19 : lw_okq (⟨"CollectorHouse$Ages", "cleanYoung", "()I"⟩, 10) := ⟨⟨by decide +kernel, by decide +kernel⟩, List.mem_of_getElem? (i := 213) (by decide +kernel), List.mem_of_getElem? (i := 790) (by decide +kernel), List.mem_of_getElem? (i := 791) (by decide +kernel)⟩
theorem lw_p20 : lw_okq (⟨"CollectorHouse$Ages", "wordsGrowingOld", "()I"⟩, 10) := ⟨⟨by decide +kernel, by decide +kernel⟩, List.mem_of_getElem? (i := 213) (by decide +kernel), List.mem_of_getElem? (i := 794) (by decide +kernel), List.mem_of_getElem? (i := 795) (by decide +kernel)⟩
theorem lw_p21 : lw_okq (⟨"CollectorHouse$Ages", "comeFromDirty", "()V"⟩, 10) := ⟨⟨by decide +kernel, by decide +kernel⟩, List.mem_of_getElem? (i := 213) (by decide +kernel), List.mem_of_getElem? (i := 800) (by decide +kernel), List.mem_of_getElem? (i := 801) (by decide +kernel)⟩
theorem lw_p22 : lw_okq (⟨"CollectorHouse$Ages", "comeFromDirtyWords", "(LCollectorHouse$Thing;)V"⟩, 10) := ⟨⟨by decide +kernel, by decide +kernel⟩, List.mem_of_getElem? (i := 213) (by decide +kernel), List.mem_of_getElem? (i := 805) (by decide +kernel), List.mem_of_getElem? (i := 806) (by decide +kernel)⟩
theorem lw_p23 : lw_okq (⟨"CollectorHouse$Ages", "moveKept", "()V"⟩, 10) := ⟨⟨by decide +kernel, by decide +kernel⟩, List.mem_of_getElem? (i := 213) (by decide +kernel), List.mem_of_getElem? (i := 811) (by decide +kernel), List.mem_of_getElem? (i := 812) (by decide +kernel)⟩
theorem lw_p24 : lw_okq (⟨"CollectorHouse$Ages", "moveOlder", "(LCollectorHouse$Thing;)V"⟩, 10) := ⟨⟨by decide +kernel, by decide +kernel⟩, List.mem_of_getElem? (i := 213) (by decide +kernel), List.mem_of_getElem? (i := 819) (by decide +kernel), List.mem_of_getElem? (i := 820) (by decide +kernel)⟩
theorem lw_p25 : lw_okq (⟨"CollectorHouse$Sweep", "fitFirst", "(III)I"⟩, 5) := ⟨⟨by decide +kernel, by decide +kernel⟩, List.mem_of_getElem? (i := 137) (by decide +kernel), List.mem_of_getElem? (i := 834) (by decide +kernel), List.mem_of_getElem? (i := 835) (by decide +kernel)⟩
theorem lw_p26 : lw_okq (⟨"CollectorHouse$Sweep", "fitNext", "(I)I"⟩, 5) := ⟨⟨by decide +kernel, by decide +kernel⟩, List.mem_of_getElem? (i := 137) (by decide +kernel), List.mem_of_getElem? (i := 853) (by decide +kernel), List.mem_of_getElem? (i := 854) (by decide +kernel)⟩
theorem lw_p27 : lw_okq (⟨"CollectorHouse$Sweep", "fitByLength", "(IZ)I"⟩, 5) := ⟨⟨by decide +kernel, by decide +kernel⟩, List.mem_of_getElem? (i := 137) (by decide +kernel), List.mem_of_getElem? (i := 857) (by decide +kernel), List.mem_of_getElem? (i := 858) (by decide +kernel)⟩
theorem lw_p28 : lw_okq (⟨"CollectorHouse$Steps", "begin", "()V"⟩, 9) := ⟨⟨by decide +kernel, by decide +kernel⟩, List.mem_of_getElem? (i := 268) (by decide +kernel), List.mem_of_getElem? (i := 869) (by decide +kernel), List.mem_of_getElem? (i := 870) (by decide +kernel)⟩
theorem lw_p29 : lw_okq (⟨"CollectorHouse$Steps", "newsCame", "()Z"⟩, 9) := ⟨⟨by decide +kernel, by decide +kernel⟩, List.mem_of_getElem? (i := 268) (by decide +kernel), List.mem_of_getElem? (i := 876) (by decide +kernel), List.mem_of_getElem? (i := 877) (by decide +kernel)⟩
theorem lw_p30 : lw_okq (⟨"CollectorHouse$Steps", "finish", "()I"⟩, 9) := ⟨⟨by decide +kernel, by decide +kernel⟩, List.mem_of_getElem? (i := 268) (by decide +kernel), List.mem_of_getElem? (i := 884) (by decide +kernel), List.mem_of_getElem? (i := 885) (by decide +kernel)⟩
theorem lw_p31 : lw_okq (⟨"CollectorHouse$Halves", "hasRoom", "(I)Z"⟩, 5) := ⟨⟨by decide +kernel, by decide +kernel⟩, List.mem_of_getElem? (i := 195) (by decide +kernel), List.mem_of_getElem? (i := 905) (by decide +kernel), List.mem_of_getElem? (i := 906) (by decide +kernel)⟩
def lw_privs_2 : List (MethodName × Nat) := [(⟨"CollectorHouse$Ages", "isYoung", "(LCollectorHouse$Thing;)Z"⟩, 10), (⟨"CollectorHouse$Ages", "cardOf", "(LCollectorHouse$Thing;I)I"⟩, 10), (⟨"CollectorHouse$Ages", "hasYoungRoom", "(I)Z"⟩, 10), (⟨"CollectorHouse$Ages", "cleanYoung", "()I"⟩, 10), (⟨"CollectorHouse$Ages", "wordsGrowingOld", "()I"⟩, 10), (⟨"CollectorHouse$Ages", "comeFromDirty", "()V"⟩, 10), (⟨"CollectorHouse$Ages", "comeFromDirtyWords", "(LCollectorHouse$Thing;)V"⟩, 10), (⟨"CollectorHouse$Ages", "moveKept", "()V"⟩, 10), (⟨"CollectorHouse$Ages", "moveOlder", "(LCollectorHouse$Thing;)V"⟩, 10), (⟨"CollectorHouse$Sweep", "fitFirst", "(III)I"⟩, 5), (⟨"CollectorHouse$Sweep", "fitNext", "(I)I"⟩, 5), (⟨"CollectorHouse$Sweep", "fitByLength", "(IZ)I"⟩, 5), (⟨"CollectorHouse$Steps", "begin", "()V"⟩, 9), (⟨"CollectorHouse$Steps", "newsCame", "()Z"⟩, 9), (⟨"CollectorHouse$Steps", "finish", "()I"⟩, 9), (⟨"CollectorHouse$Halves", "hasRoom", "(I)Z"⟩, 5)]
theorem lw_r2 : ∀ q ∈ lw_privs_2, lw_okq q := List.forall_mem_cons.mpr ⟨lw_p16, List.forall_mem_cons.mpr ⟨lw_p17, List.forall_mem_cons.mpr ⟨lw_p18, List.forall_mem_cons.mpr ⟨lw_p19, List.forall_mem_cons.mpr ⟨lw_p20, List.forall_mem_cons.mpr ⟨lw_p21, List.forall_mem_cons.mpr ⟨lw_p22, List.forall_mem_cons.mpr ⟨lw_p23, List.forall_mem_cons.mpr ⟨lw_p24, List.forall_mem_cons.mpr ⟨lw_p25, List.forall_mem_cons.mpr ⟨lw_p26, List.forall_mem_cons.mpr ⟨lw_p27, List.forall_mem_cons.mpr ⟨lw_p28, List.forall_mem_cons.mpr ⟨lw_p29, List.forall_mem_cons.mpr ⟨lw_p30, List.forall_mem_cons.mpr ⟨lw_p31, fun _ h => absurd h List.not_mem_nil⟩⟩⟩⟩⟩⟩⟩⟩⟩⟩⟩⟩⟩⟩⟩⟩
theorem lw_p32 : lw_okq (⟨"CollectorHouse$Regions", "fits", "(II)Z"⟩, 9) := ⟨⟨by decide +kernel, by decide +kernel⟩, List.mem_of_getElem? (i := 294) (by decide +kernel), List.mem_of_getElem? (i := 921) (by decide +kernel), List.mem_of_getElem? (i := 922) (by decide +kernel)⟩
theorem lw_p33 : lw_okq (⟨"CollectorHouse$Regions", "sumKept", "()V"⟩, 9) := ⟨⟨by decide +kernel, by decide +kernel⟩, List.mem_of_getElem? (i := 294) (by decide +kernel), List.mem_of_getElem? (i := 936) (by decide +kernel), List.mem_of_getElem? (i := 937) (by decide +kernel)⟩
theorem lw_p34 : lw_okq (⟨"CollectorHouse$Regions", "regionOf", "(LCollectorHouse$Thing;)I"⟩, 9) := ⟨⟨by decide +kernel, by decide +kernel⟩, List.mem_of_getElem? (i := 294) (by decide +kernel), List.mem_of_getElem? (i := 941) (by decide +kernel), List.mem_of_getElem? (i := 942) (by decide +kernel)⟩
theorem lw_p35 : lw_okq (⟨"CollectorHouse$Regions", "emptyWhereNothingIsLeft", "()V"⟩, 9) := ⟨⟨by decide +kernel, by decide +kernel⟩, List.mem_of_getElem? (i := 294) (by decide +kernel), List.mem_of_getElem? (i := 945) (by decide +kernel), List.mem_of_getElem? (i := 946) (by decide +kernel)⟩
theorem lw_p36 : lw_okq (⟨"CollectorHouse$Regions", "chooseLeaving", "()V"⟩, 9) := ⟨⟨by decide +kernel, by decide +kernel⟩, List.mem_of_getElem? (i := 294) (by decide +kernel), List.mem_of_getElem? (i := 949) (by decide +kernel), List.mem_of_getElem? (i := 950) (by decide +kernel)⟩
theorem lw_p37 : lw_okq (⟨"CollectorHouse$Regions", "fewestLeaving", "()I"⟩, 9) := ⟨⟨by decide +kernel, by decide +kernel⟩, List.mem_of_getElem? (i := 294) (by decide +kernel), List.mem_of_getElem? (i := 953) (by decide +kernel), List.mem_of_getElem? (i := 954) (by decide +kernel)⟩
theorem lw_p38 : lw_okq (⟨"CollectorHouse$Regions", "moveAll", "(I)Z"⟩, 9) := ⟨⟨by decide +kernel, by decide +kernel⟩, List.mem_of_getElem? (i := 294) (by decide +kernel), List.mem_of_getElem? (i := 957) (by decide +kernel), List.mem_of_getElem? (i := 958) (by decide +kernel)⟩
theorem lw_p39 : lw_okq (⟨"CollectorHouse$Regions", "topOf", "(I)I"⟩, 9) := ⟨⟨by decide +kernel, by decide +kernel⟩, List.mem_of_getElem? (i := 294) (by decide +kernel), List.mem_of_getElem? (i := 961) (by decide +kernel), List.mem_of_getElem? (i := 962) (by decide +kernel)⟩
theorem lw_p40 : lw_okq (⟨"CollectorHouse$Regions", "moveOut", "(LCollectorHouse$Thing;)Z"⟩, 9) := ⟨⟨by decide +kernel, by decide +kernel⟩, List.mem_of_getElem? (i := 294) (by decide +kernel), List.mem_of_getElem? (i := 966) (by decide +kernel), List.mem_of_getElem? (i := 967) (by decide +kernel)⟩
theorem lw_p41 : lw_okq (⟨"CollectorHouse$Regions", "leastEmpty", "()I"⟩, 9) := ⟨⟨by decide +kernel, by decide +kernel⟩, List.mem_of_getElem? (i := 294) (by decide +kernel), List.mem_of_getElem? (i := 970) (by decide +kernel), List.mem_of_getElem? (i := 971) (by decide +kernel)⟩
theorem lw_p42 : lw_okq (⟨"CollectorHouse$Regions", "raiseTop", "(II)V"⟩, 9) := ⟨⟨by decide +kernel, by decide +kernel⟩, List.mem_of_getElem? (i := 294) (by decide +kernel), List.mem_of_getElem? (i := 975) (by decide +kernel), List.mem_of_getElem? (i := 976) (by decide +kernel)⟩
theorem lw_p43 : lw_okq (⟨"CollectorHouse", "changeRoot", "(LCollectorHouse$Collector;ILCollectorHouse$Thing;)LCollectorHouse$Thing;"⟩, 12) := ⟨⟨by decide +kernel, by decide +kernel⟩, List.mem_of_getElem? (i := 31) (by decide +kernel), List.mem_of_getElem? (i := 1113) (by decide +kernel), List.mem_of_getElem? (i := 1114) (by decide +kernel)⟩
theorem lw_p44 : lw_okq (⟨"CollectorHouse$Counts", "fallIfUncounted", "(LCollectorHouse$Thing;)V"⟩, 8) := ⟨⟨by decide +kernel, by decide +kernel⟩, List.mem_of_getElem? (i := 246) (by decide +kernel), List.mem_of_getElem? (i := 1148) (by decide +kernel), List.mem_of_getElem? (i := 1149) (by decide +kernel)⟩
theorem lw_p45 : lw_okq (⟨"CollectorHouse$Counts", "dropWord", "(LCollectorHouse$Thing;I)V"⟩, 8) := ⟨⟨by decide +kernel, by decide +kernel⟩, List.mem_of_getElem? (i := 246) (by decide +kernel), List.mem_of_getElem? (i := 1155) (by decide +kernel), List.mem_of_getElem? (i := 1156) (by decide +kernel)⟩
theorem lw_p46 : lw_okq (⟨"CollectorHouse", "needReached", "(I)LCollectorHouse$Thing;"⟩, 12) := ⟨⟨by decide +kernel, by decide +kernel⟩, List.mem_of_getElem? (i := 31) (by decide +kernel), List.mem_of_getElem? (i := 1192) (by decide +kernel), List.mem_of_getElem? (i := 1193) (by decide +kernel)⟩
theorem lw_p47 : lw_okq (⟨"CollectorHouse", "needReachedOrNothing", "(I)LCollectorHouse$Thing;"⟩, 12) := ⟨⟨by decide +kernel, by decide +kernel⟩, List.mem_of_getElem? (i := 31) (by decide +kernel), List.mem_of_getElem? (i := 1239) (by decide +kernel), List.mem_of_getElem? (i := 1240) (by decide +kernel)⟩
def lw_privs_3 : List (MethodName × Nat) := [(⟨"CollectorHouse$Regions", "fits", "(II)Z"⟩, 9), (⟨"CollectorHouse$Regions", "sumKept", "()V"⟩, 9), (⟨"CollectorHouse$Regions", "regionOf", "(LCollectorHouse$Thing;)I"⟩, 9), (⟨"CollectorHouse$Regions", "emptyWhereNothingIsLeft", "()V"⟩, 9), (⟨"CollectorHouse$Regions", "chooseLeaving", "()V"⟩, 9), (⟨"CollectorHouse$Regions", "fewestLeaving", "()I"⟩, 9), (⟨"CollectorHouse$Regions", "moveAll", "(I)Z"⟩, 9), (⟨"CollectorHouse$Regions", "topOf", "(I)I"⟩, 9), (⟨"CollectorHouse$Regions", "moveOut", "(LCollectorHouse$Thing;)Z"⟩, 9), (⟨"CollectorHouse$Regions", "leastEmpty", "()I"⟩, 9), (⟨"CollectorHouse$Regions", "raiseTop", "(II)V"⟩, 9), (⟨"CollectorHouse", "changeRoot", "(LCollectorHouse$Collector;ILCollectorHouse$Thing;)LCollectorHouse$Thing;"⟩, 12), (⟨"CollectorHouse$Counts", "fallIfUncounted", "(LCollectorHouse$Thing;)V"⟩, 8), (⟨"CollectorHouse$Counts", "dropWord", "(LCollectorHouse$Thing;I)V"⟩, 8), (⟨"CollectorHouse", "needReached", "(I)LCollectorHouse$Thing;"⟩, 12), (⟨"CollectorHouse", "needReachedOrNothing", "(I)LCollectorHouse$Thing;"⟩, 12)]
theorem lw_r3 : ∀ q ∈ lw_privs_3, lw_okq q := List.forall_mem_cons.mpr ⟨lw_p32, List.forall_mem_cons.mpr ⟨lw_p33, List.forall_mem_cons.mpr ⟨lw_p34, List.forall_mem_cons.mpr ⟨lw_p35, List.forall_mem_cons.mpr ⟨lw_p36, List.forall_mem_cons.mpr ⟨lw_p37, List.forall_mem_cons.mpr ⟨lw_p38, List.forall_mem_cons.mpr ⟨lw_p39, List.forall_mem_cons.mpr ⟨lw_p40, List.forall_mem_cons.mpr ⟨lw_p41, List.forall_mem_cons.mpr ⟨lw_p42, List.forall_mem_cons.mpr ⟨lw_p43, List.forall_mem_cons.mpr ⟨lw_p44, List.forall_mem_cons.mpr ⟨lw_p45, List.forall_mem_cons.mpr ⟨lw_p46, List.forall_mem_cons.mpr ⟨lw_p47, fun _ h => absurd h List.not_mem_nil⟩⟩⟩⟩⟩⟩⟩⟩⟩⟩⟩⟩⟩⟩⟩⟩
theorem lw_p48 : lw_okq (⟨"CollectorHouseModel", "fails", "(I)Z"⟩, 85) := ⟨⟨by decide +kernel, by decide +kernel⟩, List.mem_of_getElem? (i := 1508) (by decide +kernel), List.mem_of_getElem? (i := 1776) (by decide +kernel), List.mem_of_getElem? (i := 1777) (by decide +kernel)⟩
theorem lw_p49 : lw_okq (⟨"CollectorHouseModel", "four", "(I)V"⟩, 85) := ⟨⟨by decide +kernel, by decide +kernel⟩, List.mem_of_getElem? (i := 1508) (by decide +kernel), List.mem_of_getElem? (i := 1780) (by decide +kernel), List.mem_of_getElem? (i := 1781) (by decide +kernel)⟩
theorem lw_p50 : lw_okq (⟨"CollectorHouseModel", "readPolicy", "()Z"⟩, 85) := ⟨⟨by decide +kernel, by decide +kernel⟩, List.mem_of_getElem? (i := 1508) (by decide +kernel), List.mem_of_getElem? (i := 1796) (by decide +kernel), List.mem_of_getElem? (i := 1797) (by decide +kernel)⟩
theorem lw_p51 : lw_okq (⟨"CollectorHouseModel", "token", "()Z"⟩, 85) := ⟨⟨by decide +kernel, by decide +kernel⟩, List.mem_of_getElem? (i := 1508) (by decide +kernel), List.mem_of_getElem? (i := 1800) (by decide +kernel), List.mem_of_getElem? (i := 1801) (by decide +kernel)⟩
theorem lw_p52 : lw_okq (⟨"CollectorHouseModel", "wrong", "(I)Z"⟩, 85) := ⟨⟨by decide +kernel, by decide +kernel⟩, List.mem_of_getElem? (i := 1508) (by decide +kernel), List.mem_of_getElem? (i := 1804) (by decide +kernel), List.mem_of_getElem? (i := 1805) (by decide +kernel)⟩
theorem lw_p53 : lw_okq (⟨"CollectorHouseModel", "is", "(IIIIIII)Z"⟩, 85) := ⟨⟨by decide +kernel, by decide +kernel⟩, List.mem_of_getElem? (i := 1508) (by decide +kernel), List.mem_of_getElem? (i := 1808) (by decide +kernel), List.mem_of_getElem? (i := 1809) (by decide +kernel)⟩
theorem lw_p54 : lw_okq (⟨"CollectorHouseModel", "byteIs", "(II)Z"⟩, 85) := ⟨⟨by decide +kernel, by decide +kernel⟩, List.mem_of_getElem? (i := 1508) (by decide +kernel), List.mem_of_getElem? (i := 1812) (by decide +kernel), List.mem_of_getElem? (i := 1813) (by decide +kernel)⟩
theorem lw_p55 : lw_okq (⟨"CollectorHouseModel", "number", "(II)Z"⟩, 85) := ⟨⟨by decide +kernel, by decide +kernel⟩, List.mem_of_getElem? (i := 1508) (by decide +kernel), List.mem_of_getElem? (i := 1816) (by decide +kernel), List.mem_of_getElem? (i := 1817) (by decide +kernel)⟩
theorem lw_p56 : lw_okq (⟨"CollectorHouseModel", "roomHere", "()Z"⟩, 85) := ⟨⟨by decide +kernel, by decide +kernel⟩, List.mem_of_getElem? (i := 1508) (by decide +kernel), List.mem_of_getElem? (i := 1820) (by decide +kernel), List.mem_of_getElem? (i := 1821) (by decide +kernel)⟩
theorem lw_p57 : lw_okq (⟨"CollectorHouseModel", "form", "()Z"⟩, 85) := ⟨⟨by decide +kernel, by decide +kernel⟩, List.mem_of_getElem? (i := 1508) (by decide +kernel), List.mem_of_getElem? (i := 1824) (by decide +kernel), List.mem_of_getElem? (i := 1825) (by decide +kernel)⟩
theorem lw_p58 : lw_okq (⟨"CollectorHouseModel", "empty", "()V"⟩, 85) := ⟨⟨by decide +kernel, by decide +kernel⟩, List.mem_of_getElem? (i := 1508) (by decide +kernel), List.mem_of_getElem? (i := 1828) (by decide +kernel), List.mem_of_getElem? (i := 1829) (by decide +kernel)⟩
theorem lw_p59 : lw_okq (⟨"CollectorHouseModel", "isNamed", "(I)Z"⟩, 85) := ⟨⟨by decide +kernel, by decide +kernel⟩, List.mem_of_getElem? (i := 1508) (by decide +kernel), List.mem_of_getElem? (i := 1836) (by decide +kernel), List.mem_of_getElem? (i := 1837) (by decide +kernel)⟩
theorem lw_p60 : lw_okq (⟨"CollectorHouseModel", "fresh", "(III)I"⟩, 85) := ⟨⟨by decide +kernel, by decide +kernel⟩, List.mem_of_getElem? (i := 1508) (by decide +kernel), List.mem_of_getElem? (i := 1840) (by decide +kernel), List.mem_of_getElem? (i := 1841) (by decide +kernel)⟩
theorem lw_p61 : lw_okq (⟨"CollectorHouseModel", "findRoom", "(I)I"⟩, 85) := ⟨⟨by decide +kernel, by decide +kernel⟩, List.mem_of_getElem? (i := 1508) (by decide +kernel), List.mem_of_getElem? (i := 1844) (by decide +kernel), List.mem_of_getElem? (i := 1845) (by decide +kernel)⟩
theorem lw_p62 : lw_okq (⟨"CollectorHouseModel", "findInHalf", "(II)I"⟩, 85) := ⟨⟨by decide +kernel, by decide +kernel⟩, List.mem_of_getElem? (i := 1508) (by decide +kernel), List.mem_of_getElem? (i := 1848) (by decide +kernel), List.mem_of_getElem? (i := 1849) (by decide +kernel)⟩
theorem lw_p63 : lw_okq (⟨"CollectorHouseModel", "cleanSlide", "()I"⟩, 85) := ⟨⟨by decide +kernel, by decide +kernel⟩, List.mem_of_getElem? (i := 1508) (by decide +kernel), List.mem_of_getElem? (i := 1852) (by decide +kernel), List.mem_of_getElem? (i := 1853) (by decide +kernel)⟩
def lw_privs_4 : List (MethodName × Nat) := [(⟨"CollectorHouseModel", "fails", "(I)Z"⟩, 85), (⟨"CollectorHouseModel", "four", "(I)V"⟩, 85), (⟨"CollectorHouseModel", "readPolicy", "()Z"⟩, 85), (⟨"CollectorHouseModel", "token", "()Z"⟩, 85), (⟨"CollectorHouseModel", "wrong", "(I)Z"⟩, 85), (⟨"CollectorHouseModel", "is", "(IIIIIII)Z"⟩, 85), (⟨"CollectorHouseModel", "byteIs", "(II)Z"⟩, 85), (⟨"CollectorHouseModel", "number", "(II)Z"⟩, 85), (⟨"CollectorHouseModel", "roomHere", "()Z"⟩, 85), (⟨"CollectorHouseModel", "form", "()Z"⟩, 85), (⟨"CollectorHouseModel", "empty", "()V"⟩, 85), (⟨"CollectorHouseModel", "isNamed", "(I)Z"⟩, 85), (⟨"CollectorHouseModel", "fresh", "(III)I"⟩, 85), (⟨"CollectorHouseModel", "findRoom", "(I)I"⟩, 85), (⟨"CollectorHouseModel", "findInHalf", "(II)I"⟩, 85), (⟨"CollectorHouseModel", "cleanSlide", "()I"⟩, 85)]
theorem lw_r4 : ∀ q ∈ lw_privs_4, lw_okq q := List.forall_mem_cons.mpr ⟨lw_p48, List.forall_mem_cons.mpr ⟨lw_p49, List.forall_mem_cons.mpr ⟨lw_p50, List.forall_mem_cons.mpr ⟨lw_p51, List.forall_mem_cons.mpr ⟨lw_p52, List.forall_mem_cons.mpr ⟨lw_p53, List.forall_mem_cons.mpr ⟨lw_p54, List.forall_mem_cons.mpr ⟨lw_p55, List.forall_mem_cons.mpr ⟨lw_p56, List.forall_mem_cons.mpr ⟨lw_p57, List.forall_mem_cons.mpr ⟨lw_p58, List.forall_mem_cons.mpr ⟨lw_p59, List.forall_mem_cons.mpr ⟨lw_p60, List.forall_mem_cons.mpr ⟨lw_p61, List.forall_mem_cons.mpr ⟨lw_p62, List.forall_mem_cons.mpr ⟨lw_p63, fun _ h => absurd h List.not_mem_nil⟩⟩⟩⟩⟩⟩⟩⟩⟩⟩⟩⟩⟩⟩⟩⟩
theorem lw_p64 : lw_okq (⟨"CollectorHouseModel", "sweep", "()I"⟩, 85) := ⟨⟨by decide +kernel, by decide +kernel⟩, List.mem_of_getElem? (i := 1508) (by decide +kernel), List.mem_of_getElem? (i := 1856) (by decide +kernel), List.mem_of_getElem? (i := 1857) (by decide +kernel)⟩
theorem lw_p65 : lw_okq (⟨"CollectorHouseModel", "keepReached", "()V"⟩, 85) := ⟨⟨by decide +kernel, by decide +kernel⟩, List.mem_of_getElem? (i := 1508) (by decide +kernel), List.mem_of_getElem? (i := 1860) (by decide +kernel), List.mem_of_getElem? (i := 1861) (by decide +kernel)⟩
theorem lw_p66 : lw_okq (⟨"CollectorHouseModel", "keepNone", "()V"⟩, 85) := ⟨⟨by decide +kernel, by decide +kernel⟩, List.mem_of_getElem? (i := 1508) (by decide +kernel), List.mem_of_getElem? (i := 1864) (by decide +kernel), List.mem_of_getElem? (i := 1865) (by decide +kernel)⟩
theorem lw_p67 : lw_okq (⟨"CollectorHouseModel", "keep", "(I)V"⟩, 85) := ⟨⟨by decide +kernel, by decide +kernel⟩, List.mem_of_getElem? (i := 1508) (by decide +kernel), List.mem_of_getElem? (i := 1868) (by decide +kernel), List.mem_of_getElem? (i := 1869) (by decide +kernel)⟩
theorem lw_p68 : lw_okq (⟨"CollectorHouseModel", "keepAll", "()V"⟩, 85) := ⟨⟨by decide +kernel, by decide +kernel⟩, List.mem_of_getElem? (i := 1508) (by decide +kernel), List.mem_of_getElem? (i := 1872) (by decide +kernel), List.mem_of_getElem? (i := 1873) (by decide +kernel)⟩
theorem lw_p69 : lw_okq (⟨"CollectorHouseModel", "reference", "(II)I"⟩, 85) := ⟨⟨by decide +kernel, by decide +kernel⟩, List.mem_of_getElem? (i := 1508) (by decide +kernel), List.mem_of_getElem? (i := 1876) (by decide +kernel), List.mem_of_getElem? (i := 1877) (by decide +kernel)⟩
theorem lw_p70 : lw_okq (⟨"CollectorHouseModel", "isReference", "(II)Z"⟩, 85) := ⟨⟨by decide +kernel, by decide +kernel⟩, List.mem_of_getElem? (i := 1508) (by decide +kernel), List.mem_of_getElem? (i := 1880) (by decide +kernel), List.mem_of_getElem? (i := 1881) (by decide +kernel)⟩
theorem lw_p71 : lw_okq (⟨"CollectorHouseModel", "grantAll", "()V"⟩, 85) := ⟨⟨by decide +kernel, by decide +kernel⟩, List.mem_of_getElem? (i := 1508) (by decide +kernel), List.mem_of_getElem? (i := 1884) (by decide +kernel), List.mem_of_getElem? (i := 1885) (by decide +kernel)⟩
theorem lw_p72 : lw_okq (⟨"CollectorHouseModel", "wisher", "(IZ)I"⟩, 85) := ⟨⟨by decide +kernel, by decide +kernel⟩, List.mem_of_getElem? (i := 1508) (by decide +kernel), List.mem_of_getElem? (i := 1888) (by decide +kernel), List.mem_of_getElem? (i := 1889) (by decide +kernel)⟩
theorem lw_p73 : lw_okq (⟨"CollectorHouseModel", "isOld", "(I)Z"⟩, 85) := ⟨⟨by decide +kernel, by decide +kernel⟩, List.mem_of_getElem? (i := 1508) (by decide +kernel), List.mem_of_getElem? (i := 1892) (by decide +kernel), List.mem_of_getElem? (i := 1893) (by decide +kernel)⟩
theorem lw_p74 : lw_okq (⟨"CollectorHouseModel", "toWishes", "(I)V"⟩, 85) := ⟨⟨by decide +kernel, by decide +kernel⟩, List.mem_of_getElem? (i := 1508) (by decide +kernel), List.mem_of_getElem? (i := 1896) (by decide +kernel), List.mem_of_getElem? (i := 1897) (by decide +kernel)⟩
theorem lw_p75 : lw_okq (⟨"CollectorHouseModel", "unweak", "(I)V"⟩, 85) := ⟨⟨by decide +kernel, by decide +kernel⟩, List.mem_of_getElem? (i := 1508) (by decide +kernel), List.mem_of_getElem? (i := 1900) (by decide +kernel), List.mem_of_getElem? (i := 1901) (by decide +kernel)⟩
theorem lw_p76 : lw_okq (⟨"CollectorHouseModel", "unweakRest", "()V"⟩, 85) := ⟨⟨by decide +kernel, by decide +kernel⟩, List.mem_of_getElem? (i := 1508) (by decide +kernel), List.mem_of_getElem? (i := 1904) (by decide +kernel), List.mem_of_getElem? (i := 1905) (by decide +kernel)⟩
theorem lw_p77 : lw_okq (⟨"CollectorHouseModel", "removeRest", "()I"⟩, 85) := ⟨⟨by decide +kernel, by decide +kernel⟩, List.mem_of_getElem? (i := 1508) (by decide +kernel), List.mem_of_getElem? (i := 1908) (by decide +kernel), List.mem_of_getElem? (i := 1909) (by decide +kernel)⟩
theorem lw_p78 : lw_okq (⟨"CollectorHouseModel", "sizeOf", "(I)I"⟩, 85) := ⟨⟨by decide +kernel, by decide +kernel⟩, List.mem_of_getElem? (i := 1508) (by decide +kernel), List.mem_of_getElem? (i := 1912) (by decide +kernel), List.mem_of_getElem? (i := 1913) (by decide +kernel)⟩
theorem lw_p79 : lw_okq (⟨"CollectorHouseModel", "uncountKept", "(I)V"⟩, 85) := ⟨⟨by decide +kernel, by decide +kernel⟩, List.mem_of_getElem? (i := 1508) (by decide +kernel), List.mem_of_getElem? (i := 1916) (by decide +kernel), List.mem_of_getElem? (i := 1917) (by decide +kernel)⟩
def lw_privs_5 : List (MethodName × Nat) := [(⟨"CollectorHouseModel", "sweep", "()I"⟩, 85), (⟨"CollectorHouseModel", "keepReached", "()V"⟩, 85), (⟨"CollectorHouseModel", "keepNone", "()V"⟩, 85), (⟨"CollectorHouseModel", "keep", "(I)V"⟩, 85), (⟨"CollectorHouseModel", "keepAll", "()V"⟩, 85), (⟨"CollectorHouseModel", "reference", "(II)I"⟩, 85), (⟨"CollectorHouseModel", "isReference", "(II)Z"⟩, 85), (⟨"CollectorHouseModel", "grantAll", "()V"⟩, 85), (⟨"CollectorHouseModel", "wisher", "(IZ)I"⟩, 85), (⟨"CollectorHouseModel", "isOld", "(I)Z"⟩, 85), (⟨"CollectorHouseModel", "toWishes", "(I)V"⟩, 85), (⟨"CollectorHouseModel", "unweak", "(I)V"⟩, 85), (⟨"CollectorHouseModel", "unweakRest", "()V"⟩, 85), (⟨"CollectorHouseModel", "removeRest", "()I"⟩, 85), (⟨"CollectorHouseModel", "sizeOf", "(I)I"⟩, 85), (⟨"CollectorHouseModel", "uncountKept", "(I)V"⟩, 85)]
theorem lw_r5 : ∀ q ∈ lw_privs_5, lw_okq q := List.forall_mem_cons.mpr ⟨lw_p64, List.forall_mem_cons.mpr ⟨lw_p65, List.forall_mem_cons.mpr ⟨lw_p66, List.forall_mem_cons.mpr ⟨lw_p67, List.forall_mem_cons.mpr ⟨lw_p68, List.forall_mem_cons.mpr ⟨lw_p69, List.forall_mem_cons.mpr ⟨lw_p70, List.forall_mem_cons.mpr ⟨lw_p71, List.forall_mem_cons.mpr ⟨lw_p72, List.forall_mem_cons.mpr ⟨lw_p73, List.forall_mem_cons.mpr ⟨lw_p74, List.forall_mem_cons.mpr ⟨lw_p75, List.forall_mem_cons.mpr ⟨lw_p76, List.forall_mem_cons.mpr ⟨lw_p77, List.forall_mem_cons.mpr ⟨lw_p78, List.forall_mem_cons.mpr ⟨lw_p79, fun _ h => absurd h List.not_mem_nil⟩⟩⟩⟩⟩⟩⟩⟩⟩⟩⟩⟩⟩⟩⟩⟩
theorem lw_p80 : lw_okq (⟨"CollectorHouseModel", "remove", "(I)V"⟩, 85) := ⟨⟨by decide +kernel, by decide +kernel⟩, List.mem_of_getElem? (i := 1508) (by decide +kernel), List.mem_of_getElem? (i := 1920) (by decide +kernel), List.mem_of_getElem? (i := 1921) (by decide +kernel)⟩
theorem lw_p81 : lw_okq (⟨"CollectorHouseModel", "slide", "(I)I"⟩, 85) := ⟨⟨by decide +kernel, by decide +kernel⟩, List.mem_of_getElem? (i := 1508) (by decide +kernel), List.mem_of_getElem? (i := 1924) (by decide +kernel), List.mem_of_getElem? (i := 1925) (by decide +kernel)⟩
theorem lw_p82 : lw_okq (⟨"CollectorHouseModel", "move", "(II)V"⟩, 85) := ⟨⟨by decide +kernel, by decide +kernel⟩, List.mem_of_getElem? (i := 1508) (by decide +kernel), List.mem_of_getElem? (i := 1928) (by decide +kernel), List.mem_of_getElem? (i := 1929) (by decide +kernel)⟩
theorem lw_p83 : lw_okq (⟨"CollectorHouseModel", "cleanHalves", "()I"⟩, 85) := ⟨⟨by decide +kernel, by decide +kernel⟩, List.mem_of_getElem? (i := 1508) (by decide +kernel), List.mem_of_getElem? (i := 1932) (by decide +kernel), List.mem_of_getElem? (i := 1933) (by decide +kernel)⟩
theorem lw_p84 : lw_okq (⟨"CollectorHouseModel", "come", "(I)V"⟩, 85) := ⟨⟨by decide +kernel, by decide +kernel⟩, List.mem_of_getElem? (i := 1508) (by decide +kernel), List.mem_of_getElem? (i := 1936) (by decide +kernel), List.mem_of_getElem? (i := 1937) (by decide +kernel)⟩
theorem lw_p85 : lw_okq (⟨"CollectorHouseModel", "comeAll", "()V"⟩, 85) := ⟨⟨by decide +kernel, by decide +kernel⟩, List.mem_of_getElem? (i := 1508) (by decide +kernel), List.mem_of_getElem? (i := 1940) (by decide +kernel), List.mem_of_getElem? (i := 1941) (by decide +kernel)⟩
theorem lw_p86 : lw_okq (⟨"CollectorHouseModel", "comeWishers", "(Z)V"⟩, 85) := ⟨⟨by decide +kernel, by decide +kernel⟩, List.mem_of_getElem? (i := 1508) (by decide +kernel), List.mem_of_getElem? (i := 1944) (by decide +kernel), List.mem_of_getElem? (i := 1945) (by decide +kernel)⟩
theorem lw_p87 : lw_okq (⟨"CollectorHouseModel", "findInYoung", "(I)I"⟩, 85) := ⟨⟨by decide +kernel, by decide +kernel⟩, List.mem_of_getElem? (i := 1508) (by decide +kernel), List.mem_of_getElem? (i := 1948) (by decide +kernel), List.mem_of_getElem? (i := 1949) (by decide +kernel)⟩
theorem lw_p88 : lw_okq (⟨"CollectorHouseModel", "major", "()I"⟩, 85) := ⟨⟨by decide +kernel, by decide +kernel⟩, List.mem_of_getElem? (i := 1508) (by decide +kernel), List.mem_of_getElem? (i := 1952) (by decide +kernel), List.mem_of_getElem? (i := 1953) (by decide +kernel)⟩
theorem lw_p89 : lw_okq (⟨"CollectorHouseModel", "findDirty", "()V"⟩, 85) := ⟨⟨by decide +kernel, by decide +kernel⟩, List.mem_of_getElem? (i := 1508) (by decide +kernel), List.mem_of_getElem? (i := 1956) (by decide +kernel), List.mem_of_getElem? (i := 1957) (by decide +kernel)⟩
theorem lw_p90 : lw_okq (⟨"CollectorHouseModel", "cardOf", "(II)I"⟩, 85) := ⟨⟨by decide +kernel, by decide +kernel⟩, List.mem_of_getElem? (i := 1508) (by decide +kernel), List.mem_of_getElem? (i := 1960) (by decide +kernel), List.mem_of_getElem? (i := 1961) (by decide +kernel)⟩
theorem lw_p91 : lw_okq (⟨"CollectorHouseModel", "minor", "()I"⟩, 85) := ⟨⟨by decide +kernel, by decide +kernel⟩, List.mem_of_getElem? (i := 1508) (by decide +kernel), List.mem_of_getElem? (i := 1964) (by decide +kernel), List.mem_of_getElem? (i := 1965) (by decide +kernel)⟩
theorem lw_p92 : lw_okq (⟨"CollectorHouseModel", "isOldFull", "()Z"⟩, 85) := ⟨⟨by decide +kernel, by decide +kernel⟩, List.mem_of_getElem? (i := 1508) (by decide +kernel), List.mem_of_getElem? (i := 1968) (by decide +kernel), List.mem_of_getElem? (i := 1969) (by decide +kernel)⟩
theorem lw_p93 : lw_okq (⟨"CollectorHouseModel", "comeDirty", "(I)V"⟩, 85) := ⟨⟨by decide +kernel, by decide +kernel⟩, List.mem_of_getElem? (i := 1508) (by decide +kernel), List.mem_of_getElem? (i := 1972) (by decide +kernel), List.mem_of_getElem? (i := 1973) (by decide +kernel)⟩
theorem lw_p94 : lw_okq (⟨"CollectorHouseModel", "findInSteps", "(I)I"⟩, 85) := ⟨⟨by decide +kernel, by decide +kernel⟩, List.mem_of_getElem? (i := 1508) (by decide +kernel), List.mem_of_getElem? (i := 1976) (by decide +kernel), List.mem_of_getElem? (i := 1977) (by decide +kernel)⟩
theorem lw_p95 : lw_okq (⟨"CollectorHouseModel", "freeWords", "()I"⟩, 85) := ⟨⟨by decide +kernel, by decide +kernel⟩, List.mem_of_getElem? (i := 1508) (by decide +kernel), List.mem_of_getElem? (i := 1980) (by decide +kernel), List.mem_of_getElem? (i := 1981) (by decide +kernel)⟩
def lw_privs_6 : List (MethodName × Nat) := [(⟨"CollectorHouseModel", "remove", "(I)V"⟩, 85), (⟨"CollectorHouseModel", "slide", "(I)I"⟩, 85), (⟨"CollectorHouseModel", "move", "(II)V"⟩, 85), (⟨"CollectorHouseModel", "cleanHalves", "()I"⟩, 85), (⟨"CollectorHouseModel", "come", "(I)V"⟩, 85), (⟨"CollectorHouseModel", "comeAll", "()V"⟩, 85), (⟨"CollectorHouseModel", "comeWishers", "(Z)V"⟩, 85), (⟨"CollectorHouseModel", "findInYoung", "(I)I"⟩, 85), (⟨"CollectorHouseModel", "major", "()I"⟩, 85), (⟨"CollectorHouseModel", "findDirty", "()V"⟩, 85), (⟨"CollectorHouseModel", "cardOf", "(II)I"⟩, 85), (⟨"CollectorHouseModel", "minor", "()I"⟩, 85), (⟨"CollectorHouseModel", "isOldFull", "()Z"⟩, 85), (⟨"CollectorHouseModel", "comeDirty", "(I)V"⟩, 85), (⟨"CollectorHouseModel", "findInSteps", "(I)I"⟩, 85), (⟨"CollectorHouseModel", "freeWords", "()I"⟩, 85)]
theorem lw_r6 : ∀ q ∈ lw_privs_6, lw_okq q := List.forall_mem_cons.mpr ⟨lw_p80, List.forall_mem_cons.mpr ⟨lw_p81, List.forall_mem_cons.mpr ⟨lw_p82, List.forall_mem_cons.mpr ⟨lw_p83, List.forall_mem_cons.mpr ⟨lw_p84, List.forall_mem_cons.mpr ⟨lw_p85, List.forall_mem_cons.mpr ⟨lw_p86, List.forall_mem_cons.mpr ⟨lw_p87, List.forall_mem_cons.mpr ⟨lw_p88, List.forall_mem_cons.mpr ⟨lw_p89, List.forall_mem_cons.mpr ⟨lw_p90, List.forall_mem_cons.mpr ⟨lw_p91, List.forall_mem_cons.mpr ⟨lw_p92, List.forall_mem_cons.mpr ⟨lw_p93, List.forall_mem_cons.mpr ⟨lw_p94, List.forall_mem_cons.mpr ⟨lw_p95, fun _ h => absurd h List.not_mem_nil⟩⟩⟩⟩⟩⟩⟩⟩⟩⟩⟩⟩⟩⟩⟩⟩
theorem lw_p96 : lw_okq (⟨"CollectorHouseModel", "beginMarking", "()V"⟩, 85) := ⟨⟨by decide +kernel, by decide +kernel⟩, List.mem_of_getElem? (i := 1508) (by decide +kernel), List.mem_of_getElem? (i := 1984) (by decide +kernel), List.mem_of_getElem? (i := 1985) (by decide +kernel)⟩
theorem lw_p97 : lw_okq (⟨"CollectorHouseModel", "greyRoots", "()V"⟩, 85) := ⟨⟨by decide +kernel, by decide +kernel⟩, List.mem_of_getElem? (i := 1508) (by decide +kernel), List.mem_of_getElem? (i := 1988) (by decide +kernel), List.mem_of_getElem? (i := 1989) (by decide +kernel)⟩
theorem lw_p98 : lw_okq (⟨"CollectorHouseModel", "toGrey", "(I)V"⟩, 85) := ⟨⟨by decide +kernel, by decide +kernel⟩, List.mem_of_getElem? (i := 1508) (by decide +kernel), List.mem_of_getElem? (i := 1992) (by decide +kernel), List.mem_of_getElem? (i := 1993) (by decide +kernel)⟩
theorem lw_p99 : lw_okq (⟨"CollectorHouseModel", "steps", "(I)I"⟩, 85) := ⟨⟨by decide +kernel, by decide +kernel⟩, List.mem_of_getElem? (i := 1508) (by decide +kernel), List.mem_of_getElem? (i := 1996) (by decide +kernel), List.mem_of_getElem? (i := 1997) (by decide +kernel)⟩
theorem lw_p100 : lw_okq (⟨"CollectorHouseModel", "lookEmpty", "()I"⟩, 85) := ⟨⟨by decide +kernel, by decide +kernel⟩, List.mem_of_getElem? (i := 1508) (by decide +kernel), List.mem_of_getElem? (i := 2000) (by decide +kernel), List.mem_of_getElem? (i := 2001) (by decide +kernel)⟩
theorem lw_p101 : lw_okq (⟨"CollectorHouseModel", "find", "(I)I"⟩, 85) := ⟨⟨by decide +kernel, by decide +kernel⟩, List.mem_of_getElem? (i := 1508) (by decide +kernel), List.mem_of_getElem? (i := 2004) (by decide +kernel), List.mem_of_getElem? (i := 2005) (by decide +kernel)⟩
theorem lw_p102 : lw_okq (⟨"CollectorHouseModel", "firstFit", "(III)I"⟩, 85) := ⟨⟨by decide +kernel, by decide +kernel⟩, List.mem_of_getElem? (i := 1508) (by decide +kernel), List.mem_of_getElem? (i := 2008) (by decide +kernel), List.mem_of_getElem? (i := 2009) (by decide +kernel)⟩
theorem lw_p103 : lw_okq (⟨"CollectorHouseModel", "blockFrom", "(II)I"⟩, 85) := ⟨⟨by decide +kernel, by decide +kernel⟩, List.mem_of_getElem? (i := 1508) (by decide +kernel), List.mem_of_getElem? (i := 2012) (by decide +kernel), List.mem_of_getElem? (i := 2013) (by decide +kernel)⟩
theorem lw_p104 : lw_okq (⟨"CollectorHouseModel", "startOf", "(I)I"⟩, 85) := ⟨⟨by decide +kernel, by decide +kernel⟩, List.mem_of_getElem? (i := 1508) (by decide +kernel), List.mem_of_getElem? (i := 2016) (by decide +kernel), List.mem_of_getElem? (i := 2017) (by decide +kernel)⟩
theorem lw_p105 : lw_okq (⟨"CollectorHouseModel", "firstFitAhead", "(II)I"⟩, 85) := ⟨⟨by decide +kernel, by decide +kernel⟩, List.mem_of_getElem? (i := 1508) (by decide +kernel), List.mem_of_getElem? (i := 2020) (by decide +kernel), List.mem_of_getElem? (i := 2021) (by decide +kernel)⟩
theorem lw_p106 : lw_okq (⟨"CollectorHouseModel", "whole", "()I"⟩, 85) := ⟨⟨by decide +kernel, by decide +kernel⟩, List.mem_of_getElem? (i := 1508) (by decide +kernel), List.mem_of_getElem? (i := 2024) (by decide +kernel), List.mem_of_getElem? (i := 2025) (by decide +kernel)⟩
theorem lw_p107 : lw_okq (⟨"CollectorHouseModel", "finish", "()I"⟩, 85) := ⟨⟨by decide +kernel, by decide +kernel⟩, List.mem_of_getElem? (i := 1508) (by decide +kernel), List.mem_of_getElem? (i := 2028) (by decide +kernel), List.mem_of_getElem? (i := 2029) (by decide +kernel)⟩
theorem lw_p108 : lw_okq (⟨"CollectorHouseModel", "findInRegions", "(I)I"⟩, 85) := ⟨⟨by decide +kernel, by decide +kernel⟩, List.mem_of_getElem? (i := 1508) (by decide +kernel), List.mem_of_getElem? (i := 2032) (by decide +kernel), List.mem_of_getElem? (i := 2033) (by decide +kernel)⟩
theorem lw_p109 : lw_okq (⟨"CollectorHouseModel", "findInRegion", "(I)I"⟩, 85) := ⟨⟨by decide +kernel, by decide +kernel⟩, List.mem_of_getElem? (i := 1508) (by decide +kernel), List.mem_of_getElem? (i := 2036) (by decide +kernel), List.mem_of_getElem? (i := 2037) (by decide +kernel)⟩
theorem lw_p110 : lw_okq (⟨"CollectorHouseModel", "emptyRegions", "()I"⟩, 85) := ⟨⟨by decide +kernel, by decide +kernel⟩, List.mem_of_getElem? (i := 1508) (by decide +kernel), List.mem_of_getElem? (i := 2040) (by decide +kernel), List.mem_of_getElem? (i := 2041) (by decide +kernel)⟩
theorem lw_p111 : lw_okq (⟨"CollectorHouseModel", "leastEmpty", "()I"⟩, 85) := ⟨⟨by decide +kernel, by decide +kernel⟩, List.mem_of_getElem? (i := 1508) (by decide +kernel), List.mem_of_getElem? (i := 2044) (by decide +kernel), List.mem_of_getElem? (i := 2045) (by decide +kernel)⟩
def lw_privs_7 : List (MethodName × Nat) := [(⟨"CollectorHouseModel", "beginMarking", "()V"⟩, 85), (⟨"CollectorHouseModel", "greyRoots", "()V"⟩, 85), (⟨"CollectorHouseModel", "toGrey", "(I)V"⟩, 85), (⟨"CollectorHouseModel", "steps", "(I)I"⟩, 85), (⟨"CollectorHouseModel", "lookEmpty", "()I"⟩, 85), (⟨"CollectorHouseModel", "find", "(I)I"⟩, 85), (⟨"CollectorHouseModel", "firstFit", "(III)I"⟩, 85), (⟨"CollectorHouseModel", "blockFrom", "(II)I"⟩, 85), (⟨"CollectorHouseModel", "startOf", "(I)I"⟩, 85), (⟨"CollectorHouseModel", "firstFitAhead", "(II)I"⟩, 85), (⟨"CollectorHouseModel", "whole", "()I"⟩, 85), (⟨"CollectorHouseModel", "finish", "()I"⟩, 85), (⟨"CollectorHouseModel", "findInRegions", "(I)I"⟩, 85), (⟨"CollectorHouseModel", "findInRegion", "(I)I"⟩, 85), (⟨"CollectorHouseModel", "emptyRegions", "()I"⟩, 85), (⟨"CollectorHouseModel", "leastEmpty", "()I"⟩, 85)]
theorem lw_r7 : ∀ q ∈ lw_privs_7, lw_okq q := List.forall_mem_cons.mpr ⟨lw_p96, List.forall_mem_cons.mpr ⟨lw_p97, List.forall_mem_cons.mpr ⟨lw_p98, List.forall_mem_cons.mpr ⟨lw_p99, List.forall_mem_cons.mpr ⟨lw_p100, List.forall_mem_cons.mpr ⟨lw_p101, List.forall_mem_cons.mpr ⟨lw_p102, List.forall_mem_cons.mpr ⟨lw_p103, List.forall_mem_cons.mpr ⟨lw_p104, List.forall_mem_cons.mpr ⟨lw_p105, List.forall_mem_cons.mpr ⟨lw_p106, List.forall_mem_cons.mpr ⟨lw_p107, List.forall_mem_cons.mpr ⟨lw_p108, List.forall_mem_cons.mpr ⟨lw_p109, List.forall_mem_cons.mpr ⟨lw_p110, List.forall_mem_cons.mpr ⟨lw_p111, fun _ h => absurd h List.not_mem_nil⟩⟩⟩⟩⟩⟩⟩⟩⟩⟩⟩⟩⟩⟩⟩⟩
theorem lw_p112 : lw_okq (⟨"CollectorHouseModel", "cleanRegions", "()I"⟩, 85) := ⟨⟨by decide +kernel, by decide +kernel⟩, List.mem_of_getElem? (i := 1508) (by decide +kernel), List.mem_of_getElem? (i := 2048) (by decide +kernel), List.mem_of_getElem? (i := 2049) (by decide +kernel)⟩
theorem lw_p113 : lw_okq (⟨"CollectorHouseModel", "sparse", "()I"⟩, 85) := ⟨⟨by decide +kernel, by decide +kernel⟩, List.mem_of_getElem? (i := 1508) (by decide +kernel), List.mem_of_getElem? (i := 2052) (by decide +kernel), List.mem_of_getElem? (i := 2053) (by decide +kernel)⟩
theorem lw_p114 : lw_okq (⟨"CollectorHouseModel", "findByForm", "(I)I"⟩, 85) := ⟨⟨by decide +kernel, by decide +kernel⟩, List.mem_of_getElem? (i := 1508) (by decide +kernel), List.mem_of_getElem? (i := 2056) (by decide +kernel), List.mem_of_getElem? (i := 2057) (by decide +kernel)⟩
theorem lw_p115 : lw_okq (⟨"CollectorHouseModel", "setRoot", "(II)V"⟩, 85) := ⟨⟨by decide +kernel, by decide +kernel⟩, List.mem_of_getElem? (i := 1508) (by decide +kernel), List.mem_of_getElem? (i := 2060) (by decide +kernel), List.mem_of_getElem? (i := 2061) (by decide +kernel)⟩
theorem lw_p116 : lw_okq (⟨"CollectorHouseModel", "more", "(I)V"⟩, 85) := ⟨⟨by decide +kernel, by decide +kernel⟩, List.mem_of_getElem? (i := 1508) (by decide +kernel), List.mem_of_getElem? (i := 2064) (by decide +kernel), List.mem_of_getElem? (i := 2065) (by decide +kernel)⟩
theorem lw_p117 : lw_okq (⟨"CollectorHouseModel", "changes", "(II)V"⟩, 85) := ⟨⟨by decide +kernel, by decide +kernel⟩, List.mem_of_getElem? (i := 1508) (by decide +kernel), List.mem_of_getElem? (i := 2068) (by decide +kernel), List.mem_of_getElem? (i := 2069) (by decide +kernel)⟩
theorem lw_p118 : lw_okq (⟨"CollectorHouseModel", "less", "(I)V"⟩, 85) := ⟨⟨by decide +kernel, by decide +kernel⟩, List.mem_of_getElem? (i := 1508) (by decide +kernel), List.mem_of_getElem? (i := 2072) (by decide +kernel), List.mem_of_getElem? (i := 2073) (by decide +kernel)⟩
theorem lw_p119 : lw_okq (⟨"CollectorHouseModel", "fall", "(I)V"⟩, 85) := ⟨⟨by decide +kernel, by decide +kernel⟩, List.mem_of_getElem? (i := 1508) (by decide +kernel), List.mem_of_getElem? (i := 2076) (by decide +kernel), List.mem_of_getElem? (i := 2077) (by decide +kernel)⟩
theorem lw_p120 : lw_okq (⟨"CollectorHouseModel", "reached", "(I)I"⟩, 85) := ⟨⟨by decide +kernel, by decide +kernel⟩, List.mem_of_getElem? (i := 1508) (by decide +kernel), List.mem_of_getElem? (i := 2088) (by decide +kernel), List.mem_of_getElem? (i := 2089) (by decide +kernel)⟩
theorem lw_p121 : lw_okq (⟨"CollectorHouseModel", "placeOf", "(I)I"⟩, 85) := ⟨⟨by decide +kernel, by decide +kernel⟩, List.mem_of_getElem? (i := 1508) (by decide +kernel), List.mem_of_getElem? (i := 2092) (by decide +kernel), List.mem_of_getElem? (i := 2093) (by decide +kernel)⟩
theorem lw_p122 : lw_okq (⟨"CollectorHouseModel", "numberOf", "(I)I"⟩, 85) := ⟨⟨by decide +kernel, by decide +kernel⟩, List.mem_of_getElem? (i := 1508) (by decide +kernel), List.mem_of_getElem? (i := 2100) (by decide +kernel), List.mem_of_getElem? (i := 2101) (by decide +kernel)⟩
theorem lw_p123 : lw_okq (⟨"CollectorHouseModel", "dirtyCards", "()I"⟩, 85) := ⟨⟨by decide +kernel, by decide +kernel⟩, List.mem_of_getElem? (i := 1508) (by decide +kernel), List.mem_of_getElem? (i := 2152) (by decide +kernel), List.mem_of_getElem? (i := 2153) (by decide +kernel)⟩
def lw_privs_8 : List (MethodName × Nat) := [(⟨"CollectorHouseModel", "cleanRegions", "()I"⟩, 85), (⟨"CollectorHouseModel", "sparse", "()I"⟩, 85), (⟨"CollectorHouseModel", "findByForm", "(I)I"⟩, 85), (⟨"CollectorHouseModel", "setRoot", "(II)V"⟩, 85), (⟨"CollectorHouseModel", "more", "(I)V"⟩, 85), (⟨"CollectorHouseModel", "changes", "(II)V"⟩, 85), (⟨"CollectorHouseModel", "less", "(I)V"⟩, 85), (⟨"CollectorHouseModel", "fall", "(I)V"⟩, 85), (⟨"CollectorHouseModel", "reached", "(I)I"⟩, 85), (⟨"CollectorHouseModel", "placeOf", "(I)I"⟩, 85), (⟨"CollectorHouseModel", "numberOf", "(I)I"⟩, 85), (⟨"CollectorHouseModel", "dirtyCards", "()I"⟩, 85)]
theorem lw_r8 : ∀ q ∈ lw_privs_8, lw_okq q := List.forall_mem_cons.mpr ⟨lw_p112, List.forall_mem_cons.mpr ⟨lw_p113, List.forall_mem_cons.mpr ⟨lw_p114, List.forall_mem_cons.mpr ⟨lw_p115, List.forall_mem_cons.mpr ⟨lw_p116, List.forall_mem_cons.mpr ⟨lw_p117, List.forall_mem_cons.mpr ⟨lw_p118, List.forall_mem_cons.mpr ⟨lw_p119, List.forall_mem_cons.mpr ⟨lw_p120, List.forall_mem_cons.mpr ⟨lw_p121, List.forall_mem_cons.mpr ⟨lw_p122, List.forall_mem_cons.mpr ⟨lw_p123, fun _ h => absurd h List.not_mem_nil⟩⟩⟩⟩⟩⟩⟩⟩⟩⟩⟩⟩
def lw_privs : List (MethodName × Nat) := lw_privs_1 ++ (lw_privs_2 ++ (lw_privs_3 ++ (lw_privs_4 ++ (lw_privs_5 ++ (lw_privs_6 ++ (lw_privs_7 ++ (lw_privs_8)))))))
def lw_tbl : List Cond := k2_sels lw_privs ++ tables_1
theorem lw_privs_ok : ∀ q ∈ lw_privs, lw_okq q := by
  show ∀ q ∈ lw_privs_1 ++ (lw_privs_2 ++ (lw_privs_3 ++ (lw_privs_4 ++ (lw_privs_5 ++ (lw_privs_6 ++ (lw_privs_7 ++ (lw_privs_8))))))), lw_okq q
  exact List.forall_mem_append.mpr ⟨lw_r1, List.forall_mem_append.mpr ⟨lw_r2, List.forall_mem_append.mpr ⟨lw_r3, List.forall_mem_append.mpr ⟨lw_r4, List.forall_mem_append.mpr ⟨lw_r5, List.forall_mem_append.mpr ⟨lw_r6, List.forall_mem_append.mpr ⟨lw_r7, lw_r8⟩⟩⟩⟩⟩⟩⟩
end
section
/-! ===== BEGIN words of one list among another's, by their places ===== -/
theorem goodIn_r {big : List Cond} (ws : List Cond) (ps : List Nat) (hp : ws = ps.filterMap (fun i => big[i]?)) (h : ws.all goodWord = true) : GoodIn big ws := by
  intro w hw
  have h1 := List.all_eq_true.mp h w hw
  rw [hp] at hw
  obtain ⟨i, -, hi⟩ := List.mem_filterMap.mp hw
  have hm : w ∈ big := by first | exact List.mem_of_getElem? hi | exact List.getElem?_mem hi
  exact ⟨hm, good_of_word h1⟩
theorem goodIn_app {big a b : List Cond} (ha : GoodIn big a) (hb : GoodIn big b) : GoodIn big (a ++ b) := fun w h => (List.mem_append.mp h).elim (ha w) (hb w)
theorem goodIn_ca {big a b : List Cond} {c : Cond} (ha : GoodIn big (c :: a)) (hb : GoodIn big b) : GoodIn big (c :: (a ++ b)) := fun w h => (List.mem_cons.mp h).elim (fun e => ha w (List.mem_cons.mpr (Or.inl e))) (fun h => (List.mem_append.mp h).elim (fun h => ha w (List.mem_cons.mpr (Or.inr h))) (hb w))
theorem goodIn_sub {big ws : List Cond} (hm : ∀ w ∈ ws, w ∈ big) (h : ws.all goodWord = true) : GoodIn big ws := fun w hw => ⟨hm w hw, good_of_word (List.all_eq_true.mp h w hw)⟩
/-! ===== END ===== -/

/-! ===== BEGIN exceptions that leave a method, and their catching by the caller (launches without stack traces) ===== -/
section VXA
/-- where a method has thrown q: the class by its name, the cell, what was written, the world -/
def vx_T (XC : String → State → State → Prop) (st : State) (q : Addr) (t : State) (mc ms : Nat) (free : Addr → Prop) : Prop :=
  ∃ (E : String) (ce : Cell) (L : List Loc), XC E st t ∧ t.heap[q]? = some ce ∧ ce.vm = .none ∧ st.vm.findClass E = some ce.cls ∧ st.WarmedH t.vm ∧ st.sameButNew ({ t with vm := st.vm } : State) L mc ms ∧ ∀ z ∈ L, free z.base
def vx_Q (Qc : Array Value → State → Outcome → State → Prop) (XC : String → State → State → Prop) (mc ms : Nat) (free : Addr → Prop) : Array Value → State → Outcome → State → Prop := fun a st o t =>
  (Qc a st o t ∧ ∃ L, FrameEnd st o t L mc ms ∧ ∀ q ∈ L, free q.base) ∨ ∃ q, o = .threw q ∧ vx_T XC st q t mc ms free
/-- a callee that returns or throws -/
def vx_Met (l : Launch) (y : MethodName) (ws : List Cond) (rm : Room) (Pc : Array Value → State → Prop) (Qc : Array Value → State → Outcome → State → Prop) (XC : String → State → State → Prop) (mc ms : Nat) (free : Addr → Prop) : Prop :=
  MetFree l y (headSpec ws rm) Pc (fun _ _ _ _ _ => True) (vx_Q Qc XC mc ms free)
def vx_Post (XC : String → State → State → Prop) (mc ms : Nat) (free : Addr → Prop) : Pt → Array Value → Addr → Pt → Prop := fun A a q B =>
  ∃ (g : JFrame) (mk : MethodId) (t : State) (L : List Loc) (E : String) (ce : Cell), B.U.heap = t.heap ∧ B.U.vm = t.vm ∧ XC E (A.U.calling g mk a) t ∧ t.heap[q]? = some ce ∧ ce.vm = .none ∧ A.U.vm.findClass E = some ce.cls ∧ B.locs = A.locs ++ L ∧ (∀ z ∈ L, free z.base) ∧ B.cells = A.cells + mc ∧ B.slots = A.slots + ms
def vx_Back (l : Launch) (R : Room) (p : Program) (e : Env) (below : List Frame) (s : State) (sargs : Array Value) (y : MethodName) (len W9 : Nat)
    (Pre : Pt → Array Value → Prop) (Post : Pt → Array Value → Option Value → Pt → Prop) (PostX : Pt → Array Value → Addr → Pt → Prop) : Prop :=
  ∀ (m : MethodId) (meth : Method) (c : Code) (A : Pt) (g : JFrame) (ig : Instr) (mk : MethodId) (a : Array Value),
    Stand p l e R s m sargs below meth c A.U A.locs A.cells A.slots → g.method = m → g.locals.size = c.maxLocals → decode c.code g.pc = .ok (ig, len) →
    2 * g.monitorRoom + (g.stack.map fun v => v.category).sum ≤ W9 → A.U.methodNamed? y = some mk → Pre A a →
    (∃ (v : Option Value) (B : Pt), Stand p l e R s m sargs below meth c B.U B.locs B.cells B.slots ∧ Post A a v B ∧
      Steps p.tables e below (doInvoke e (A.U.setTop g) [] mk a).1 (B.U.setTop { g with pc := g.pc + len, stack := v.toList ++ g.stack })) ∨
    (∃ (q : Addr) (B : Pt), Stand p l e R s m sargs below meth c B.U B.locs B.cells B.slots ∧ PostX A a q B ∧
      Steps p.tables e below (doInvoke e (A.U.setTop g) [] mk a).1 ((B.U.setTop g).pushFrame (.throwing q)))
section Payer
variable {l : Launch} {R : Room} {p : Program} {e : Env} {below : List Frame} {s : State} {sargs : Array Value} {y : MethodName} {len W9 : Nat}
theorem vx_back {ws : List Cond} {rm : Room} {Pc : Array Value → State → Prop} {Qc : Array Value → State → Outcome → State → Prop} {XC : String → State → State → Prop} {mc ms : Nat} {free : Addr → Prop} {bytes : ByteArray} {maxL : Nat} {ret : Option FieldType}
    (hM : vx_Met l y ws rm Pc Qc XC mc ms free) (hblind : FrameBlind Pc) (hrc : rm.cells = mc) (hrs : rm.slots = ms)
    (hframes : rm.frames + 1 ≤ R.frames) (hlocals : W9 + (maxL + 11) + rm.locals ≤ R.locals)
    (hws : ∀ w ∈ ws, ∀ a' U, s.WarmedH U.vm → w.before a' U = true) (hcode : Cond.code y bytes maxL ret ∈ ws) (hinit : ∀ a' U, s.WarmedH U.vm → (Cond.initialized y.cls).before a' U = true) :
    vx_Back l R p e below s sargs y len W9 (PreOf R mc ms Pc) (PostOf Qc mc ms free) (vx_Post XC mc ms free) := by
  intro m meth c A g ig mk a X hg hsize hdg hW hn hp
  have h1 : (headSpec ws rm).pre.before a A.U = true := atoms_intro fun w hw => hws w hw _ _ X.warmed
  have h2 : (Cond.code y bytes maxL ret).before a A.U = true := hws _ hcode _ _ X.warmed
  have h3 : (Cond.initialized y.cls).before a A.U = true := hinit _ _ X.warmed
  have h4 : A.cells + (headSpec ws rm).room.cells ≤ R.cells := by rw [show (headSpec ws rm).room.cells = mc from hrc]; exact hp.1
  have h5 : A.slots + (headSpec ws rm).room.slots ≤ R.slots := by rw [show (headSpec ws rm).room.slots = ms from hrs]; exact hp.2.1
  have hPc : Pc a (A.U.calling g mk a) := hblind _ _ _ _ hp.2.2
  obtain ⟨U, Ls, c0, s0⟩ := A
  dsimp only [Pt.U, Pt.locs, Pt.cells, Pt.slots] at h1 h2 h3 h4 h5 X hn hPc ⊢
  obtain ⟨methY, cY, hmY, hcY, -, hlY, -, -, -, -⟩ := Cond.code_spec hn h2
  obtain ⟨kY, hkY, -⟩ := className_of_methodNamed hn
  have hinitY : kY.init = .initialized := Cond.initialized_spec (findClass_of_methodNamed hn) hkY h3
  have h : At U g.method c below := by rw [hg]; exact X.here
  have hlocals9 : W9 + (maxL + 11) + (headSpec ws rm).room.locals ≤ R.locals := hlocals
  have happ : (headSpec ws rm).appliesLoose y e.platform (U.calling g mk a) = true :=
    Spec.appliesLoose_calling (g := g) h hdg hn hkY hinitY
      (X.room_calling (g := g) (R' := (headSpec ws rm).room) hsize hmY hcY hframes (by rw [hlY]; omega) h4 h5) h1
  obtain ⟨mid, hmid⟩ := h.above
  have hfr : (U.setTop g).frames = (.java g :: mid) ++ below := by rw [State.frames_setTop' g h.top, hmid]; rfl
  obtain ⟨o, s₂, hsteps, -, hend, hq⟩ := Steps.callFree hM p X.admits X.cas X.clock (acts := []) hfr happ hPc trivial
  have hq' : vx_Q Qc XC mc ms free a (U.calling g mk a) o s₂ := hq
  rw [State.frames_setTop' g h.top] at hend
  obtain ⟨g₀, hg0⟩ := Option.isSome_iff_exists.mp h.top
  obtain ⟨r, hr⟩ := State.topJava?_eq_some.mp hg0
  have hr' : (({ U with heap := s₂.heap, slotsUsed := s₂.slotsUsed } : State).setVm s₂.vm).frames = .java g₀ :: r := hr
  rcases hq' with ⟨hqc, L, hfe, hL⟩ | ⟨q, rfl, E, ce, L, hx, hce, hcv, hcl, hW₂, hsm, hL⟩
  · obtain ⟨⟨v, rfl⟩, hW₂, e2, q2, q3, q4, q5, q6⟩ := id hfe
    have e3 : s₂ = ({ (U.calling g mk a).setFrames s₂.frames with heap := s₂.heap, slotsUsed := s₂.slotsUsed } : State).setVm s₂.vm := by
      have : s₂ = ({ s₂ with vm := (U.calling g mk a).vm } : State).setVm s₂.vm := rfl
      rw [e2] at this
      exact this
    obtain ⟨c₂, i₂, len₂, hc₂, hd₂, hf₂⟩ := hend
    have hW' : U.WarmedH s₂.vm := hW₂
    have hcc : c₂ = c := by
      have h1 : s₂.code? g.method = U.code? g.method := by
        rw [State.code?_eq, State.code?_eq, hW'.alike.method?]
      exact Option.some.inj (hc₂.symm.trans (h1.trans h.code))
    subst hcc
    have hlen : len₂ = len := by rw [hdg] at hd₂; cases hd₂; rfl
    subst hlen
    have hs₂ : s₂ = (({ U with heap := s₂.heap, slotsUsed := s₂.slotsUsed } : State).setVm s₂.vm).setTop { g with pc := g.pc + len₂, stack := v.toList ++ g.stack } := by
      refine e3.trans ?_
      rw [hf₂, State.calling_eq h.top, State.setFrames_setFrames, State.setTop_of_frames _ hr', hr]
      rfl
    have hsame : U.sameButNew ({ U with heap := s₂.heap, slotsUsed := s₂.slotsUsed } : State) L mc ms := by
      refine ⟨?_, q2, q3, q4, q5, q6⟩
      obtain ⟨t, ht, -⟩ := State.frames_cons hr
      show ({ U with heap := s₂.heap, slotsUsed := s₂.slotsUsed } : State) = { U.setFrames U.frames with heap := s₂.heap, slotsUsed := s₂.slotsUsed }
      rw [State.setFrames_self ht]
    subst hg
    refine Or.inl ⟨v, ⟨(({ U with heap := s₂.heap, slotsUsed := s₂.slotsUsed } : State).setVm s₂.vm), Ls ++ L, c0 + mc, s0 + ms⟩,
      ⟨X.admits, X.cas, X.clock, X.frames, X.room, X.hears, X.method, X.code, (X.here.setHeapUsed s₂.heap s₂.slotsUsed).setVm hW'.alike, X.tail, State.WarmedH.trans X.warmed hW', X.limits, X.bytes, X.same.trans (hsame.setVm s.vm)⟩,
      ⟨g, mk, s₂, L, rfl, rfl, hqc, rfl, hL, rfl, rfl⟩, ?_⟩
    show Steps p.tables e below _ ((({ U with heap := s₂.heap, slotsUsed := s₂.slotsUsed } : State).setVm s₂.vm).setTop { g with pc := g.pc + len₂, stack := v.toList ++ g.stack })
    rw [← hs₂]
    exact hsteps
  · obtain ⟨e2, q2, q3, q4, q5, q6⟩ := id hsm
    have e3 : s₂ = ({ (U.calling g mk a).setFrames s₂.frames with heap := s₂.heap, slotsUsed := s₂.slotsUsed } : State).setVm s₂.vm := by
      have : s₂ = ({ s₂ with vm := (U.calling g mk a).vm } : State).setVm s₂.vm := rfl
      rw [e2] at this
      exact this
    have hf₂ : s₂.frames = .throwing q :: .java g :: U.frames.tail := hend
    have hW' : U.WarmedH s₂.vm := hW₂
    have hs₂ : s₂ = ((({ U with heap := s₂.heap, slotsUsed := s₂.slotsUsed } : State).setVm s₂.vm).setTop g).pushFrame (.throwing q) := by
      refine e3.trans ?_
      rw [hf₂, State.calling_eq h.top, State.setFrames_setFrames, State.pushFrame, State.frames_setTop _ hr', State.setTop_of_frames _ hr', State.setFrames_setFrames, hr]
      rfl
    have hsame : U.sameButNew ({ U with heap := s₂.heap, slotsUsed := s₂.slotsUsed } : State) L mc ms := by
      refine ⟨?_, q2, q3, q4, q5, q6⟩
      obtain ⟨t, ht, -⟩ := State.frames_cons hr
      show ({ U with heap := s₂.heap, slotsUsed := s₂.slotsUsed } : State) = { U.setFrames U.frames with heap := s₂.heap, slotsUsed := s₂.slotsUsed }
      rw [State.setFrames_self ht]
    subst hg
    refine Or.inr ⟨q, ⟨(({ U with heap := s₂.heap, slotsUsed := s₂.slotsUsed } : State).setVm s₂.vm), Ls ++ L, c0 + mc, s0 + ms⟩,
      ⟨X.admits, X.cas, X.clock, X.frames, X.room, X.hears, X.method, X.code, (X.here.setHeapUsed s₂.heap s₂.slotsUsed).setVm hW'.alike, X.tail, State.WarmedH.trans X.warmed hW', X.limits, X.bytes, X.same.trans (hsame.setVm s.vm)⟩,
      ⟨g, mk, s₂, L, E, ce, rfl, rfl, hx, hce, hcv, hcl, rfl, hL, rfl, rfl⟩, ?_⟩
    show Steps p.tables e below _ (((({ U with heap := s₂.heap, slotsUsed := s₂.slotsUsed } : State).setVm s₂.vm).setTop g).pushFrame (.throwing q))
    rw [← hs₂]
    exact hsteps
end Payer
section Calls
variable {p : Program} {l : Launch} {e : Env} {R : Room} {s : State} {m : MethodId} {args : Array Value} {below : List Frame} {meth : Method} {c : Code} {T : State} {locs : List Loc} {cells slots : Nat}
theorem vx_callV (X : Stand p l e R s m args below meth c T locs cells slots) (hexec : p.tables.exec = Jvm.exec) {own C : String} {index : Nat} {y : MethodName} {bytes : ByteArray} {maxL : Nat} {ret : Option FieldType}
    (hown : s.vm.findClass own = some m.cls) (hlink : (Cond.methodLink own index y).before args s = true) (hinst : (Cond.instanceMethod y).before args s = true) (hsel : (Cond.selects C y y).before args s = true)
    (hcode : (Cond.code y bytes maxL ret).before args s = true) (hy : y.cls ≠ "java/lang/invoke/MethodHandle" ∧ y.cls ≠ "java/lang/invoke/VarHandle")
    {W9 : Nat} {Pre : Pt → Array Value → Prop} {Post : Pt → Array Value → Option Value → Pt → Prop} {PostX : Pt → Array Value → Addr → Pt → Prop} (hK : vx_Back l R p e below s args y 3 W9 Pre Post PostX)
    {b : Addr} {cellB : Cell} (hcell : T.heap[b]? = some cellB) (hobj : cellB.vm.isStatics = false) (hcls : s.vm.findClass C = some cellB.cls)
    {g : JFrame} (hg : g.method = m) (hsize : g.locals.size = c.maxLocals) {argsL rest : List Value} (hlen : ∀ sig, parseMethodDescriptor y.desc = some sig → argsL.length = sig.parameters.length)
    (hstack : g.stack = argsL.reverse ++ .ref b :: rest) (hW : 2 * g.monitorRoom + (rest.map fun v => v.category).sum ≤ W9) (hdg : decode c.code g.pc = .ok (.invokevirtual index, 3))
    (hpre : ∀ vm₁, s.WarmedH vm₁ → Pre ⟨T.setVm vm₁, locs, cells, slots⟩ (Value.ref b :: argsL).toArray) :
    (∃ (v : Option Value) (vm₁ : Vm) (B : Pt), s.WarmedH vm₁ ∧ Stand p l e R s m args below meth c B.U B.locs B.cells B.slots ∧ Post ⟨T.setVm vm₁, locs, cells, slots⟩ (Value.ref b :: argsL).toArray v B ∧
      ∀ target, Steps p.tables e below (B.U.setTop { g with pc := g.pc + 3, stack := v.toList ++ rest }) target → Steps p.tables e below (T.setTop g) target) ∨
    (∃ (q : Addr) (vm₁ : Vm) (B : Pt), s.WarmedH vm₁ ∧ Stand p l e R s m args below meth c B.U B.locs B.cells B.slots ∧ PostX ⟨T.setVm vm₁, locs, cells, slots⟩ (Value.ref b :: argsL).toArray q B ∧
      Steps p.tables e below (T.setTop g) ((B.U.setTop { g with stack := rest }).pushFrame (.throwing q))) := by
  obtain ⟨mk, methM, hnamed, hmethM, hstM, habM⟩ := Cond.instanceMethod_spec hinst
  obtain ⟨methM', cM, hmethM', -, -, -, -, -, -, hsigM⟩ := Cond.code_spec hnamed hcode
  cases hmethM.symm.trans hmethM'
  obtain ⟨c2, r2, m2, q1, q2, q3, q4, kP, hkP, hkPi⟩ := Cond.selects_spec hsel
  cases hcls.symm.trans q1
  cases (State.methodFound?_of_named hnamed hy).symm.trans q2
  cases hnamed.symm.trans q3
  have hselP : selectMethod e.platform s.vm cellB.cls mk = .method mk := by rw [Launch.admits_selectMethod X.admits]; exact q4
  obtain ⟨vm₁, X₁, hstep₁⟩ := X.invokevirtual hexec hown hlink hnamed hmethM hstM hkP hkPi hy (a := b) (cell := cellB) hcell
    (fun z h => by rw [h] at hobj; cases hobj) hselP hmethM habM hkP hkPi (g := g) hg (argsL := argsL) (rest := rest) (hlen _ hsigM) hstack hdg
  rcases hK m meth c ⟨T.setVm vm₁, locs, cells, slots⟩ { g with stack := rest } (.invokevirtual index) mk (Value.ref b :: argsL).toArray X₁ hg hsize hdg hW (X₁.named hnamed) (hpre vm₁ X₁.warmed) with ⟨v, B, X', hpost, hsteps⟩ | ⟨q, B, X', hpost, hsteps⟩
  · exact Or.inl ⟨v, vm₁, B, X₁.warmed, X', hpost, fun target h => hstep₁ _ fun acts => by rw [doInvoke_state]; exact hsteps.trans h⟩
  · exact Or.inr ⟨q, vm₁, B, X₁.warmed, X', hpost, hstep₁ _ fun acts => by rw [doInvoke_state]; exact hsteps⟩
theorem vx_callS (X : Stand p l e R s m args below meth c T locs cells slots) (hexec : p.tables.exec = Jvm.exec) {own : String} {index : Nat} {y : MethodName} {bytes : ByteArray} {maxL : Nat} {ret : Option FieldType}
    (hown : s.vm.findClass own = some m.cls) (hlink : (Cond.methodLink own index y).before args s = true) (hstat : (Cond.static y).before args s = true) (hinit : (Cond.initialized y.cls).before args s = true)
    (hcode : (Cond.code y bytes maxL ret).before args s = true) (hy : y.cls ≠ "java/lang/invoke/MethodHandle" ∧ y.cls ≠ "java/lang/invoke/VarHandle")
    {W9 : Nat} {Pre : Pt → Array Value → Prop} {Post : Pt → Array Value → Option Value → Pt → Prop} {PostX : Pt → Array Value → Addr → Pt → Prop} (hK : vx_Back l R p e below s args y 3 W9 Pre Post PostX)
    {g : JFrame} (hg : g.method = m) (hsize : g.locals.size = c.maxLocals) {argsL rest : List Value} (hlen : ∀ sig, parseMethodDescriptor y.desc = some sig → argsL.length = sig.parameters.length)
    (hstack : g.stack = argsL.reverse ++ rest) (hW : 2 * g.monitorRoom + (rest.map fun v => v.category).sum ≤ W9) (hdg : decode c.code g.pc = .ok (.invokestatic index, 3))
    (hpre : ∀ vm₁, s.WarmedH vm₁ → Pre ⟨T.setVm vm₁, locs, cells, slots⟩ argsL.toArray) :
    (∃ (v : Option Value) (vm₁ : Vm) (B : Pt), s.WarmedH vm₁ ∧ Stand p l e R s m args below meth c B.U B.locs B.cells B.slots ∧ Post ⟨T.setVm vm₁, locs, cells, slots⟩ argsL.toArray v B ∧
      ∀ target, Steps p.tables e below (B.U.setTop { g with pc := g.pc + 3, stack := v.toList ++ rest }) target → Steps p.tables e below (T.setTop g) target) ∨
    (∃ (q : Addr) (vm₁ : Vm) (B : Pt), s.WarmedH vm₁ ∧ Stand p l e R s m args below meth c B.U B.locs B.cells B.slots ∧ PostX ⟨T.setVm vm₁, locs, cells, slots⟩ argsL.toArray q B ∧
      Steps p.tables e below (T.setTop g) ((B.U.setTop { g with stack := rest }).pushFrame (.throwing q))) := by
  obtain ⟨mk, hnamed⟩ := Cond.code_named hcode
  obtain ⟨methM, cM, hmethM, -, -, -, -, -, -, hsigM⟩ := Cond.code_spec hnamed hcode
  have hstatic : methM.isStatic = true := Cond.static_spec hnamed hmethM hstat
  obtain ⟨kP, hkP, -⟩ := className_of_methodNamed hnamed
  have hinitP : kP.init = .initialized := Cond.initialized_spec (findClass_of_methodNamed hnamed) hkP hinit
  obtain ⟨vm₁, X₁, hstep₁⟩ := X.invokestatic hexec hown hlink hnamed hmethM hstatic hkP hinitP hy (g := g) hg (argsL := argsL) (rest := rest) (hlen _ hsigM) hstack hdg
  rcases hK m meth c ⟨T.setVm vm₁, locs, cells, slots⟩ { g with stack := rest } (.invokestatic index) mk argsL.toArray X₁ hg hsize hdg hW (X₁.named hnamed) (hpre vm₁ X₁.warmed) with ⟨v, B, X', hpost, hsteps⟩ | ⟨q, B, X', hpost, hsteps⟩
  · exact Or.inl ⟨v, vm₁, B, X₁.warmed, X', hpost, fun target h => hstep₁ _ fun acts => by rw [doInvoke_state]; exact hsteps.trans h⟩
  · exact Or.inr ⟨q, vm₁, B, X₁.warmed, X', hpost, hstep₁ _ fun acts => by rw [doInvoke_state]; exact hsteps⟩
end Calls
theorem vx_cls {s : State} {T : State} {vm₁ : Vm} {E : String} {k : ClassId} (hW : s.WarmedH vm₁) (h : (T.setVm vm₁).vm.findClass E = some k) : s.vm.findClass E = some k := by
  have h1 : vm₁.findClass E = some k := h
  rw [hW.alike.findClass] at h1
  exact h1
/-- the method's frame g, with q thrown over it -/
def vx_W (p : Program) (l : Launch) (e : Env) (R : Room) (s : State) (m : MethodId) (args : Array Value) (below : List Frame) (meth : Method) (c : Code) (H : Heap) (locs : List Loc) (cells slots : Nat) (Q : State → Prop) (g : JFrame) (q : Addr) : Prop :=
  ∀ T : State, T.heap = H → Stand p l e R s m args below meth c T locs cells slots → ∃ t, Steps p.tables e below ((T.setTop g).pushFrame (.throwing q)) t ∧ Q t
def vx_Run (p : Program) (l : Launch) (e : Env) (R : Room) (s : State) (m : MethodId) (args : Array Value) (below : List Frame) (meth : Method) (c : Code) (H : Heap) (locs : List Loc) (cells slots mc ms : Nat) (g : JFrame) (rest : List Value) (Qa : State → Outcome → State → Prop) (XC : String → State → State → Prop) (free : Addr → Prop) : Prop :=
  ∀ T : State, T.heap = H → Stand p l e R s m args below meth c T locs cells slots →
    (∃ (v : Option Value) (st₀ t T' : State) (L : List Loc), st₀.heap = H ∧ Stand p l e R s m args below meth c T' (locs ++ L) (cells + mc) (slots + ms) ∧ (∀ q ∈ L, free q.base) ∧ T'.heap = t.heap ∧ T'.vm = t.vm ∧ Qa st₀ (.returned v) t ∧
      Goes p e below T g T' { g with pc := g.pc + 3, stack := v.toList ++ rest }) ∨
    (∃ (q : Addr) (st₀ t T' : State) (L : List Loc) (E : String) (ce : Cell), st₀.heap = H ∧ Stand p l e R s m args below meth c T' (locs ++ L) (cells + mc) (slots + ms) ∧ (∀ z ∈ L, free z.base) ∧ T'.heap = t.heap ∧ T'.vm = t.vm ∧ XC E st₀ t ∧ t.heap[q]? = some ce ∧ ce.vm = .none ∧ s.vm.findClass E = some ce.cls ∧
      Steps p.tables e below (T.setTop g) ((T'.setTop { g with stack := rest }).pushFrame (.throwing q)))
def vx_X {S : Type} (px : S → Prop) (B : String → S → State → Prop) (A : Nat → Prop) : String → State → State → Prop := fun E st t => ∃ u : S, px u ∧ B E u t ∧ va_F A st t
section Runs
variable {p : Program} {l : Launch} {e : Env} {R : Room} {s : State} {m : MethodId} {args : Array Value} {below : List Frame} {meth : Method} {c : Code} {H : Heap} {locs : List Loc} {cells slots : Nat}
variable {y : MethodName} {bytes cc : ByteArray} {maxL nL mc ms n index : Nat} {ret : Option FieldType} {ws : List Cond} {rm : Room} {Pc : Array Value → State → Prop} {Qc : Array Value → State → Outcome → State → Prop} {XC : String → State → State → Prop} {free : Addr → Prop} {Ts : List Cond} {own C : String} {b : Addr} {As rest : List Value} {g : JFrame}
theorem vx_callBack (cb : CallB R s args own index y bytes maxL ret ws rm mc ms n) (hM : vx_Met l y ws rm Pc Qc XC mc ms free) (hbl : FrameBlind Pc) : vx_Back l R p e below s args y 3 8 (PreOf R mc ms Pc) (PostOf Qc mc ms free) (vx_Post XC mc ms free) := by
  obtain ⟨hrc, hrs, hfr, hlo, hws, hcw, -, hini, -⟩ := cb
  exact vx_back (bytes := bytes) (maxL := maxL) (ret := ret) hM hbl hrc hrs hfr hlo hws hcw (fun a' U hW => word_at hW (Or.inl (by first | rfl | simp [Cond.onTables, Cond.keeps, Cond.steady])) hini)
theorem vx_runV (S : CallFix p m c cc nL s args Ts own) (hM : vx_Met l y ws rm Pc Qc XC mc ms free) (cw : CallW R s args own C index y bytes maxL ret ws rm mc ms n) (hp : PreV s H C b Pc As)
    (hg : g.method = m) (hn : As.length = n) (hsize : g.locals.size = nL) (hstack : g.stack = As.reverse ++ .ref b :: rest) (hW : 2 * g.monitorRoom + (rest.map fun v => v.category).sum ≤ 8) (hdg : decode cc g.pc = .ok (.invokevirtual index, 3)) (hf : cells + mc ≤ R.cells ∧ slots + ms ≤ R.slots) :
    vx_Run p l e R s m args below meth c H locs cells slots mc ms g rest (Qc (Value.ref b :: As).toArray) XC free := by
  have hK : vx_Back l R p e below s args y 3 8 (PreOf R mc ms Pc) (PostOf Qc mc ms free) (vx_Post XC mc ms free) := vx_callBack cw.1 hM hp.1
  obtain ⟨⟨-, -, -, -, -, -, hcode, -, hy, hlen, hl⟩, hin, hse⟩ := cw
  obtain ⟨hx, hb, hml, ho, -⟩ := S
  obtain ⟨-, ⟨cellB, hcB, hoB, hclB⟩, hPc⟩ := hp
  intro T hT X
  rcases vx_callV X hx (C := C) (bytes := bytes) (maxL := maxL) (ret := ret) ho hl hin hse hcode hy hK (by rw [hT]; exact hcB) hoB hclB hg (hsize.trans hml.symm) (argsL := As) (rest := rest) (fun sig h => hn.trans (hlen sig h)) hstack hW (by rw [hb]; exact hdg)
    (fun vm₁ hW₁ => ⟨hf.1, hf.2, hPc (T.setVm vm₁) hT hW₁⟩) with ⟨v, vm₁, ⟨U', l2, c2, s2⟩, hW₁, X', ⟨g', mk, t, L, e1, e2, hq, h1, hL, h2, h3⟩, st⟩ | ⟨q, vm₁, ⟨U', l2, c2, s2⟩, hW₁, X', ⟨g', mk, t, L, E, ce, e1, e2, hq, hce, hcv, hcl, h1, hL, h2, h3⟩, st⟩
  · dsimp only [Pt.U, Pt.locs, Pt.cells, Pt.slots] at X' e1 e2 h1 h2 h3 st
    subst h1; subst h2; subst h3
    exact Or.inl ⟨v, (T.setVm vm₁).calling g' mk (Value.ref b :: As).toArray, t, U', L, hT, X', hL, e1, e2, hq, st⟩
  · dsimp only [Pt.U, Pt.locs, Pt.cells, Pt.slots] at X' e1 e2 h1 h2 h3 st hcl
    subst h1; subst h2; subst h3
    exact Or.inr ⟨q, (T.setVm vm₁).calling g' mk (Value.ref b :: As).toArray, t, U', L, E, ce, hT, X', hL, e1, e2, hq, hce, hcv, vx_cls hW₁ hcl, st⟩
theorem vx_runS (S : CallFix p m c cc nL s args Ts own) (hM : vx_Met l y ws rm Pc Qc XC mc ms free) (cw : CallB R s args own index y bytes maxL ret ws rm mc ms n ∧ (Cond.static y).before args s = true) (hp : PreS s H Pc As)
    (hg : g.method = m) (hn : As.length = n) (hsize : g.locals.size = nL) (hstack : g.stack = As.reverse ++ rest) (hW : 2 * g.monitorRoom + (rest.map fun v => v.category).sum ≤ 8) (hdg : decode cc g.pc = .ok (.invokestatic index, 3)) (hf : cells + mc ≤ R.cells ∧ slots + ms ≤ R.slots) :
    vx_Run p l e R s m args below meth c H locs cells slots mc ms g rest (Qc As.toArray) XC free := by
  have hK : vx_Back l R p e below s args y 3 8 (PreOf R mc ms Pc) (PostOf Qc mc ms free) (vx_Post XC mc ms free) := vx_callBack cw.1 hM hp.1
  obtain ⟨⟨-, -, -, -, -, -, hcode, hini, hy, hlen, hl⟩, hstt⟩ := cw
  obtain ⟨hx, hb, hml, ho, -⟩ := S
  intro T hT X
  rcases vx_callS X hx (bytes := bytes) (maxL := maxL) (ret := ret) ho hl hstt hini hcode hy hK hg (hsize.trans hml.symm) (argsL := As) (rest := rest) (fun sig h => hn.trans (hlen sig h)) hstack hW (by rw [hb]; exact hdg)
    (fun vm₁ hW₁ => ⟨hf.1, hf.2, hp.2 (T.setVm vm₁) hT hW₁⟩) with ⟨v, vm₁, ⟨U', l2, c2, s2⟩, hW₁, X', ⟨g', mk, t, L, e1, e2, hq, h1, hL, h2, h3⟩, st⟩ | ⟨q, vm₁, ⟨U', l2, c2, s2⟩, hW₁, X', ⟨g', mk, t, L, E, ce, e1, e2, hq, hce, hcv, hcl, h1, hL, h2, h3⟩, st⟩
  · dsimp only [Pt.U, Pt.locs, Pt.cells, Pt.slots] at X' e1 e2 h1 h2 h3 st
    subst h1; subst h2; subst h3
    exact Or.inl ⟨v, (T.setVm vm₁).calling g' mk As.toArray, t, U', L, hT, X', hL, e1, e2, hq, st⟩
  · dsimp only [Pt.U, Pt.locs, Pt.cells, Pt.slots] at X' e1 e2 h1 h2 h3 st hcl
    subst h1; subst h2; subst h3
    exact Or.inr ⟨q, (T.setVm vm₁).calling g' mk As.toArray, t, U', L, E, ce, hT, X', hL, e1, e2, hq, hce, hcv, vx_cls hW₁ hcl, st⟩
end Runs
section Rows
variable {p : Program} {l : Launch} {e : Env} {R : Room} {s : State} {m : MethodId} {args : Array Value} {below : List Frame} {meth : Method} {c : Code} {H : Heap} {locs : List Loc} {cells slots : Nat} {Q : State → Prop}
variable {mc ms : Nat} {free : Addr → Prop} {A0 A1 : Nat → Prop} {H0 : Heap} {a : Array Value} {pc : Nat} {ls : Array Slot} {st0 rest : List Value}
theorem vx_keep {st₀ t T' : State} {L : List Loc} (h0 : st₀.heap = H) (e1 : T'.heap = t.heap) (hS : va_S A0 H0 H locs) (hA : ∀ q, q < H.size → A1 q → A0 q) (hf : ∀ q, free q → A0 q) (hL : ∀ q ∈ L, free q.base) (hF : va_F A1 st₀ t) :
    H.size ≤ T'.heap.size ∧ (∀ q : Nat, q < H.size → ¬ A1 q → T'.heap[q]? = H[q]?) ∧ va_S A0 H0 T'.heap (locs ++ L) := by
  obtain ⟨hz, hk⟩ := hF
  rw [h0] at hz hk
  exact ⟨by rw [e1]; exact hz, fun q h1 h2 => by rw [e1]; exact hk q h1 h2,
    ⟨Nat.le_trans hS.1 (by rw [e1]; exact hz), fun q h1 h2 => by rw [e1, hk q (Nat.lt_of_lt_of_le h1 hS.1) (fun z => h2 (hA q (Nat.lt_of_lt_of_le h1 hS.1) z))]; exact hS.2.1 q h1 h2, fun q hq => by
      rcases List.mem_append.mp hq with h | h
      · exact hS.2.2 q h
      · exact hf _ (hL q h)⟩⟩
theorem vx_calli {S SX : Type} {post : Int32 → S → Prop} {px : SX → Prop} {B : S → State → Prop} {BX : String → SX → State → Prop} {AX : Nat → Prop} (hr : vx_Run p l e R s m args below meth c H locs cells slots mc ms (F0 m pc ls st0) rest (va_Qi post B A1 a) (vx_X px BX AX) free) (hS : va_S A0 H0 H locs) (hA : ∀ q, q < H.size → A1 q → A0 q) (hf : ∀ q, free q → A0 q) (hAX : ∀ q, q < H.size → AX q → A0 q)
    (kx : ∀ (E : String) (ce : Cell) (q9 : Addr) (u : SX) (t : State) (H1 : Heap) (locs1 : List Loc), t.heap = H1 → s.vm.Alike t.vm → px u → BX E u t → H.size ≤ H1.size → (∀ q : Nat, q < H.size → ¬ AX q → H1[q]? = H[q]?) → va_S A0 H0 H1 locs1 → H1[q9]? = some ce → ce.vm = .none → s.vm.findClass E = some ce.cls → vx_W p l e R s m args below meth c H1 locs1 (cells + mc) (slots + ms) Q (F0 m pc ls rest) q9)
    (kk : ∀ (r : Int32) (u : S) (t : State) (H1 : Heap) (locs1 : List Loc), t.heap = H1 → s.vm.Alike t.vm → post r u → B u t → H.size ≤ H1.size → (∀ q : Nat, q < H.size → ¬ A1 q → H1[q]? = H[q]?) → va_S A0 H0 H1 locs1 → W p l e R s m args below meth c H1 locs1 (cells + mc) (slots + ms) Q (F0 m (pc + 3) ls (.int r :: rest))) : W p l e R s m args below meth c H locs cells slots Q (F0 m pc ls st0) := by
  intro T hT X
  rcases hr T hT X with ⟨v, st₀, t, T', L, h0, X', hL, e1, e2, ⟨⟨r, u, hv, hp, hb⟩, hF⟩, st⟩ | ⟨q, st₀, t, T', L, E, ce, h0, X', hL, e1, e2, ⟨u, hp, hb, hF⟩, hce, hcv, hcl, st⟩
  · cases hv
    obtain ⟨k1, k2, k3⟩ := vx_keep h0 e1 hS hA hf hL hF
    obtain ⟨t2, a1, b1⟩ := kk r u t T'.heap (locs ++ L) e1.symm (by rw [← e2]; exact X'.warmed.alike) hp hb k1 k2 k3 T' rfl X'
    exact ⟨t2, st t2 a1, b1⟩
  · obtain ⟨k1, k2, k3⟩ := vx_keep h0 e1 hS hAX hf hL hF
    obtain ⟨t2, a1, b1⟩ := kx E ce q u t T'.heap (locs ++ L) e1.symm (by rw [← e2]; exact X'.warmed.alike) hp hb k1 k2 k3 (by rw [e1]; exact hce) hcv hcl T' rfl X'
    exact ⟨t2, st.trans a1, b1⟩
theorem vx_calll {S SX : Type} {post : Int64 → S → Prop} {px : SX → Prop} {B : S → State → Prop} {BX : String → SX → State → Prop} {AX : Nat → Prop} (hr : vx_Run p l e R s m args below meth c H locs cells slots mc ms (F0 m pc ls st0) rest (va_Ql post B A1 a) (vx_X px BX AX) free) (hS : va_S A0 H0 H locs) (hA : ∀ q, q < H.size → A1 q → A0 q) (hf : ∀ q, free q → A0 q) (hAX : ∀ q, q < H.size → AX q → A0 q)
    (kx : ∀ (E : String) (ce : Cell) (q9 : Addr) (u : SX) (t : State) (H1 : Heap) (locs1 : List Loc), t.heap = H1 → s.vm.Alike t.vm → px u → BX E u t → H.size ≤ H1.size → (∀ q : Nat, q < H.size → ¬ AX q → H1[q]? = H[q]?) → va_S A0 H0 H1 locs1 → H1[q9]? = some ce → ce.vm = .none → s.vm.findClass E = some ce.cls → vx_W p l e R s m args below meth c H1 locs1 (cells + mc) (slots + ms) Q (F0 m pc ls rest) q9)
    (kk : ∀ (r : Int64) (u : S) (t : State) (H1 : Heap) (locs1 : List Loc), t.heap = H1 → s.vm.Alike t.vm → post r u → B u t → H.size ≤ H1.size → (∀ q : Nat, q < H.size → ¬ A1 q → H1[q]? = H[q]?) → va_S A0 H0 H1 locs1 → W p l e R s m args below meth c H1 locs1 (cells + mc) (slots + ms) Q (F0 m (pc + 3) ls (.long r :: rest))) : W p l e R s m args below meth c H locs cells slots Q (F0 m pc ls st0) := by
  intro T hT X
  rcases hr T hT X with ⟨v, st₀, t, T', L, h0, X', hL, e1, e2, ⟨⟨r, u, hv, hp, hb⟩, hF⟩, st⟩ | ⟨q, st₀, t, T', L, E, ce, h0, X', hL, e1, e2, ⟨u, hp, hb, hF⟩, hce, hcv, hcl, st⟩
  · cases hv
    obtain ⟨k1, k2, k3⟩ := vx_keep h0 e1 hS hA hf hL hF
    obtain ⟨t2, a1, b1⟩ := kk r u t T'.heap (locs ++ L) e1.symm (by rw [← e2]; exact X'.warmed.alike) hp hb k1 k2 k3 T' rfl X'
    exact ⟨t2, st t2 a1, b1⟩
  · obtain ⟨k1, k2, k3⟩ := vx_keep h0 e1 hS hAX hf hL hF
    obtain ⟨t2, a1, b1⟩ := kx E ce q u t T'.heap (locs ++ L) e1.symm (by rw [← e2]; exact X'.warmed.alike) hp hb k1 k2 k3 (by rw [e1]; exact hce) hcv hcl T' rfl X'
    exact ⟨t2, st.trans a1, b1⟩
theorem vx_callf {S SX : Type} {post : UInt32 → S → Prop} {px : SX → Prop} {B : S → State → Prop} {BX : String → SX → State → Prop} {AX : Nat → Prop} (hr : vx_Run p l e R s m args below meth c H locs cells slots mc ms (F0 m pc ls st0) rest (va_Qf post B A1 a) (vx_X px BX AX) free) (hS : va_S A0 H0 H locs) (hA : ∀ q, q < H.size → A1 q → A0 q) (hf : ∀ q, free q → A0 q) (hAX : ∀ q, q < H.size → AX q → A0 q)
    (kx : ∀ (E : String) (ce : Cell) (q9 : Addr) (u : SX) (t : State) (H1 : Heap) (locs1 : List Loc), t.heap = H1 → s.vm.Alike t.vm → px u → BX E u t → H.size ≤ H1.size → (∀ q : Nat, q < H.size → ¬ AX q → H1[q]? = H[q]?) → va_S A0 H0 H1 locs1 → H1[q9]? = some ce → ce.vm = .none → s.vm.findClass E = some ce.cls → vx_W p l e R s m args below meth c H1 locs1 (cells + mc) (slots + ms) Q (F0 m pc ls rest) q9)
    (kk : ∀ (r : UInt32) (u : S) (t : State) (H1 : Heap) (locs1 : List Loc), t.heap = H1 → s.vm.Alike t.vm → post r u → B u t → H.size ≤ H1.size → (∀ q : Nat, q < H.size → ¬ A1 q → H1[q]? = H[q]?) → va_S A0 H0 H1 locs1 → W p l e R s m args below meth c H1 locs1 (cells + mc) (slots + ms) Q (F0 m (pc + 3) ls (.float r :: rest))) : W p l e R s m args below meth c H locs cells slots Q (F0 m pc ls st0) := by
  intro T hT X
  rcases hr T hT X with ⟨v, st₀, t, T', L, h0, X', hL, e1, e2, ⟨⟨r, u, hv, hp, hb⟩, hF⟩, st⟩ | ⟨q, st₀, t, T', L, E, ce, h0, X', hL, e1, e2, ⟨u, hp, hb, hF⟩, hce, hcv, hcl, st⟩
  · cases hv
    obtain ⟨k1, k2, k3⟩ := vx_keep h0 e1 hS hA hf hL hF
    obtain ⟨t2, a1, b1⟩ := kk r u t T'.heap (locs ++ L) e1.symm (by rw [← e2]; exact X'.warmed.alike) hp hb k1 k2 k3 T' rfl X'
    exact ⟨t2, st t2 a1, b1⟩
  · obtain ⟨k1, k2, k3⟩ := vx_keep h0 e1 hS hAX hf hL hF
    obtain ⟨t2, a1, b1⟩ := kx E ce q u t T'.heap (locs ++ L) e1.symm (by rw [← e2]; exact X'.warmed.alike) hp hb k1 k2 k3 (by rw [e1]; exact hce) hcv hcl T' rfl X'
    exact ⟨t2, st.trans a1, b1⟩
theorem vx_calld {S SX : Type} {post : UInt64 → S → Prop} {px : SX → Prop} {B : S → State → Prop} {BX : String → SX → State → Prop} {AX : Nat → Prop} (hr : vx_Run p l e R s m args below meth c H locs cells slots mc ms (F0 m pc ls st0) rest (va_Qd post B A1 a) (vx_X px BX AX) free) (hS : va_S A0 H0 H locs) (hA : ∀ q, q < H.size → A1 q → A0 q) (hf : ∀ q, free q → A0 q) (hAX : ∀ q, q < H.size → AX q → A0 q)
    (kx : ∀ (E : String) (ce : Cell) (q9 : Addr) (u : SX) (t : State) (H1 : Heap) (locs1 : List Loc), t.heap = H1 → s.vm.Alike t.vm → px u → BX E u t → H.size ≤ H1.size → (∀ q : Nat, q < H.size → ¬ AX q → H1[q]? = H[q]?) → va_S A0 H0 H1 locs1 → H1[q9]? = some ce → ce.vm = .none → s.vm.findClass E = some ce.cls → vx_W p l e R s m args below meth c H1 locs1 (cells + mc) (slots + ms) Q (F0 m pc ls rest) q9)
    (kk : ∀ (r : UInt64) (u : S) (t : State) (H1 : Heap) (locs1 : List Loc), t.heap = H1 → s.vm.Alike t.vm → post r u → B u t → H.size ≤ H1.size → (∀ q : Nat, q < H.size → ¬ A1 q → H1[q]? = H[q]?) → va_S A0 H0 H1 locs1 → W p l e R s m args below meth c H1 locs1 (cells + mc) (slots + ms) Q (F0 m (pc + 3) ls (.double r :: rest))) : W p l e R s m args below meth c H locs cells slots Q (F0 m pc ls st0) := by
  intro T hT X
  rcases hr T hT X with ⟨v, st₀, t, T', L, h0, X', hL, e1, e2, ⟨⟨r, u, hv, hp, hb⟩, hF⟩, st⟩ | ⟨q, st₀, t, T', L, E, ce, h0, X', hL, e1, e2, ⟨u, hp, hb, hF⟩, hce, hcv, hcl, st⟩
  · cases hv
    obtain ⟨k1, k2, k3⟩ := vx_keep h0 e1 hS hA hf hL hF
    obtain ⟨t2, a1, b1⟩ := kk r u t T'.heap (locs ++ L) e1.symm (by rw [← e2]; exact X'.warmed.alike) hp hb k1 k2 k3 T' rfl X'
    exact ⟨t2, st t2 a1, b1⟩
  · obtain ⟨k1, k2, k3⟩ := vx_keep h0 e1 hS hAX hf hL hF
    obtain ⟨t2, a1, b1⟩ := kx E ce q u t T'.heap (locs ++ L) e1.symm (by rw [← e2]; exact X'.warmed.alike) hp hb k1 k2 k3 (by rw [e1]; exact hce) hcv hcl T' rfl X'
    exact ⟨t2, st.trans a1, b1⟩
theorem vx_callv {S SX : Type} {post : S → Prop} {px : SX → Prop} {B : S → State → Prop} {BX : String → SX → State → Prop} {AX : Nat → Prop} (hr : vx_Run p l e R s m args below meth c H locs cells slots mc ms (F0 m pc ls st0) rest (va_Qv post B A1 a) (vx_X px BX AX) free) (hS : va_S A0 H0 H locs) (hA : ∀ q, q < H.size → A1 q → A0 q) (hf : ∀ q, free q → A0 q) (hAX : ∀ q, q < H.size → AX q → A0 q)
    (kx : ∀ (E : String) (ce : Cell) (q9 : Addr) (u : SX) (t : State) (H1 : Heap) (locs1 : List Loc), t.heap = H1 → s.vm.Alike t.vm → px u → BX E u t → H.size ≤ H1.size → (∀ q : Nat, q < H.size → ¬ AX q → H1[q]? = H[q]?) → va_S A0 H0 H1 locs1 → H1[q9]? = some ce → ce.vm = .none → s.vm.findClass E = some ce.cls → vx_W p l e R s m args below meth c H1 locs1 (cells + mc) (slots + ms) Q (F0 m pc ls rest) q9)
    (kk : ∀ (u : S) (t : State) (H1 : Heap) (locs1 : List Loc), t.heap = H1 → s.vm.Alike t.vm → post u → B u t → H.size ≤ H1.size → (∀ q : Nat, q < H.size → ¬ A1 q → H1[q]? = H[q]?) → va_S A0 H0 H1 locs1 → W p l e R s m args below meth c H1 locs1 (cells + mc) (slots + ms) Q (F0 m (pc + 3) ls (rest))) : W p l e R s m args below meth c H locs cells slots Q (F0 m pc ls st0) := by
  intro T hT X
  rcases hr T hT X with ⟨v, st₀, t, T', L, h0, X', hL, e1, e2, ⟨⟨u, hv, hp, hb⟩, hF⟩, st⟩ | ⟨q, st₀, t, T', L, E, ce, h0, X', hL, e1, e2, ⟨u, hp, hb, hF⟩, hce, hcv, hcl, st⟩
  · cases hv
    obtain ⟨k1, k2, k3⟩ := vx_keep h0 e1 hS hA hf hL hF
    obtain ⟨t2, a1, b1⟩ := kk u t T'.heap (locs ++ L) e1.symm (by rw [← e2]; exact X'.warmed.alike) hp hb k1 k2 k3 T' rfl X'
    exact ⟨t2, st t2 a1, b1⟩
  · obtain ⟨k1, k2, k3⟩ := vx_keep h0 e1 hS hAX hf hL hF
    obtain ⟨t2, a1, b1⟩ := kx E ce q u t T'.heap (locs ++ L) e1.symm (by rw [← e2]; exact X'.warmed.alike) hp hb k1 k2 k3 (by rw [e1]; exact hce) hcv hcl T' rfl X'
    exact ⟨t2, st.trans a1, b1⟩
end Rows
section Ends
variable {p : Program} {l : Launch} {e : Env} {R : Room} {s : State} {m : MethodId} {args : Array Value} {below : List Frame} {meth : Method} {c : Code} {H : Heap} {locs : List Loc} {cells slots : Nat} {Q : State → Prop}
variable {mc ms : Nat} {free : Addr → Prop} {A0 A1 : Nat → Prop} {H0 : Heap} {a : Array Value} {ls : Array Slot} {st0 rest : List Value}
variable {Qc : Array Value → State → Outcome → State → Prop} {XC : String → State → State → Prop}
/-- what a body that may throw owes at its end -/
def vx_MQ (below : List Frame) (Qc : Array Value → State → Outcome → State → Prop) (XC : String → State → State → Prop) (a : Array Value) (s : State) (mc ms : Nat) (free : Addr → Prop) : State → Prop := fun t =>
  ∃ o, t.status = .running ∧ Ended t below o ∧ vx_Q Qc XC mc ms free a s o t
theorem vx_ret {g : JFrame} {mc ms : Nat} (k : W p l e R s m args below meth c H locs cells slots (MQ below Qc args s mc ms free) g) : W p l e R s m args below meth c H locs cells slots (vx_MQ below Qc XC args s mc ms free) g := by
  intro T hT X
  obtain ⟨t, a1, o, b1, b2, b3, b4⟩ := k T hT X
  exact ⟨t, a1, o, b1, b2, Or.inl ⟨b3, b4⟩⟩
/-- not caught here: it goes on to the caller -/
theorem vx_widen {g : JFrame} {q : Addr} {k n : Nat} (h1 : cells ≤ k) (h2 : slots ≤ n) (kk : vx_W p l e R s m args below meth c H locs k n Q g q) : vx_W p l e R s m args below meth c H locs cells slots Q g q := fun T hT X => kk T hT (stand_widen X h1 h2)
theorem vx_out {pc : Nat} {E : String} {ce : Cell} {q : Addr} {mc ms : Nat} (hout : ∀ x ∈ c.exceptionTable.toList, covers x pc = false) (hlocks : meth.locks = false) (hcell : H[q]? = some ce) (hv : ce.vm = .none) (hcl : s.vm.findClass E = some ce.cls)
    (hx : ∀ t : State, t.heap = H → s.vm.Alike t.vm → XC E s t) (hf : ∀ z ∈ locs, free z.base) (hc : cells ≤ mc) (hs : slots ≤ ms) :
    vx_W p l e R s m args below meth c H locs cells slots (vx_MQ below Qc XC args s mc ms free) (F0 m pc ls rest) q := by
  intro T hT X
  obtain ⟨st1, hrun, hend, hW, hsm⟩ := X.leaveThrown q (g := F0 m pc ls rest) rfl rfl rfl hout hlocks
  have hcell9 : (T.setFrames (.throwing q :: below)).heap[q]? = some ce := by
    show T.heap[q]? = some ce
    rw [hT]; exact hcell
  exact ⟨_, st1, .threw q, hrun, hend, Or.inr ⟨q, rfl, E, ce, locs, hx _ hT hW.alike, hcell9, hv, hcl, hW, hsm.mono hc hs, hf⟩⟩
theorem vx_frame {U : State} {k n : Nat} (h : s.sameButNew ({ U with vm := s.vm } : State) locs k n) : s.heap.size ≤ U.heap.size ∧ ∀ q : Nat, q < s.heap.size → (∀ z ∈ locs, z.base ≠ q) → U.heap[q]? = s.heap[q]? := by
  obtain ⟨-, h2, -, -, -, h6⟩ := h
  refine ⟨h2, fun q hq hz => ?_⟩
  obtain ⟨c9, e1, e2, e3, e4⟩ := h6 q _ (Array.getElem?_eq_getElem hq)
  have hs : c9.slots = (s.heap[q]).slots := Array.ext_getElem? fun i => e4 i fun hm => hz _ hm rfl
  have h9 : c9 = s.heap[q] := by
    rw [hs] at e2
    exact e2
  have e5 : U.heap[q]? = some c9 := e1
  rw [e5, h9, Array.getElem?_eq_getElem hq]
/-- the words of a throw but the four that speak of the heap -/
def vx_no (w : Cond) : Bool := decide (w ≠ .isRef (.static Bundle.tN "UNASSIGNED_STACK" Bundle.steD)) && decide (w ≠ .isRef (.static Bundle.tN "SUPPRESSED_SENTINEL" Bundle.listD)) && decide (w ≠ .laysStatic Bundle.tN "UNASSIGNED_STACK" Bundle.steD) && decide (w ≠ .laysStatic Bundle.tN "SUPPRESSED_SENTINEL" Bundle.listD)
def vx_at0 (own : String) (ic : Nat) (X : String) (names : List String) : List Cond := (Bundle.ownAtoms0 own ic X names).filter vx_no
def vx_atS (own : String) (ic : Nat) (X : String) (names : List String) : List Cond := (Bundle.ownAtoms own ic X names).filter vx_no
/-- a word that the tables alone decide, or a good one -/
def vx_ot (w : Cond) : Bool := w.onTables || goodWord w
theorem vx_ot_at {args a' : Array Value} {s U : State} {w : Cond} (hW : s.WarmedH U.vm) (hvm : s.vm = U.vm) (hg : vx_ot w = true) (h : w.before args s = true) : w.before a' U = true := by
  simp only [vx_ot, Bool.or_eq_true] at hg
  rcases hg with hg | hg
  · exact va_tabs hg hvm h
  · exact word_at hW (good_of_word hg) h
/-- a list's words: the good ones out of the method's own list, the others by premises of their own -/
theorem vx_hat {args : Array Value} {s : State} {L B : List Cond} (h1 : ∀ w ∈ L.filter goodWord, w.before args s = true) (h2 : ∀ w ∈ L.filter (fun w => !goodWord w), w ∈ B) (h3 : ∀ w ∈ B, w.before args s = true) : ∀ w ∈ L, w.before args s = true := by
  intro w hw
  by_cases g : goodWord w = true
  · exact h1 w (List.mem_filter.mpr ⟨hw, g⟩)
  · refine h3 w (h2 w (List.mem_filter.mpr ⟨hw, ?_⟩))
    show (!goodWord w) = true
    cases hgw : goodWord w
    · rfl
    · exact absurd hgw g
theorem vx_c {args : Array Value} {s : State} {w : Cond} {B : List Cond} (h : w.before args s = true) (t : ∀ w ∈ B, w.before args s = true) : ∀ w' ∈ w :: B, w'.before args s = true := fun w' h' => (List.mem_cons.mp h').elim (fun e => by rw [e]; exact h) (t w')
theorem vx_n {args : Array Value} {s : State} : ∀ w ∈ ([] : List Cond), w.before args s = true := fun _ h => nomatch h
theorem vx_own {args : Array Value} {s : State} {L : List Cond} (h1 : ∀ w ∈ L.filter vx_no, w.before args s = true)
    (hU : (Cond.isRef (.static Bundle.tN "UNASSIGNED_STACK" Bundle.steD)).before args s = true) (hN : (Cond.isRef (.static Bundle.tN "SUPPRESSED_SENTINEL" Bundle.listD)).before args s = true)
    (lU : (Cond.laysStatic Bundle.tN "UNASSIGNED_STACK" Bundle.steD).before args s = true) (lN : (Cond.laysStatic Bundle.tN "SUPPRESSED_SENTINEL" Bundle.listD).before args s = true) : ∀ w ∈ L, w.before args s = true := by
  intro w hw
  by_cases e1 : w = .isRef (.static Bundle.tN "UNASSIGNED_STACK" Bundle.steD)
  · rw [e1]; exact hU
  · by_cases e2 : w = .isRef (.static Bundle.tN "SUPPRESSED_SENTINEL" Bundle.listD)
    · rw [e2]; exact hN
    · by_cases e3 : w = .laysStatic Bundle.tN "UNASSIGNED_STACK" Bundle.steD
      · rw [e3]; exact lU
      · by_cases e4 : w = .laysStatic Bundle.tN "SUPPRESSED_SENTINEL" Bundle.listD
        · rw [e4]; exact lN
        · exact h1 w (List.mem_filter.mpr ⟨hw, by unfold vx_no; rw [decide_eq_true e1, decide_eq_true e2, decide_eq_true e3, decide_eq_true e4]; rfl⟩)
/-- where a static field lies, its class's statics cell in H -/
def vx_L (C n d : String) (A : Nat → Prop) (U : State) (H : Heap) : Prop := ∃ (c : ClassId) (k : Class) (i : Nat) (f : Field) (a : Nat) (cell : Cell), U.vm.findClass C = some c ∧ U.fieldFound? C n d = some (c, k, i, f) ∧ f.isStatic = true ∧ k.statics = some a ∧ H[a]? = some cell ∧ cell.vm.isStatics = true ∧ cell.cls = c ∧ f.slot < cell.slots.size ∧ k.staticTypes[f.slot]? = some f.type ∧ ¬ A a
theorem vx_L.moved {C n d : String} {A : Nat → Prop} {u U : State} {H : Heap} (hvm : u.vm.Alike U.vm) (h : vx_L C n d A u H) : vx_L C n d A U H := by
  obtain ⟨c, k, i, f, a, cell, h1, h2, h3, h4, h5, h6, h7, h8, h9, h10⟩ := h
  obtain ⟨k', hi', he⟩ := State.fieldFound?_setVm hvm h2
  exact ⟨c, k', i, f, a, cell, by rw [hvm.findClass]; exact h1, hi', h3, by rw [he]; exact h4, h5, h6, h7, h8, by rw [he]; exact h9, h10⟩
theorem vx_L.kept {C n d : String} {A : Nat → Prop} {U : State} {H H1 : Heap} (h : vx_L C n d A U H) (hq : ∀ a : Nat, a < H.size → ¬ A a → H1[a]? = H[a]?) : vx_L C n d A U H1 := by
  obtain ⟨c, k, i, f, a, cell, h1, h2, h3, h4, h5, h6, h7, h8, h9, h10⟩ := h
  exact ⟨c, k, i, f, a, cell, h1, h2, h3, h4, by rw [hq a (Array.getElem?_eq_some_iff.mp h5).1 h10]; exact h5, h6, h7, h8, h9, h10⟩
theorem vx_L.narrow {C n d : String} {A B : Nat → Prop} {U : State} {H : Heap} (h : vx_L C n d A U H) (hAB : ∀ q, B q → A q) : vx_L C n d B U H := by
  obtain ⟨c, k, i, f, a, cell, h1, h2, h3, h4, h5, h6, h7, h8, h9, h10⟩ := h
  exact ⟨c, k, i, f, a, cell, h1, h2, h3, h4, h5, h6, h7, h8, h9, fun z => h10 (hAB _ z)⟩
theorem vx_L.word {C n d : String} {A : Nat → Prop} {s : State} {args : Array Value} (h : vx_L C n d A s s.heap) : (Cond.laysStatic C n d).before args s = true := by
  obtain ⟨c, k, i, f, a, cell, h1, h2, h3, h4, h5, h6, h7, h8, h9, -⟩ := h
  show (Cond.laysStatic C n d).holds args s none s [] = true
  exact Cond.laysStatic_of h1 h2 h3 h4 h5 h6 h7 h8 h9
/-- .. and what it holds: null or some reference -/
def vx_Zq (C n d : String) (A : Nat → Prop) (U : State) (H : Heap) : Prop := va_Zq C n d A U H ∧ vx_L C n d A U H
theorem vx_Zq.moved {C n d : String} {A : Nat → Prop} {u U : State} {H : Heap} (hvm : u.vm.Alike U.vm) (h : vx_Zq C n d A u H) : vx_Zq C n d A U H := ⟨va_Zq.moved hvm h.1, vx_L.moved hvm h.2⟩
theorem vx_Zq.kept {C n d : String} {A : Nat → Prop} {U : State} {H H1 : Heap} (h : vx_Zq C n d A U H) (hq : ∀ a : Nat, a < H.size → ¬ A a → H1[a]? = H[a]?) : vx_Zq C n d A U H1 := ⟨va_Zq.kept h.1 hq, vx_L.kept h.2 hq⟩
theorem vx_Zq.narrow {C n d : String} {A B : Nat → Prop} {U : State} {H : Heap} (h : vx_Zq C n d A U H) (hAB : ∀ q, B q → A q) : vx_Zq C n d B U H := ⟨va_Zq.narrow h.1 hAB, vx_L.narrow h.2 hAB⟩
theorem vx_Zqof {args : Array Value} {s : State} {C n d : String} {A : Nat → Prop} (hl : (Cond.laysStatic C n d).before args s = true) (hini : (Cond.initialized C).before args s = true) (h : (Cond.isRef (.static C n d)).before args s = true) (hA : ∀ a : Nat, a < s.heap.size → ¬ A a) : vx_Zq C n d A s s.heap := by
  refine ⟨va_Zqof hl hini h hA, ?_⟩
  obtain ⟨c, k, i, f, a, cell, h1, h2, h3, h4, h5, h6, h7, h8, h9⟩ := Cond.laysStatic_spec hl
  exact ⟨c, k, i, f, a, cell, h1, h2, h3, h4, h5, h6, h7, h8, h9, hA a (Array.getElem?_eq_some_iff.mp h5).1⟩
theorem vx_isRef {C n d : String} {v : Value} {A : Nat → Prop} {s : State} {args : Array Value} (h : va_Z C n d v A s s.heap) (hv : v.isRef = true) : (Cond.isRef (.static C n d)).before args s = true := by
  obtain ⟨cf, kf, fi, f, a, cell, h1, h2, h3, h4, h5, h6, h7, -⟩ := h
  have he : (Term.static C n d).eval args s none [] s = some v := by
    simp [Term.eval, State.fieldNamed?, h1, h2, h4, h5, h6, h7]
  simp only [Cond.before, Cond.holds, Cond.value, he]
  cases v <;> simp_all [Value.isRef]
theorem vx_isRefq {C n d : String} {A : Nat → Prop} {s : State} {args : Array Value} (h : va_Zq C n d A s s.heap) : (Cond.isRef (.static C n d)).before args s = true := by
  rcases h with h | ⟨t, h⟩
  · exact vx_isRef h rfl
  · exact vx_isRef h rfl
/-- the same frame, seen from here: as if the method were called anew in this heap -/
theorem vx_rebase {T : State} (X : Stand p l e R s m args below meth c T locs cells slots) {R' : Room} (hf : R'.frames ≤ R.frames) (hl : R'.locals ≤ R.locals) (hc : cells + R'.cells ≤ R.cells) (hs : slots + R'.slots ≤ R.slots) :
    Stand p l e R' ((T.setVm s.vm).setFrames (.invoking m args :: below)) m args below meth c T [] 0 0 := by
  have htop : (T.setVm s.vm).topJava?.isSome := X.here.top
  have hF : ((T.setVm s.vm).setFrames (.invoking m args :: below)).frames = .invoking m args :: below := State.frames_setFrames _ (State.cur_lt_of_top htop)
  obtain ⟨g₀, hg0⟩ := Option.isSome_iff_exists.mp htop
  obtain ⟨r, hr⟩ := State.topJava?_eq_some.mp hg0
  have hl9 : e.platform.stackLimits (T.setVm s.vm).me = e.platform.stackLimits s.me := X.limits
  have hb9 : (T.setVm s.vm).me.stackBytes = s.me.stackBytes := X.bytes
  refine ⟨X.admits, X.cas, X.clock, hF, ?_, X.hears, X.method, X.code, X.here, X.tail, X.warmed, ?_, ?_, ?_⟩
  · have h := X.room
    have hU : ((T.setVm s.vm).setFrames (.invoking m args :: below)).localsInUse = s.localsInUse := by
      rw [State.localsInUse_invoking hF (meth := meth) (c := c) X.method X.code, State.localsInUse_invoking X.frames X.method X.code]
    simp only [State.hasRoom, Bool.and_eq_true, decide_eq_true_eq] at h ⊢
    obtain ⟨⟨⟨⟨h1, h2, h3, h4, h5, h6⟩, h7⟩, h8⟩, h9⟩ := h
    rw [X.frames, List.length_cons] at h2 h3
    have q1 := X.heapSize
    have q2 := X.used
    simp only [hF, hU, List.length_cons, State.stackLimits_setFrames, State.stackBytes_setFrames, hl9, hb9]
    refine ⟨⟨⟨⟨by omega, by omega, by omega, by omega, by omega, h6⟩, ?_⟩, ?_⟩, X.book⟩
    · show T.heap.size + R'.cells ≤ e.platform.maxCells
      omega
    · show T.slotsUsed + R'.slots ≤ e.platform.maxSlots
      omega
  · rw [State.stackLimits_setFrames]; rfl
  · rw [State.stackBytes_setFrames]; rfl
  · refine ⟨?_, Nat.le_refl _, Nat.le_refl _, ?_, ?_, fun a c9 h9 => ⟨c9, h9, rfl, rfl, fun _ _ => rfl⟩⟩
    · obtain ⟨t, ht, -⟩ := State.frames_cons hr
      show T.setVm s.vm = { ((T.setVm s.vm).setFrames (.invoking m args :: below)).setFrames (T.setVm s.vm).frames with heap := T.heap, slotsUsed := T.slotsUsed }
      rw [State.setFrames_setFrames, State.setFrames_self ht]
      rfl
    · show T.slotsUsed = T.slotsUsed + ((T.heap.toList.drop T.heap.size).map (·.slots.size)).sum
      rw [List.drop_eq_nil_of_le (Nat.le_of_eq Array.length_toList)]
      rfl
    · show ((T.heap.toList.drop T.heap.size).map (·.slots.size)).sum ≤ 0
      rw [List.drop_eq_nil_of_le (Nat.le_of_eq Array.length_toList)]
      exact Nat.le_refl _
/-- 'throw new E()': new; dup; invokespecial; athrow -/
theorem vx_throw0 {cc : ByteArray} {pc : Nat} (hexec : p.tables.exec = Jvm.exec) (hb : c.code = cc) (hl : l.stackTraces = false) {own cls : String} {names : List String} {ik ic mc ms : Nat} {A : Nat → Prop}
    (hown : s.vm.findClass own = some m.cls) (hcls : Bundle.fit cls = true) (hnames : ∀ n ∈ names, Bundle.fit n = true)
    (hk : (Cond.classLink own ik cls).before args s = true) (hini : (Cond.initialized cls).before args s = true) (hat : ∀ w ∈ vx_at0 own ic cls names, w.before args s = true)
    (hgood : ∀ w ∈ Cond.classLink own ik cls :: Cond.initialized cls :: vx_at0 own ic cls names, vx_ot w = true)
    (hU : vx_Zq Bundle.tN "UNASSIGNED_STACK" Bundle.steD A s s.heap) (hN : vx_Zq Bundle.tN "SUPPRESSED_SENTINEL" Bundle.listD A s s.heap) (hS : va_S A s.heap H locs) (hsize : ls.size = c.maxLocals)
    (d0 : decode cc pc = .ok (.new ik, 3)) (d3 : decode cc (pc + 3) = .ok (.dup, 1)) (d4 : decode cc (pc + 4) = .ok (.invokespecial ic, 3)) (d7 : decode cc (pc + 7) = .ok (.athrow, 1))
    (hout : ∀ x ∈ c.exceptionTable.toList, covers x (pc + 7) = false)
    (hRframes : names.length + 3 < R.frames) (hRlocals : (rest.map fun v => v.category).sum + (13 * (names.length + 1) + 42) ≤ R.locals) (hRcells : cells + 1 ≤ R.cells) (hRslots : slots + 6 ≤ R.slots) (hlocks : meth.locks = false)
    (hx : ∀ t : State, s.vm.Alike t.vm → H.size ≤ t.heap.size → (∀ q : Nat, q < H.size → t.heap[q]? = H[q]?) → XC cls s t)
    (hf : ∀ z ∈ locs, free z.base) (hc : cells + 1 ≤ mc) (hs : slots + 6 ≤ ms) :
    W p l e R s m args below meth c H locs cells slots (vx_MQ below Qc XC args s mc ms free) (F0 m pc ls rest) := by
  intro T hT X
  have htr : e.platform.stackTraces = false := (show e.platform.stackTraces = l.stackTraces by rw [X.admits.platform]).trans hl
  have Y := vx_rebase X (R' := { frames := R.frames, locals := R.locals, cells := 1, slots := 6 }) (Nat.le_refl _) (Nat.le_refl _) hRcells hRslots
  obtain ⟨s', hA⟩ : ∃ z, z = (T.setVm s.vm).setFrames (.invoking m args :: below) := ⟨_, rfl⟩
  rw [← hA] at Y
  have hvm : s'.vm = s.vm := by rw [hA]; rfl
  have hhp : s'.heap = H := by rw [hA]; exact hT
  have hW0 : s.WarmedH s'.vm := by rw [hvm]; exact State.WarmedH.refl s
  have hat' : ∀ w ∈ vx_at0 own ic cls names, w.before args s' = true := fun w hw => vx_ot_at hW0 hvm.symm (hgood w (List.mem_cons_of_mem _ (List.mem_cons_of_mem _ hw))) (hat w hw)
  have hk' : (Cond.classLink own ik cls).before args s' = true := vx_ot_at hW0 hvm.symm (hgood _ List.mem_cons_self) hk
  have hini' : (Cond.initialized cls).before args s' = true := vx_ot_at hW0 hvm.symm (hgood _ (List.mem_cons_of_mem _ List.mem_cons_self)) hini
  have hU' : vx_Zq Bundle.tN "UNASSIGNED_STACK" Bundle.steD A s' s'.heap := by rw [hhp]; exact vx_Zq.moved hW0.alike (hU.kept hS.2.1)
  have hN' : vx_Zq Bundle.tN "SUPPRESSED_SENTINEL" Bundle.listD A s' s'.heap := by rw [hhp]; exact vx_Zq.moved hW0.alike (hN.kept hS.2.1)
  have h : ∀ w ∈ Bundle.ownAtoms0 own ic cls names, w.before args s' = true := vx_own hat' (vx_isRefq hU'.1) (vx_isRefq hN'.1) hU'.2.word hN'.2.word
  have hown' : s'.vm.findClass own = some m.cls := by rw [hvm]; exact hown
  have hins : (Cond.instantiable cls 6).before args s' = true := h _ (by simp [Bundle.ownAtoms0])
  obtain ⟨vm₁, cX, kX, hfX, hkX, -, -, X₁, st1⟩ := Y.newCold hexec (own := own) (C := cls) (index := ik) (n := 6) hown' hk' hins hini'
    (g := F0 m pc ls rest) rfl (by rw [hb]; exact d0) (Nat.le_refl _) (Nat.le_refl _)
  generalize hT1 : (T.setVm vm₁).pushCell { cls := cX, slots := kX.instanceTypes.map defaultValue, vm := .none } = T1 at X₁ st1
  have hcat : (Value.ref T.heap.size).category = 1 := rfl
  have hcellA : T1.heap[T.heap.size]? = some (freshCell cX kX) := by rw [← hT1]; exact State.heap_pushCell_size _ _
  have d3' : decode c.code (pc + 3) = .ok (.dup, 1) := by rw [hb]; exact d3
  obtain ⟨U, hsteps, hrun, hend, hW, hsame, ce, hce, hO⟩ := X₁.ctorThrow0 hexec htr (own := own) (cls := cls) (names := names) (ic := ic) hown' hcls hnames h (fun x hx => nomatch hx) hfX hkX hcellA (by rw [hhp, hT]; exact Nat.le_refl _)
    (g := { method := m, pc := pc + 4, locals := ls, stack := .ref T.heap.size :: .ref T.heap.size :: rest, locked := none }) rfl hsize rfl rfl (rest := rest) rfl
    (by rw [hb]; exact d4) (by rw [hb]; exact d7) hout hRframes (by simp only [List.map_cons, List.sum_cons, hcat]; omega) hlocks
  obtain ⟨f1, f2⟩ := vx_frame hsame
  rw [hhp] at f1 f2
  have hWs : s.WarmedH U.vm := State.WarmedH.trans hW0 hW
  have hcl : s.vm.findClass cls = some ce.cls := by
    have h9 := hO.cls
    rw [hvm] at h9
    exact h9
  have hall : s.sameButNew ({ U with vm := s.vm } : State) locs mc ms := by
    subst hA
    obtain ⟨e1, e2⟩ := hsame
    rw [State.setFrames_setFrames] at e1
    have h2 : (T.setVm s.vm).sameButNew ({ U with vm := s.vm } : State) [] (0 + 1) (0 + 6) := ⟨e1, e2⟩
    have h3 := X.same.trans h2
    rw [List.append_nil] at h3
    exact h3.mono hc hs
  refine ⟨U, ?_, .threw T.heap.size, hrun, hend, Or.inr ⟨T.heap.size, rfl, cls, ce, locs, hx U hWs.alike f1 (fun q hq => f2 q hq (fun z hz => nomatch hz)), hce, hO.vm, hcl, hWs, hall, hf⟩⟩
  refine st1 _ ?_
  show Steps p.tables e below (T1.setTop { method := m, pc := pc + 3, locals := ls, stack := .ref T.heap.size :: rest, locked := none }) _
  jvm_step X₁.here [X₁.here.top, hexec, d3', Value.category]
  exact hsteps
/-- 'throw new E("text")': new; dup; ldc; invokespecial; athrow -/
theorem vx_throwS {cc : ByteArray} {pc : Nat} (hexec : p.tables.exec = Jvm.exec) (hb : c.code = cc) (hl : l.stackTraces = false) {own cls text : String} {names : List String} {ik is ic mc ms sa : Nat} {A : Nat → Prop}
    (hown : s.vm.findClass own = some m.cls) (hcls : Bundle.fit cls = true) (hnames : ∀ n ∈ names, Bundle.fit n = true)
    (hk : (Cond.classLink own ik cls).before args s = true) (hini : (Cond.initialized cls).before args s = true) (hstr : vk_R own is text sa s) (hat : ∀ w ∈ vx_atS own ic cls names, w.before args s = true)
    (hgood : ∀ w ∈ Cond.classLink own ik cls :: Cond.initialized cls :: vx_atS own ic cls names, vx_ot w = true)
    (hU : vx_Zq Bundle.tN "UNASSIGNED_STACK" Bundle.steD A s s.heap) (hN : vx_Zq Bundle.tN "SUPPRESSED_SENTINEL" Bundle.listD A s s.heap) (hS : va_S A s.heap H locs) (hsize : ls.size = c.maxLocals)
    (d0 : decode cc pc = .ok (.new ik, 3)) (d3 : decode cc (pc + 3) = .ok (.dup, 1)) (d4 : decode cc (pc + 4) = .ok (.ldc is, 2)) (d6 : decode cc (pc + 6) = .ok (.invokespecial ic, 3)) (d9 : decode cc (pc + 9) = .ok (.athrow, 1))
    (hout : ∀ x ∈ c.exceptionTable.toList, covers x (pc + 9) = false)
    (hRframes : names.length + 3 < R.frames) (hRlocals : (rest.map fun v => v.category).sum + (13 * (names.length + 1) + 43) ≤ R.locals) (hRcells : cells + 1 ≤ R.cells) (hRslots : slots + 6 ≤ R.slots) (hlocks : meth.locks = false)
    (hx : ∀ t : State, s.vm.Alike t.vm → H.size ≤ t.heap.size → (∀ q : Nat, q < H.size → t.heap[q]? = H[q]?) → XC cls s t)
    (hf : ∀ z ∈ locs, free z.base) (hc : cells + 1 ≤ mc) (hs : slots + 6 ≤ ms) :
    W p l e R s m args below meth c H locs cells slots (vx_MQ below Qc XC args s mc ms free) (F0 m pc ls rest) := by
  intro T hT X
  have htr : e.platform.stackTraces = false := (show e.platform.stackTraces = l.stackTraces by rw [X.admits.platform]).trans hl
  have Y := vx_rebase X (R' := { frames := R.frames, locals := R.locals, cells := 1, slots := 6 }) (Nat.le_refl _) (Nat.le_refl _) hRcells hRslots
  obtain ⟨s', hA⟩ : ∃ z, z = (T.setVm s.vm).setFrames (.invoking m args :: below) := ⟨_, rfl⟩
  rw [← hA] at Y
  have hvm : s'.vm = s.vm := by rw [hA]; rfl
  have hhp : s'.heap = H := by rw [hA]; exact hT
  have hW0 : s.WarmedH s'.vm := by rw [hvm]; exact State.WarmedH.refl s
  have hat' : ∀ w ∈ vx_atS own ic cls names, w.before args s' = true := fun w hw => vx_ot_at hW0 hvm.symm (hgood w (List.mem_cons_of_mem _ (List.mem_cons_of_mem _ hw))) (hat w hw)
  have hk' : (Cond.classLink own ik cls).before args s' = true := vx_ot_at hW0 hvm.symm (hgood _ List.mem_cons_self) hk
  have hini' : (Cond.initialized cls).before args s' = true := vx_ot_at hW0 hvm.symm (hgood _ (List.mem_cons_of_mem _ List.mem_cons_self)) hini
  have hU' : vx_Zq Bundle.tN "UNASSIGNED_STACK" Bundle.steD A s' s'.heap := by rw [hhp]; exact vx_Zq.moved hW0.alike (hU.kept hS.2.1)
  have hN' : vx_Zq Bundle.tN "SUPPRESSED_SENTINEL" Bundle.listD A s' s'.heap := by rw [hhp]; exact vx_Zq.moved hW0.alike (hN.kept hS.2.1)
  have h : ∀ w ∈ Bundle.ownAtoms own ic cls names, w.before args s' = true := vx_own hat' (vx_isRefq hU'.1) (vx_isRefq hN'.1) hU'.2.word hN'.2.word
  have hown' : s'.vm.findClass own = some m.cls := by rw [hvm]; exact hown
  have hins : (Cond.instantiable cls 6).before args s' = true := h _ (by simp [Bundle.ownAtoms])
  obtain ⟨vm₁, cX, kX, hfX, hkX, -, -, X₁, st1⟩ := Y.newCold hexec (own := own) (C := cls) (index := ik) (n := 6) hown' hk' hins hini'
    (g := F0 m pc ls rest) rfl (by rw [hb]; exact d0) (Nat.le_refl _) (Nat.le_refl _)
  generalize hT1 : (T.setVm vm₁).pushCell { cls := cX, slots := kX.instanceTypes.map defaultValue, vm := .none } = T1 at X₁ st1
  have hcat : (Value.ref T.heap.size).category = 1 := rfl
  have hcellA : T1.heap[T.heap.size]? = some (freshCell cX kX) := by rw [← hT1]; exact State.heap_pushCell_size _ _
  have d3' : decode c.code (pc + 3) = .ok (.dup, 1) := by rw [hb]; exact d3
  have d4' : decode c.code (pc + 4) = .ok (.ldc is, 2) := by rw [hb]; exact d4
  have hstr' : vk_R own is text sa s' := vk_R.warm hW0 hstr
  obtain ⟨U, hsteps, hrun, hend, hW, hsame, ce, hce, hO⟩ := X₁.ctorThrowS hexec htr (own := own) (cls := cls) (names := names) (ic := ic) hown' hcls hnames h (fun x hx => nomatch hx) hfX hkX hcellA (by rw [hhp, hT]; exact Nat.le_refl _) (msg := .ref sa) rfl
    (g := { method := m, pc := pc + 6, locals := ls, stack := .ref sa :: .ref T.heap.size :: .ref T.heap.size :: rest, locked := none }) rfl hsize rfl rfl (rest := rest) rfl
    (by rw [hb]; exact d6) (by rw [hb]; exact d9) hout hRframes (by simp only [List.map_cons, List.sum_cons, hcat]; omega) hlocks
  obtain ⟨f1, f2⟩ := vx_frame hsame
  rw [hhp] at f1 f2
  have hWs : s.WarmedH U.vm := State.WarmedH.trans hW0 hW
  have hcl : s.vm.findClass cls = some ce.cls := by
    have h9 := hO.cls
    rw [hvm] at h9
    exact h9
  have hall : s.sameButNew ({ U with vm := s.vm } : State) locs mc ms := by
    subst hA
    obtain ⟨e1, e2⟩ := hsame
    rw [State.setFrames_setFrames] at e1
    have h2 : (T.setVm s.vm).sameButNew ({ U with vm := s.vm } : State) [] (0 + 1) (0 + 6) := ⟨e1, e2⟩
    have h3 := X.same.trans h2
    rw [List.append_nil] at h3
    exact h3.mono hc hs
  refine ⟨U, ?_, .threw T.heap.size, hrun, hend, Or.inr ⟨T.heap.size, rfl, cls, ce, locs, hx U hWs.alike f1 (fun q hq => f2 q hq (fun z hz => nomatch hz)), hce, hO.vm, hcl, hWs, hall, hf⟩⟩
  refine st1 _ ?_
  show Steps p.tables e below (T1.setTop { method := m, pc := pc + 3, locals := ls, stack := .ref T.heap.size :: rest, locked := none }) _
  jvm_step X₁.here [X₁.here.top, hexec, d3', Value.category]
  exact X₁.ldcString hexec (own := own) (text := text) (index := is) (a := sa) hown' hstr'.1 hstr'.2
    (g := { method := m, pc := pc + 4, locals := ls, stack := .ref T.heap.size :: .ref T.heap.size :: rest, locked := none }) rfl d4' _ hsteps
/-- 'throw new E("text")', the text by a wide index -/
theorem vx_throwSW {cc : ByteArray} {pc : Nat} (hexec : p.tables.exec = Jvm.exec) (hb : c.code = cc) (hl : l.stackTraces = false) {own cls text : String} {names : List String} {ik is ic mc ms sa : Nat} {A : Nat → Prop}
    (hown : s.vm.findClass own = some m.cls) (hcls : Bundle.fit cls = true) (hnames : ∀ n ∈ names, Bundle.fit n = true)
    (hk : (Cond.classLink own ik cls).before args s = true) (hini : (Cond.initialized cls).before args s = true) (hstr : vk_R own is text sa s) (hat : ∀ w ∈ vx_atS own ic cls names, w.before args s = true)
    (hgood : ∀ w ∈ Cond.classLink own ik cls :: Cond.initialized cls :: vx_atS own ic cls names, vx_ot w = true)
    (hU : vx_Zq Bundle.tN "UNASSIGNED_STACK" Bundle.steD A s s.heap) (hN : vx_Zq Bundle.tN "SUPPRESSED_SENTINEL" Bundle.listD A s s.heap) (hS : va_S A s.heap H locs) (hsize : ls.size = c.maxLocals)
    (d0 : decode cc pc = .ok (.new ik, 3)) (d3 : decode cc (pc + 3) = .ok (.dup, 1)) (d4 : decode cc (pc + 4) = .ok (.ldc_w is, 3)) (d7 : decode cc (pc + 7) = .ok (.invokespecial ic, 3)) (d10 : decode cc (pc + 10) = .ok (.athrow, 1))
    (hout : ∀ x ∈ c.exceptionTable.toList, covers x (pc + 10) = false)
    (hRframes : names.length + 3 < R.frames) (hRlocals : (rest.map fun v => v.category).sum + (13 * (names.length + 1) + 43) ≤ R.locals) (hRcells : cells + 1 ≤ R.cells) (hRslots : slots + 6 ≤ R.slots) (hlocks : meth.locks = false)
    (hx : ∀ t : State, s.vm.Alike t.vm → H.size ≤ t.heap.size → (∀ q : Nat, q < H.size → t.heap[q]? = H[q]?) → XC cls s t)
    (hf : ∀ z ∈ locs, free z.base) (hc : cells + 1 ≤ mc) (hs : slots + 6 ≤ ms) :
    W p l e R s m args below meth c H locs cells slots (vx_MQ below Qc XC args s mc ms free) (F0 m pc ls rest) := by
  intro T hT X
  have htr : e.platform.stackTraces = false := (show e.platform.stackTraces = l.stackTraces by rw [X.admits.platform]).trans hl
  have Y := vx_rebase X (R' := { frames := R.frames, locals := R.locals, cells := 1, slots := 6 }) (Nat.le_refl _) (Nat.le_refl _) hRcells hRslots
  obtain ⟨s', hA⟩ : ∃ z, z = (T.setVm s.vm).setFrames (.invoking m args :: below) := ⟨_, rfl⟩
  rw [← hA] at Y
  have hvm : s'.vm = s.vm := by rw [hA]; rfl
  have hhp : s'.heap = H := by rw [hA]; exact hT
  have hW0 : s.WarmedH s'.vm := by rw [hvm]; exact State.WarmedH.refl s
  have hat' : ∀ w ∈ vx_atS own ic cls names, w.before args s' = true := fun w hw => vx_ot_at hW0 hvm.symm (hgood w (List.mem_cons_of_mem _ (List.mem_cons_of_mem _ hw))) (hat w hw)
  have hk' : (Cond.classLink own ik cls).before args s' = true := vx_ot_at hW0 hvm.symm (hgood _ List.mem_cons_self) hk
  have hini' : (Cond.initialized cls).before args s' = true := vx_ot_at hW0 hvm.symm (hgood _ (List.mem_cons_of_mem _ List.mem_cons_self)) hini
  have hU' : vx_Zq Bundle.tN "UNASSIGNED_STACK" Bundle.steD A s' s'.heap := by rw [hhp]; exact vx_Zq.moved hW0.alike (hU.kept hS.2.1)
  have hN' : vx_Zq Bundle.tN "SUPPRESSED_SENTINEL" Bundle.listD A s' s'.heap := by rw [hhp]; exact vx_Zq.moved hW0.alike (hN.kept hS.2.1)
  have h : ∀ w ∈ Bundle.ownAtoms own ic cls names, w.before args s' = true := vx_own hat' (vx_isRefq hU'.1) (vx_isRefq hN'.1) hU'.2.word hN'.2.word
  have hown' : s'.vm.findClass own = some m.cls := by rw [hvm]; exact hown
  have hins : (Cond.instantiable cls 6).before args s' = true := h _ (by simp [Bundle.ownAtoms])
  obtain ⟨vm₁, cX, kX, hfX, hkX, -, -, X₁, st1⟩ := Y.newCold hexec (own := own) (C := cls) (index := ik) (n := 6) hown' hk' hins hini'
    (g := F0 m pc ls rest) rfl (by rw [hb]; exact d0) (Nat.le_refl _) (Nat.le_refl _)
  generalize hT1 : (T.setVm vm₁).pushCell { cls := cX, slots := kX.instanceTypes.map defaultValue, vm := .none } = T1 at X₁ st1
  have hcat : (Value.ref T.heap.size).category = 1 := rfl
  have hcellA : T1.heap[T.heap.size]? = some (freshCell cX kX) := by rw [← hT1]; exact State.heap_pushCell_size _ _
  have d3' : decode c.code (pc + 3) = .ok (.dup, 1) := by rw [hb]; exact d3
  have d4' : decode c.code (pc + 4) = .ok (.ldc_w is, 3) := by rw [hb]; exact d4
  have hstr' : vk_R own is text sa s' := vk_R.warm hW0 hstr
  obtain ⟨U, hsteps, hrun, hend, hW, hsame, ce, hce, hO⟩ := X₁.ctorThrowS hexec htr (own := own) (cls := cls) (names := names) (ic := ic) hown' hcls hnames h (fun x hx => nomatch hx) hfX hkX hcellA (by rw [hhp, hT]; exact Nat.le_refl _) (msg := .ref sa) rfl
    (g := { method := m, pc := pc + 7, locals := ls, stack := .ref sa :: .ref T.heap.size :: .ref T.heap.size :: rest, locked := none }) rfl hsize rfl rfl (rest := rest) rfl
    (by rw [hb]; exact d7) (by rw [hb]; exact d10) hout hRframes (by simp only [List.map_cons, List.sum_cons, hcat]; omega) hlocks
  obtain ⟨f1, f2⟩ := vx_frame hsame
  rw [hhp] at f1 f2
  have hWs : s.WarmedH U.vm := State.WarmedH.trans hW0 hW
  have hcl : s.vm.findClass cls = some ce.cls := by
    have h9 := hO.cls
    rw [hvm] at h9
    exact h9
  have hall : s.sameButNew ({ U with vm := s.vm } : State) locs mc ms := by
    subst hA
    obtain ⟨e1, e2⟩ := hsame
    rw [State.setFrames_setFrames] at e1
    have h2 : (T.setVm s.vm).sameButNew ({ U with vm := s.vm } : State) [] (0 + 1) (0 + 6) := ⟨e1, e2⟩
    have h3 := X.same.trans h2
    rw [List.append_nil] at h3
    exact h3.mono hc hs
  refine ⟨U, ?_, .threw T.heap.size, hrun, hend, Or.inr ⟨T.heap.size, rfl, cls, ce, locs, hx U hWs.alike f1 (fun q hq => f2 q hq (fun z hz => nomatch hz)), hce, hO.vm, hcl, hWs, hall, hf⟩⟩
  refine st1 _ ?_
  show Steps p.tables e below (T1.setTop { method := m, pc := pc + 3, locals := ls, stack := .ref T.heap.size :: rest, locked := none }) _
  jvm_step X₁.here [X₁.here.top, hexec, d3', Value.category]
  exact X₁.ldcStringW hexec (own := own) (text := text) (index := is) (a := sa) hown' hstr'.1 hstr'.2
    (g := { method := m, pc := pc + 4, locals := ls, stack := .ref T.heap.size :: .ref T.heap.size :: rest, locked := none }) rfl d4' _ hsteps
end Ends
section Bodies
variable {l : Launch}
theorem vx_ofW {y : MethodName} {ws ws' : List Cond} {rm : Room} {Pc : Array Value → State → Prop} {Qc : Array Value → State → Outcome → State → Prop} {XC : String → State → State → Prop} {mc ms : Nat} {free : Addr → Prop} {cc : ByteArray} {maxL : Nat} {ret : Option FieldType}
    (hy : plainName y.cls = true) (hw : ws = Cond.code y cc maxL ret :: ws')
    (body : ∀ p e s m args below meth c s₁, BodyLoose p l y (headSpec ws rm) cc maxL ret e s m args below meth c s₁ → c.maxLocals = maxL → (∀ x ∈ c.exceptionTable.toList, False) → Pc args s →
      W p l e (headSpec ws rm).room s m args below meth c s.heap [] 0 0 (vx_MQ below Qc XC args s mc ms free) (entryFrame m args maxL)) : vx_Met l y ws rm Pc Qc XC mc ms free := by
  refine MetFree.of_bodyS (code := cc) (maxLocals := maxL) (ret := ret) hy ?_ ?_
  · intro args s m h hn
    obtain ⟨meth, c, h1, h2, h3, h4, h5, h6, -, -⟩ := Cond.code_spec hn (atoms_spec (ws := ws) h _ (by rw [hw]; exact List.mem_cons_self))
    exact ⟨meth, c, h1, h2, h3, h4, h5, h6⟩
  · intro p e s m args below meth c s₁ B hml hP _
    have hh0 : s₁.heap = s.heap := by rw [B.state]; rfl
    have ht : ∀ x ∈ c.exceptionTable.toList, False := by
      obtain ⟨meth9, c9, h1, h2, -, -, -, -, h7, -⟩ := Cond.code_spec B.named (atoms_spec (ws := ws) B.pre _ (by rw [hw]; exact List.mem_cons_self))
      cases Option.some.inj (h1.symm.trans B.method)
      cases Option.some.inj (h2.symm.trans (Stand.of_body B).code)
      intro x hx
      rw [Array.isEmpty_iff.mp h7] at hx
      cases hx
    obtain ⟨t, a1, o, b1, b2, b3⟩ := body p e s m args below meth c s₁ B hml ht hP s₁ hh0 (Stand.of_body B)
    exact ⟨t, o, a1, b1, b2, b3⟩
/-- the table of a body with handlers -/
theorem vx_table {p : Program} {x y : MethodName} {S : Spec} {cc bytes : ByteArray} {maxL maxL' : Nat} {ret ret' : Option FieldType} {e : Env} {s s₁ : State} {m : MethodId} {args : Array Value} {below : List Frame} {meth : Method} {c : Code} {hh : List (Nat × Nat × Nat × Nat)}
    (B : BodyLoose p l y S cc maxL ret e s m args below meth c s₁) (h : (Cond.codeWith y bytes maxL' ret' hh).before args s = true) : c.exceptionTable.toList = tableOf hh := by
  obtain ⟨m9, meth9, c9, hn9, h1, h2, -, -, h6, -⟩ := Cond.codeWith_spec h
  cases Option.some.inj (hn9.symm.trans B.named)
  cases Option.some.inj (h1.symm.trans B.method)
  cases Option.some.inj (h2.symm.trans (Stand.of_body B).code)
  rw [← h6, table_eq]
end Bodies
end VXA
/-! ===== END ===== -/
/-! ===== BEGIN a static call of a method with an exception table ===== -/
section VXS
variable {p : Program} {l : Launch} {e : Env} {R : Room} {s : State} {m : MethodId} {args : Array Value} {below : List Frame} {meth : Method} {c : Code} {T : State} {H : Heap} {locs : List Loc} {cells slots : Nat}
abbrev vx_CSW (R : Room) (s : State) (args : Array Value) (own : String) (index : Nat) (y : MethodName) (bytes : ByteArray) (maxL : Nat) (ret : Option FieldType) (hh : List (Nat × Nat × Nat × Nat)) (ws : List Cond) (rm : Room) (mc ms n : Nat) : Prop :=
  (rm.cells = mc ∧ rm.slots = ms ∧ rm.frames + 1 ≤ R.frames ∧ 8 + (maxL + 11) + rm.locals ≤ R.locals ∧ (∀ w ∈ ws, ∀ (a' : Array Value) (U : State), s.WarmedH U.vm → w.before a' U = true) ∧ Cond.codeWith y bytes maxL ret hh ∈ ws) ∧
  (Cond.codeWith y bytes maxL ret hh).before args s = true ∧ (Cond.initialized y.cls).before args s = true ∧ (y.cls ≠ "java/lang/invoke/MethodHandle" ∧ y.cls ≠ "java/lang/invoke/VarHandle") ∧
  (∀ sig, parseMethodDescriptor y.desc = some sig → n = sig.parameters.length) ∧ (Cond.methodLink own index y).before args s = true ∧ (Cond.static y).before args s = true
theorem vx_cwSW {own : String} {index maxL mc ms : Nat} {y : MethodName} {bytes : ByteArray} {ret : Option FieldType} {hh : List (Nat × Nat × Nat × Nat)} {Ts ws ws' : List Cond} {rm : Room} (n : Nat) (ht : ∀ w ∈ Ts, w.before args s = true) (hT : GoodIn Ts (va_wsS own index y ws)) (hw : ws = Cond.codeWith y bytes maxL ret hh :: ws') (hrc : rm.cells = mc) (hrs : rm.slots = ms)
    (hd : y.cls ≠ "java/lang/invoke/MethodHandle" ∧ y.cls ≠ "java/lang/invoke/VarHandle" ∧ (parseMethodDescriptor y.desc).map (fun d => d.parameters.length) = some n) (hR : rm.frames + 1 ≤ R.frames ∧ 8 + (maxL + 11) + rm.locals ≤ R.locals) :
    vx_CSW R s args own index y bytes maxL ret hh ws rm mc ms n := by
  have ok : ∀ w ∈ va_wsS own index y ws, w.before args s = true := fun w h => ht w (hT w h).1
  have hG : GoodIn Ts ws := fun w h => hT w (by unfold va_wsS; exact List.mem_append_right _ h)
  have hc : Cond.codeWith y bytes maxL ret hh ∈ ws := by rw [hw]; exact List.mem_cons_self
  refine ⟨⟨hrc, hrs, hR.1, hR.2, pay_in ht hG, hc⟩, ht _ (hG _ hc).1, ok _ (by simp [va_wsS]), ⟨hd.1, hd.2.1⟩, fun sig h => ?_, ok _ (by simp [va_wsS]), ok _ (by simp [va_wsS])⟩
  have h2 := hd.2.2
  rw [h] at h2
  exact (Option.some.inj h2).symm
theorem vx_callSW (X : Stand p l e R s m args below meth c T locs cells slots) (hexec : p.tables.exec = Jvm.exec) {own : String} {index : Nat} {y : MethodName} {bytes : ByteArray} {maxL : Nat} {ret : Option FieldType} {hh : List (Nat × Nat × Nat × Nat)}
    (hown : s.vm.findClass own = some m.cls) (hlink : (Cond.methodLink own index y).before args s = true) (hstat : (Cond.static y).before args s = true) (hinit : (Cond.initialized y.cls).before args s = true)
    (hcode : (Cond.codeWith y bytes maxL ret hh).before args s = true) (hy : y.cls ≠ "java/lang/invoke/MethodHandle" ∧ y.cls ≠ "java/lang/invoke/VarHandle")
    {W9 : Nat} {Pre : Pt → Array Value → Prop} {Post : Pt → Array Value → Option Value → Pt → Prop} (hK : Back l R p e below s args y 3 W9 Pre Post)
    {g : JFrame} (hg : g.method = m) (hsize : g.locals.size = c.maxLocals) {argsL rest : List Value} (hlen : ∀ sig, parseMethodDescriptor y.desc = some sig → argsL.length = sig.parameters.length)
    (hstack : g.stack = argsL.reverse ++ rest) (hW : 2 * g.monitorRoom + (rest.map fun v => v.category).sum ≤ W9) (hdg : decode c.code g.pc = .ok (.invokestatic index, 3))
    (hpre : ∀ vm₁, s.WarmedH vm₁ → Pre ⟨T.setVm vm₁, locs, cells, slots⟩ argsL.toArray) :
    ∃ (v : Option Value) (vm₁ : Vm) (B : Pt), s.WarmedH vm₁ ∧ Stand p l e R s m args below meth c B.U B.locs B.cells B.slots ∧ Post ⟨T.setVm vm₁, locs, cells, slots⟩ argsL.toArray v B ∧
      ∀ target, Steps p.tables e below (B.U.setTop { g with pc := g.pc + 3, stack := v.toList ++ rest }) target → Steps p.tables e below (T.setTop g) target := by
  obtain ⟨mk, methM, cM, hnamed, hmethM, -, -, -, -, -, -, hsigM⟩ := Cond.codeWith_spec hcode
  have hstatic : methM.isStatic = true := Cond.static_spec hnamed hmethM hstat
  obtain ⟨kP, hkP, -⟩ := className_of_methodNamed hnamed
  have hinitP : kP.init = .initialized := Cond.initialized_spec (findClass_of_methodNamed hnamed) hkP hinit
  obtain ⟨vm₁, X₁, hstep₁⟩ := X.invokestatic hexec hown hlink hnamed hmethM hstatic hkP hinitP hy (g := g) hg (argsL := argsL) (rest := rest) (hlen _ hsigM) hstack hdg
  obtain ⟨v, B, X', hpost, hsteps⟩ := hK m meth c ⟨T.setVm vm₁, locs, cells, slots⟩ { g with stack := rest } (.invokestatic index) mk argsL.toArray X₁ hg hsize hdg hW (X₁.named hnamed) (hpre vm₁ X₁.warmed)
  exact ⟨v, vm₁, B, X₁.warmed, X', hpost, fun target h => hstep₁ _ fun acts => by rw [doInvoke_state]; exact hsteps.trans h⟩
theorem vx_runSW {y : MethodName} {bytes cc : ByteArray} {maxL nL mc ms n index : Nat} {ret : Option FieldType} {hh : List (Nat × Nat × Nat × Nat)} {ws : List Cond} {rm : Room} {Pc : Array Value → State → Prop} {Qc : Array Value → State → Outcome → State → Prop} {free : Addr → Prop} {Ts : List Cond} {own : String} {As rest : List Value} {g : JFrame}
    (S : CallFix p m c cc nL s args Ts own) (hM : Met l y ws rm Pc Qc mc ms free) (cw : vx_CSW R s args own index y bytes maxL ret hh ws rm mc ms n) (hp : PreS s H Pc As)
    (hg : g.method = m) (hn : As.length = n) (hsize : g.locals.size = nL) (hstack : g.stack = As.reverse ++ rest) (hW : 2 * g.monitorRoom + (rest.map fun v => v.category).sum ≤ 8) (hdg : decode cc g.pc = .ok (.invokestatic index, 3)) (hf : cells + mc ≤ R.cells ∧ slots + ms ≤ R.slots) :
    va_Run p l e R s m args below meth c H locs cells slots mc ms g rest (Qc As.toArray) (free) := by
  obtain ⟨⟨hrc, hrs, hfr, hlo, hws, hcw⟩, hcode, hini, hy, hlen, hl, hstt⟩ := cw
  have hK : Back l R p e below s args y 3 8 (PreOf R mc ms Pc) (PostOf Qc mc ms free) := va_backW (hh := hh) (bytes := bytes) (maxL := maxL) (ret := ret) hM hp.1 hrc hrs hfr hlo hws hcw (fun a' U hW => word_at hW (Or.inl (by first | rfl | simp [Cond.onTables, Cond.keeps, Cond.steady])) hini)
  obtain ⟨hx, hb, hml, ho, -⟩ := S
  intro T hT X
  obtain ⟨v, vm₁, ⟨U', l2, c2, s2⟩, hW₁, X', ⟨g', mk, t, L, e1, e2, hq, h1, hL, h2, h3⟩, st⟩ := vx_callSW X hx (hh := hh) (bytes := bytes) (maxL := maxL) (ret := ret) ho hl hstt hini hcode hy hK hg (hsize.trans hml.symm) (argsL := As) (rest := rest) (fun sig h => hn.trans (hlen sig h)) hstack hW (by rw [hb]; exact hdg)
    (fun vm₁ hW₁ => ⟨hf.1, hf.2, hp.2 (T.setVm vm₁) hT hW₁⟩)
  dsimp only [Pt.U, Pt.locs, Pt.cells, Pt.slots] at X' e1 e2 h1 h2 h3 st
  subst h1; subst h2; subst h3
  exact ⟨v, (T.setVm vm₁).calling g' mk As.toArray, t, U', L, hT, X', hL, e1, e2, hq, st⟩
/-- a thing of a world lies in the heap -/
theorem vx_lt {D : va_G} {cl : List vw_C} {ws : va_W} {H1 : Heap} (h : va_P D cl ws H1) {k : Nat} {q : Nat × va_E} (hk : ws[k]? = some q) : q.1 < H1.size := (h k q hk).lt
end VXS
/-! ===== END ===== -/
/-! ===== BEGIN methods with a table of their own: called by a name, returning or throwing ===== -/
section VXH
section
variable {l : Launch} {R : Room} {p : Program} {e : Env} {below : List Frame} {s : State} {sargs : Array Value} {y : MethodName} {len W9 : Nat}
theorem vx_backW {ws : List Cond} {rm : Room} {Pc : Array Value → State → Prop} {Qc : Array Value → State → Outcome → State → Prop} {XC : String → State → State → Prop} {mc ms : Nat} {free : Addr → Prop} {bytes : ByteArray} {maxL : Nat} {ret : Option FieldType} {hh : List (Nat × Nat × Nat × Nat)}
    (hM : vx_Met l y ws rm Pc Qc XC mc ms free) (hblind : FrameBlind Pc) (hrc : rm.cells = mc) (hrs : rm.slots = ms)
    (hframes : rm.frames + 1 ≤ R.frames) (hlocals : W9 + (maxL + 11) + rm.locals ≤ R.locals)
    (hws : ∀ w ∈ ws, ∀ a' U, s.WarmedH U.vm → w.before a' U = true) (hcode : Cond.codeWith y bytes maxL ret hh ∈ ws) (hinit : ∀ a' U, s.WarmedH U.vm → (Cond.initialized y.cls).before a' U = true) :
    vx_Back l R p e below s sargs y len W9 (PreOf R mc ms Pc) (PostOf Qc mc ms free) (vx_Post XC mc ms free) := by
  intro m meth c A g ig mk a X hg hsize hdg hW hn hp
  have h1 : (headSpec ws rm).pre.before a A.U = true := atoms_intro fun w hw => hws w hw _ _ X.warmed
  have h2 : (Cond.codeWith y bytes maxL ret hh).before a A.U = true := hws _ hcode _ _ X.warmed
  have h3 : (Cond.initialized y.cls).before a A.U = true := hinit _ _ X.warmed
  have h4 : A.cells + (headSpec ws rm).room.cells ≤ R.cells := by rw [show (headSpec ws rm).room.cells = mc from hrc]; exact hp.1
  have h5 : A.slots + (headSpec ws rm).room.slots ≤ R.slots := by rw [show (headSpec ws rm).room.slots = ms from hrs]; exact hp.2.1
  have hPc : Pc a (A.U.calling g mk a) := hblind _ _ _ _ hp.2.2
  obtain ⟨U, Ls, c0, s0⟩ := A
  dsimp only [Pt.U, Pt.locs, Pt.cells, Pt.slots] at h1 h2 h3 h4 h5 X hn hPc ⊢
  obtain ⟨m9, methY, cY, hn9, hmY, hcY, -, hlY, -⟩ := Cond.codeWith_spec h2
  cases Option.some.inj (hn9.symm.trans hn)
  obtain ⟨kY, hkY, -⟩ := className_of_methodNamed hn
  have hinitY : kY.init = .initialized := Cond.initialized_spec (findClass_of_methodNamed hn) hkY h3
  have h : At U g.method c below := by rw [hg]; exact X.here
  have hlocals9 : W9 + (maxL + 11) + (headSpec ws rm).room.locals ≤ R.locals := hlocals
  have happ : (headSpec ws rm).appliesLoose y e.platform (U.calling g mk a) = true :=
    Spec.appliesLoose_calling (g := g) h hdg hn hkY hinitY
      (X.room_calling (g := g) (R' := (headSpec ws rm).room) hsize hmY hcY hframes (by rw [hlY]; omega) h4 h5) h1
  obtain ⟨mid, hmid⟩ := h.above
  have hfr : (U.setTop g).frames = (.java g :: mid) ++ below := by rw [State.frames_setTop' g h.top, hmid]; rfl
  obtain ⟨o, s₂, hsteps, -, hend, hq⟩ := Steps.callFree hM p X.admits X.cas X.clock (acts := []) hfr happ hPc trivial
  have hq' : vx_Q Qc XC mc ms free a (U.calling g mk a) o s₂ := hq
  rw [State.frames_setTop' g h.top] at hend
  obtain ⟨g₀, hg0⟩ := Option.isSome_iff_exists.mp h.top
  obtain ⟨r, hr⟩ := State.topJava?_eq_some.mp hg0
  have hr' : (({ U with heap := s₂.heap, slotsUsed := s₂.slotsUsed } : State).setVm s₂.vm).frames = .java g₀ :: r := hr
  rcases hq' with ⟨hqc, L, hfe, hL⟩ | ⟨q, rfl, E, ce, L, hx, hce, hcv, hcl, hW₂, hsm, hL⟩
  · obtain ⟨⟨v, rfl⟩, hW₂, e2, q2, q3, q4, q5, q6⟩ := id hfe
    have e3 : s₂ = ({ (U.calling g mk a).setFrames s₂.frames with heap := s₂.heap, slotsUsed := s₂.slotsUsed } : State).setVm s₂.vm := by
      have : s₂ = ({ s₂ with vm := (U.calling g mk a).vm } : State).setVm s₂.vm := rfl
      rw [e2] at this
      exact this
    obtain ⟨c₂, i₂, len₂, hc₂, hd₂, hf₂⟩ := hend
    have hW' : U.WarmedH s₂.vm := hW₂
    have hcc : c₂ = c := by
      have h1 : s₂.code? g.method = U.code? g.method := by
        rw [State.code?_eq, State.code?_eq, hW'.alike.method?]
      exact Option.some.inj (hc₂.symm.trans (h1.trans h.code))
    subst hcc
    have hlen : len₂ = len := by rw [hdg] at hd₂; cases hd₂; rfl
    subst hlen
    have hs₂ : s₂ = (({ U with heap := s₂.heap, slotsUsed := s₂.slotsUsed } : State).setVm s₂.vm).setTop { g with pc := g.pc + len₂, stack := v.toList ++ g.stack } := by
      refine e3.trans ?_
      rw [hf₂, State.calling_eq h.top, State.setFrames_setFrames, State.setTop_of_frames _ hr', hr]
      rfl
    have hsame : U.sameButNew ({ U with heap := s₂.heap, slotsUsed := s₂.slotsUsed } : State) L mc ms := by
      refine ⟨?_, q2, q3, q4, q5, q6⟩
      obtain ⟨t, ht, -⟩ := State.frames_cons hr
      show ({ U with heap := s₂.heap, slotsUsed := s₂.slotsUsed } : State) = { U.setFrames U.frames with heap := s₂.heap, slotsUsed := s₂.slotsUsed }
      rw [State.setFrames_self ht]
    subst hg
    refine Or.inl ⟨v, ⟨(({ U with heap := s₂.heap, slotsUsed := s₂.slotsUsed } : State).setVm s₂.vm), Ls ++ L, c0 + mc, s0 + ms⟩,
      ⟨X.admits, X.cas, X.clock, X.frames, X.room, X.hears, X.method, X.code, (X.here.setHeapUsed s₂.heap s₂.slotsUsed).setVm hW'.alike, X.tail, State.WarmedH.trans X.warmed hW', X.limits, X.bytes, X.same.trans (hsame.setVm s.vm)⟩,
      ⟨g, mk, s₂, L, rfl, rfl, hqc, rfl, hL, rfl, rfl⟩, ?_⟩
    show Steps p.tables e below _ ((({ U with heap := s₂.heap, slotsUsed := s₂.slotsUsed } : State).setVm s₂.vm).setTop { g with pc := g.pc + len₂, stack := v.toList ++ g.stack })
    rw [← hs₂]
    exact hsteps
  · obtain ⟨e2, q2, q3, q4, q5, q6⟩ := id hsm
    have e3 : s₂ = ({ (U.calling g mk a).setFrames s₂.frames with heap := s₂.heap, slotsUsed := s₂.slotsUsed } : State).setVm s₂.vm := by
      have : s₂ = ({ s₂ with vm := (U.calling g mk a).vm } : State).setVm s₂.vm := rfl
      rw [e2] at this
      exact this
    have hf₂ : s₂.frames = .throwing q :: .java g :: U.frames.tail := hend
    have hW' : U.WarmedH s₂.vm := hW₂
    have hs₂ : s₂ = ((({ U with heap := s₂.heap, slotsUsed := s₂.slotsUsed } : State).setVm s₂.vm).setTop g).pushFrame (.throwing q) := by
      refine e3.trans ?_
      rw [hf₂, State.calling_eq h.top, State.setFrames_setFrames, State.pushFrame, State.frames_setTop _ hr', State.setTop_of_frames _ hr', State.setFrames_setFrames, hr]
      rfl
    have hsame : U.sameButNew ({ U with heap := s₂.heap, slotsUsed := s₂.slotsUsed } : State) L mc ms := by
      refine ⟨?_, q2, q3, q4, q5, q6⟩
      obtain ⟨t, ht, -⟩ := State.frames_cons hr
      show ({ U with heap := s₂.heap, slotsUsed := s₂.slotsUsed } : State) = { U.setFrames U.frames with heap := s₂.heap, slotsUsed := s₂.slotsUsed }
      rw [State.setFrames_self ht]
    subst hg
    refine Or.inr ⟨q, ⟨(({ U with heap := s₂.heap, slotsUsed := s₂.slotsUsed } : State).setVm s₂.vm), Ls ++ L, c0 + mc, s0 + ms⟩,
      ⟨X.admits, X.cas, X.clock, X.frames, X.room, X.hears, X.method, X.code, (X.here.setHeapUsed s₂.heap s₂.slotsUsed).setVm hW'.alike, X.tail, State.WarmedH.trans X.warmed hW', X.limits, X.bytes, X.same.trans (hsame.setVm s.vm)⟩,
      ⟨g, mk, s₂, L, E, ce, rfl, rfl, hx, hce, hcv, hcl, rfl, hL, rfl, rfl⟩, ?_⟩
    show Steps p.tables e below _ (((({ U with heap := s₂.heap, slotsUsed := s₂.slotsUsed } : State).setVm s₂.vm).setTop g).pushFrame (.throwing q))
    rw [← hs₂]
    exact hsteps
end
variable {p : Program} {l : Launch} {e : Env} {R : Room} {s : State} {m : MethodId} {args : Array Value} {below : List Frame} {meth : Method} {c : Code} {T : State} {H : Heap} {locs : List Loc} {cells slots : Nat}
theorem vx_callVX (X : Stand p l e R s m args below meth c T locs cells slots) (hexec : p.tables.exec = Jvm.exec) {own C : String} {index : Nat} {y : MethodName} {bytes : ByteArray} {maxL : Nat} {ret : Option FieldType} {hh : List (Nat × Nat × Nat × Nat)}
    (hown : s.vm.findClass own = some m.cls) (hlink : (Cond.methodLink own index y).before args s = true) (hinst : (Cond.instanceMethod y).before args s = true) (hsel : (Cond.selects C y y).before args s = true)
    (hcode : (Cond.codeWith y bytes maxL ret hh).before args s = true) (hy : y.cls ≠ "java/lang/invoke/MethodHandle" ∧ y.cls ≠ "java/lang/invoke/VarHandle")
    {W9 : Nat} {Pre : Pt → Array Value → Prop} {Post : Pt → Array Value → Option Value → Pt → Prop} {PostX : Pt → Array Value → Addr → Pt → Prop} (hK : vx_Back l R p e below s args y 3 W9 Pre Post PostX)
    {b : Addr} {cellB : Cell} (hcell : T.heap[b]? = some cellB) (hobj : cellB.vm.isStatics = false) (hcls : s.vm.findClass C = some cellB.cls)
    {g : JFrame} (hg : g.method = m) (hsize : g.locals.size = c.maxLocals) {argsL rest : List Value} (hlen : ∀ sig, parseMethodDescriptor y.desc = some sig → argsL.length = sig.parameters.length)
    (hstack : g.stack = argsL.reverse ++ .ref b :: rest) (hW : 2 * g.monitorRoom + (rest.map fun v => v.category).sum ≤ W9) (hdg : decode c.code g.pc = .ok (.invokevirtual index, 3))
    (hpre : ∀ vm₁, s.WarmedH vm₁ → Pre ⟨T.setVm vm₁, locs, cells, slots⟩ (Value.ref b :: argsL).toArray) :
    (∃ (v : Option Value) (vm₁ : Vm) (B : Pt), s.WarmedH vm₁ ∧ Stand p l e R s m args below meth c B.U B.locs B.cells B.slots ∧ Post ⟨T.setVm vm₁, locs, cells, slots⟩ (Value.ref b :: argsL).toArray v B ∧
      ∀ target, Steps p.tables e below (B.U.setTop { g with pc := g.pc + 3, stack := v.toList ++ rest }) target → Steps p.tables e below (T.setTop g) target) ∨
    (∃ (q : Addr) (vm₁ : Vm) (B : Pt), s.WarmedH vm₁ ∧ Stand p l e R s m args below meth c B.U B.locs B.cells B.slots ∧ PostX ⟨T.setVm vm₁, locs, cells, slots⟩ (Value.ref b :: argsL).toArray q B ∧
      Steps p.tables e below (T.setTop g) ((B.U.setTop { g with stack := rest }).pushFrame (.throwing q))) := by
  obtain ⟨mk, methM, hnamed, hmethM, hstM, habM⟩ := Cond.instanceMethod_spec hinst
  obtain ⟨m8, methM', cM, hn8, hmethM', -, -, -, -, -, -, hsigM⟩ := Cond.codeWith_spec hcode
  cases Option.some.inj (hn8.symm.trans hnamed)
  cases hmethM.symm.trans hmethM'
  obtain ⟨c2, r2, m2, q1, q2, q3, q4, kP, hkP, hkPi⟩ := Cond.selects_spec hsel
  cases hcls.symm.trans q1
  cases (State.methodFound?_of_named hnamed hy).symm.trans q2
  cases hnamed.symm.trans q3
  have hselP : selectMethod e.platform s.vm cellB.cls mk = .method mk := by rw [Launch.admits_selectMethod X.admits]; exact q4
  obtain ⟨vm₁, X₁, hstep₁⟩ := X.invokevirtual hexec hown hlink hnamed hmethM hstM hkP hkPi hy (a := b) (cell := cellB) hcell
    (fun z h => by rw [h] at hobj; cases hobj) hselP hmethM habM hkP hkPi (g := g) hg (argsL := argsL) (rest := rest) (hlen _ hsigM) hstack hdg
  rcases hK m meth c ⟨T.setVm vm₁, locs, cells, slots⟩ { g with stack := rest } (.invokevirtual index) mk (Value.ref b :: argsL).toArray X₁ hg hsize hdg hW (X₁.named hnamed) (hpre vm₁ X₁.warmed) with ⟨v, B, X', hpost, hsteps⟩ | ⟨q, B, X', hpost, hsteps⟩
  · exact Or.inl ⟨v, vm₁, B, X₁.warmed, X', hpost, fun target h => hstep₁ _ fun acts => by rw [doInvoke_state]; exact hsteps.trans h⟩
  · exact Or.inr ⟨q, vm₁, B, X₁.warmed, X', hpost, hstep₁ _ fun acts => by rw [doInvoke_state]; exact hsteps⟩
theorem vx_callSX (X : Stand p l e R s m args below meth c T locs cells slots) (hexec : p.tables.exec = Jvm.exec) {own : String} {index : Nat} {y : MethodName} {bytes : ByteArray} {maxL : Nat} {ret : Option FieldType} {hh : List (Nat × Nat × Nat × Nat)}
    (hown : s.vm.findClass own = some m.cls) (hlink : (Cond.methodLink own index y).before args s = true) (hstat : (Cond.static y).before args s = true) (hinit : (Cond.initialized y.cls).before args s = true)
    (hcode : (Cond.codeWith y bytes maxL ret hh).before args s = true) (hy : y.cls ≠ "java/lang/invoke/MethodHandle" ∧ y.cls ≠ "java/lang/invoke/VarHandle")
    {W9 : Nat} {Pre : Pt → Array Value → Prop} {Post : Pt → Array Value → Option Value → Pt → Prop} {PostX : Pt → Array Value → Addr → Pt → Prop} (hK : vx_Back l R p e below s args y 3 W9 Pre Post PostX)
    {g : JFrame} (hg : g.method = m) (hsize : g.locals.size = c.maxLocals) {argsL rest : List Value} (hlen : ∀ sig, parseMethodDescriptor y.desc = some sig → argsL.length = sig.parameters.length)
    (hstack : g.stack = argsL.reverse ++ rest) (hW : 2 * g.monitorRoom + (rest.map fun v => v.category).sum ≤ W9) (hdg : decode c.code g.pc = .ok (.invokestatic index, 3))
    (hpre : ∀ vm₁, s.WarmedH vm₁ → Pre ⟨T.setVm vm₁, locs, cells, slots⟩ argsL.toArray) :
    (∃ (v : Option Value) (vm₁ : Vm) (B : Pt), s.WarmedH vm₁ ∧ Stand p l e R s m args below meth c B.U B.locs B.cells B.slots ∧ Post ⟨T.setVm vm₁, locs, cells, slots⟩ argsL.toArray v B ∧
      ∀ target, Steps p.tables e below (B.U.setTop { g with pc := g.pc + 3, stack := v.toList ++ rest }) target → Steps p.tables e below (T.setTop g) target) ∨
    (∃ (q : Addr) (vm₁ : Vm) (B : Pt), s.WarmedH vm₁ ∧ Stand p l e R s m args below meth c B.U B.locs B.cells B.slots ∧ PostX ⟨T.setVm vm₁, locs, cells, slots⟩ argsL.toArray q B ∧
      Steps p.tables e below (T.setTop g) ((B.U.setTop { g with stack := rest }).pushFrame (.throwing q))) := by
  obtain ⟨mk, methM, cM, hnamed, hmethM, -, -, -, -, -, -, hsigM⟩ := Cond.codeWith_spec hcode
  have hstatic : methM.isStatic = true := Cond.static_spec hnamed hmethM hstat
  obtain ⟨kP, hkP, -⟩ := className_of_methodNamed hnamed
  have hinitP : kP.init = .initialized := Cond.initialized_spec (findClass_of_methodNamed hnamed) hkP hinit
  obtain ⟨vm₁, X₁, hstep₁⟩ := X.invokestatic hexec hown hlink hnamed hmethM hstatic hkP hinitP hy (g := g) hg (argsL := argsL) (rest := rest) (hlen _ hsigM) hstack hdg
  rcases hK m meth c ⟨T.setVm vm₁, locs, cells, slots⟩ { g with stack := rest } (.invokestatic index) mk argsL.toArray X₁ hg hsize hdg hW (X₁.named hnamed) (hpre vm₁ X₁.warmed) with ⟨v, B, X', hpost, hsteps⟩ | ⟨q, B, X', hpost, hsteps⟩
  · exact Or.inl ⟨v, vm₁, B, X₁.warmed, X', hpost, fun target h => hstep₁ _ fun acts => by rw [doInvoke_state]; exact hsteps.trans h⟩
  · exact Or.inr ⟨q, vm₁, B, X₁.warmed, X', hpost, hstep₁ _ fun acts => by rw [doInvoke_state]; exact hsteps⟩
theorem vx_callVW (X : Stand p l e R s m args below meth c T locs cells slots) (hexec : p.tables.exec = Jvm.exec) {own C : String} {index : Nat} {y : MethodName} {bytes : ByteArray} {maxL : Nat} {ret : Option FieldType} {hh : List (Nat × Nat × Nat × Nat)}
    (hown : s.vm.findClass own = some m.cls) (hlink : (Cond.methodLink own index y).before args s = true) (hinst : (Cond.instanceMethod y).before args s = true) (hsel : (Cond.selects C y y).before args s = true)
    (hcode : (Cond.codeWith y bytes maxL ret hh).before args s = true) (hy : y.cls ≠ "java/lang/invoke/MethodHandle" ∧ y.cls ≠ "java/lang/invoke/VarHandle")
    {W9 : Nat} {Pre : Pt → Array Value → Prop} {Post : Pt → Array Value → Option Value → Pt → Prop} (hK : Back l R p e below s args y 3 W9 Pre Post)
    {b : Addr} {cellB : Cell} (hcell : T.heap[b]? = some cellB) (hobj : cellB.vm.isStatics = false) (hcls : s.vm.findClass C = some cellB.cls)
    {g : JFrame} (hg : g.method = m) (hsize : g.locals.size = c.maxLocals) {argsL rest : List Value} (hlen : ∀ sig, parseMethodDescriptor y.desc = some sig → argsL.length = sig.parameters.length)
    (hstack : g.stack = argsL.reverse ++ .ref b :: rest) (hW : 2 * g.monitorRoom + (rest.map fun v => v.category).sum ≤ W9) (hdg : decode c.code g.pc = .ok (.invokevirtual index, 3))
    (hpre : ∀ vm₁, s.WarmedH vm₁ → Pre ⟨T.setVm vm₁, locs, cells, slots⟩ (Value.ref b :: argsL).toArray) :
    ∃ (v : Option Value) (vm₁ : Vm) (B : Pt), s.WarmedH vm₁ ∧ Stand p l e R s m args below meth c B.U B.locs B.cells B.slots ∧ Post ⟨T.setVm vm₁, locs, cells, slots⟩ (Value.ref b :: argsL).toArray v B ∧
      ∀ target, Steps p.tables e below (B.U.setTop { g with pc := g.pc + 3, stack := v.toList ++ rest }) target → Steps p.tables e below (T.setTop g) target := by
  obtain ⟨mk, methM, hnamed, hmethM, hstM, habM⟩ := Cond.instanceMethod_spec hinst
  obtain ⟨m8, methM', cM, hn8, hmethM', -, -, -, -, -, -, hsigM⟩ := Cond.codeWith_spec hcode
  cases Option.some.inj (hn8.symm.trans hnamed)
  cases hmethM.symm.trans hmethM'
  obtain ⟨c2, r2, m2, q1, q2, q3, q4, kP, hkP, hkPi⟩ := Cond.selects_spec hsel
  cases hcls.symm.trans q1
  cases (State.methodFound?_of_named hnamed hy).symm.trans q2
  cases hnamed.symm.trans q3
  have hselP : selectMethod e.platform s.vm cellB.cls mk = .method mk := by rw [Launch.admits_selectMethod X.admits]; exact q4
  obtain ⟨vm₁, X₁, hstep₁⟩ := X.invokevirtual hexec hown hlink hnamed hmethM hstM hkP hkPi hy (a := b) (cell := cellB) hcell
    (fun z h => by rw [h] at hobj; cases hobj) hselP hmethM habM hkP hkPi (g := g) hg (argsL := argsL) (rest := rest) (hlen _ hsigM) hstack hdg
  obtain ⟨v, B, X', hpost, hsteps⟩ := hK m meth c ⟨T.setVm vm₁, locs, cells, slots⟩ { g with stack := rest } (.invokevirtual index) mk (Value.ref b :: argsL).toArray X₁ hg hsize hdg hW (X₁.named hnamed) (hpre vm₁ X₁.warmed)
  exact ⟨v, vm₁, B, X₁.warmed, X', hpost, fun target h => hstep₁ _ fun acts => by rw [doInvoke_state]; exact hsteps.trans h⟩
abbrev vx_CVW (R : Room) (s : State) (args : Array Value) (own C : String) (index : Nat) (y : MethodName) (bytes : ByteArray) (maxL : Nat) (ret : Option FieldType) (hh : List (Nat × Nat × Nat × Nat)) (ws : List Cond) (rm : Room) (mc ms n : Nat) : Prop :=
  (rm.cells = mc ∧ rm.slots = ms ∧ rm.frames + 1 ≤ R.frames ∧ 8 + (maxL + 11) + rm.locals ≤ R.locals ∧ (∀ w ∈ ws, ∀ (a' : Array Value) (U : State), s.WarmedH U.vm → w.before a' U = true) ∧ Cond.codeWith y bytes maxL ret hh ∈ ws) ∧
  (Cond.codeWith y bytes maxL ret hh).before args s = true ∧ (Cond.initialized y.cls).before args s = true ∧ (y.cls ≠ "java/lang/invoke/MethodHandle" ∧ y.cls ≠ "java/lang/invoke/VarHandle") ∧
  (∀ sig, parseMethodDescriptor y.desc = some sig → n = sig.parameters.length) ∧ (Cond.methodLink own index y).before args s = true ∧ (Cond.instanceMethod y).before args s = true ∧ (Cond.selects C y y).before args s = true
theorem vx_cwVW {own C : String} {index maxL mc ms : Nat} {y : MethodName} {bytes : ByteArray} {ret : Option FieldType} {hh : List (Nat × Nat × Nat × Nat)} {Ts ws ws' : List Cond} {rm : Room} (n : Nat) (ht : ∀ w ∈ Ts, w.before args s = true) (hT : GoodIn Ts (wsV own index C y ws)) (hw : ws = Cond.codeWith y bytes maxL ret hh :: ws') (hrc : rm.cells = mc) (hrs : rm.slots = ms)
    (hd : y.cls = C ∧ y.cls ≠ "java/lang/invoke/MethodHandle" ∧ y.cls ≠ "java/lang/invoke/VarHandle" ∧ (parseMethodDescriptor y.desc).map (fun d => d.parameters.length) = some n) (hR : rm.frames + 1 ≤ R.frames ∧ 8 + (maxL + 11) + rm.locals ≤ R.locals) :
    vx_CVW R s args own C index y bytes maxL ret hh ws rm mc ms n := by
  obtain ⟨hC, hd⟩ := hd
  subst hC
  have ok : ∀ w ∈ wsV own index y.cls y ws, w.before args s = true := fun w h => ht w (hT w h).1
  have hG : GoodIn Ts ws := fun w h => hT w (by unfold wsV; exact List.mem_append_right _ h)
  have hc : Cond.codeWith y bytes maxL ret hh ∈ ws := by rw [hw]; exact List.mem_cons_self
  refine ⟨⟨hrc, hrs, hR.1, hR.2, pay_in ht hG, hc⟩, ht _ (hG _ hc).1, ok _ (by simp [wsV]), ⟨hd.1, hd.2.1⟩, fun sig h => ?_, ok _ (by simp [wsV]), ok _ (by simp [wsV]), ok _ (by simp [wsV])⟩
  have h2 := hd.2.2
  rw [h] at h2
  exact (Option.some.inj h2).symm
theorem vx_runVW {y : MethodName} {bytes cc : ByteArray} {maxL nL mc ms n index : Nat} {ret : Option FieldType} {hh : List (Nat × Nat × Nat × Nat)} {ws : List Cond} {rm : Room} {Pc : Array Value → State → Prop} {Qc : Array Value → State → Outcome → State → Prop} {free : Addr → Prop} {Ts : List Cond} {own C : String} {b : Addr} {As rest : List Value} {g : JFrame}
    (S : CallFix p m c cc nL s args Ts own) (hM : Met l y ws rm Pc Qc mc ms free) (cw : vx_CVW R s args own C index y bytes maxL ret hh ws rm mc ms n) (hp : PreV s H C b Pc As)
    (hg : g.method = m) (hn : As.length = n) (hsize : g.locals.size = nL) (hstack : g.stack = As.reverse ++ .ref b :: rest) (hW : 2 * g.monitorRoom + (rest.map fun v => v.category).sum ≤ 8) (hdg : decode cc g.pc = .ok (.invokevirtual index, 3)) (hf : cells + mc ≤ R.cells ∧ slots + ms ≤ R.slots) :
    va_Run p l e R s m args below meth c H locs cells slots mc ms g rest (Qc (Value.ref b :: As).toArray) free := by
  obtain ⟨⟨hrc, hrs, hfr, hlo, hws, hcw⟩, hcode, hini, hy, hlen, hl, hin, hse⟩ := cw
  have hK : Back l R p e below s args y 3 8 (PreOf R mc ms Pc) (PostOf Qc mc ms free) := va_backW (hh := hh) (bytes := bytes) (maxL := maxL) (ret := ret) hM hp.1 hrc hrs hfr hlo hws hcw (fun a' U hW => word_at hW (Or.inl (by first | rfl | simp [Cond.onTables, Cond.keeps, Cond.steady])) hini)
  obtain ⟨hx, hb, hml, ho, -⟩ := S
  obtain ⟨-, ⟨cellB, hcB, hoB, hclB⟩, hPc⟩ := hp
  intro T hT X
  obtain ⟨v, vm₁, ⟨U', l2, c2, s2⟩, hW₁, X', ⟨g', mk, t, L, e1, e2, hq, h1, hL, h2, h3⟩, st⟩ := vx_callVW X hx (C := C) (hh := hh) (bytes := bytes) (maxL := maxL) (ret := ret) ho hl hin hse hcode hy hK (by rw [hT]; exact hcB) hoB hclB hg (hsize.trans hml.symm) (argsL := As) (rest := rest) (fun sig h => hn.trans (hlen sig h)) hstack hW (by rw [hb]; exact hdg)
    (fun vm₁ hW₁ => ⟨hf.1, hf.2, hPc (T.setVm vm₁) hT hW₁⟩)
  dsimp only [Pt.U, Pt.locs, Pt.cells, Pt.slots] at X' e1 e2 h1 h2 h3 st
  subst h1; subst h2; subst h3
  exact ⟨v, (T.setVm vm₁).calling g' mk (Value.ref b :: As).toArray, t, U', L, hT, X', hL, e1, e2, hq, st⟩
section
variable {y : MethodName} {bytes cc : ByteArray} {maxL nL mc ms n index : Nat} {ret : Option FieldType} {ws : List Cond} {rm : Room} {Pc : Array Value → State → Prop} {Qc : Array Value → State → Outcome → State → Prop} {XC : String → State → State → Prop} {free : Addr → Prop} {Ts : List Cond} {own C : String} {b : Addr} {As rest : List Value} {g : JFrame}
theorem vx_runVX {hh : List (Nat × Nat × Nat × Nat)} (S : CallFix p m c cc nL s args Ts own) (hM : vx_Met l y ws rm Pc Qc XC mc ms free) (cw : vx_CVW R s args own C index y bytes maxL ret hh ws rm mc ms n) (hp : PreV s H C b Pc As)
    (hg : g.method = m) (hn : As.length = n) (hsize : g.locals.size = nL) (hstack : g.stack = As.reverse ++ .ref b :: rest) (hW : 2 * g.monitorRoom + (rest.map fun v => v.category).sum ≤ 8) (hdg : decode cc g.pc = .ok (.invokevirtual index, 3)) (hf : cells + mc ≤ R.cells ∧ slots + ms ≤ R.slots) :
    vx_Run p l e R s m args below meth c H locs cells slots mc ms g rest (Qc (Value.ref b :: As).toArray) XC free := by
  obtain ⟨⟨hrc, hrs, hfr, hlo, hws, hcw⟩, hcode, hini, hy, hlen, hl, hin, hse⟩ := cw
  have hK : vx_Back l R p e below s args y 3 8 (PreOf R mc ms Pc) (PostOf Qc mc ms free) (vx_Post XC mc ms free) := vx_backW (hh := hh) (bytes := bytes) (maxL := maxL) (ret := ret) hM hp.1 hrc hrs hfr hlo hws hcw (fun a' U hW => word_at hW (Or.inl (by first | rfl | simp [Cond.onTables, Cond.keeps, Cond.steady])) hini)
  obtain ⟨hx, hb, hml, ho, -⟩ := S
  obtain ⟨-, ⟨cellB, hcB, hoB, hclB⟩, hPc⟩ := hp
  intro T hT X
  rcases vx_callVX X hx (C := C) (hh := hh) (bytes := bytes) (maxL := maxL) (ret := ret) ho hl hin hse hcode hy hK (by rw [hT]; exact hcB) hoB hclB hg (hsize.trans hml.symm) (argsL := As) (rest := rest) (fun sig h => hn.trans (hlen sig h)) hstack hW (by rw [hb]; exact hdg)
    (fun vm₁ hW₁ => ⟨hf.1, hf.2, hPc (T.setVm vm₁) hT hW₁⟩) with ⟨v, vm₁, ⟨U', l2, c2, s2⟩, hW₁, X', ⟨g', mk, t, L, e1, e2, hq, h1, hL, h2, h3⟩, st⟩ | ⟨q, vm₁, ⟨U', l2, c2, s2⟩, hW₁, X', ⟨g', mk, t, L, E, ce, e1, e2, hq, hce, hcv, hcl, h1, hL, h2, h3⟩, st⟩
  · dsimp only [Pt.U, Pt.locs, Pt.cells, Pt.slots] at X' e1 e2 h1 h2 h3 st
    subst h1; subst h2; subst h3
    exact Or.inl ⟨v, (T.setVm vm₁).calling g' mk (Value.ref b :: As).toArray, t, U', L, hT, X', hL, e1, e2, hq, st⟩
  · dsimp only [Pt.U, Pt.locs, Pt.cells, Pt.slots] at X' e1 e2 h1 h2 h3 st hcl
    subst h1; subst h2; subst h3
    exact Or.inr ⟨q, (T.setVm vm₁).calling g' mk (Value.ref b :: As).toArray, t, U', L, E, ce, hT, X', hL, e1, e2, hq, hce, hcv, vx_cls hW₁ hcl, st⟩
theorem vx_runSX {hh : List (Nat × Nat × Nat × Nat)} (S : CallFix p m c cc nL s args Ts own) (hM : vx_Met l y ws rm Pc Qc XC mc ms free) (cw : vx_CSW R s args own index y bytes maxL ret hh ws rm mc ms n) (hp : PreS s H Pc As)
    (hg : g.method = m) (hn : As.length = n) (hsize : g.locals.size = nL) (hstack : g.stack = As.reverse ++ rest) (hW : 2 * g.monitorRoom + (rest.map fun v => v.category).sum ≤ 8) (hdg : decode cc g.pc = .ok (.invokestatic index, 3)) (hf : cells + mc ≤ R.cells ∧ slots + ms ≤ R.slots) :
    vx_Run p l e R s m args below meth c H locs cells slots mc ms g rest (Qc As.toArray) XC free := by
  obtain ⟨⟨hrc, hrs, hfr, hlo, hws, hcw⟩, hcode, hini, hy, hlen, hl, hstt⟩ := cw
  have hK : vx_Back l R p e below s args y 3 8 (PreOf R mc ms Pc) (PostOf Qc mc ms free) (vx_Post XC mc ms free) := vx_backW (hh := hh) (bytes := bytes) (maxL := maxL) (ret := ret) hM hp.1 hrc hrs hfr hlo hws hcw (fun a' U hW => word_at hW (Or.inl (by first | rfl | simp [Cond.onTables, Cond.keeps, Cond.steady])) hini)
  obtain ⟨hx, hb, hml, ho, -⟩ := S
  intro T hT X
  rcases vx_callSX X hx (hh := hh) (bytes := bytes) (maxL := maxL) (ret := ret) ho hl hstt hini hcode hy hK hg (hsize.trans hml.symm) (argsL := As) (rest := rest) (fun sig h => hn.trans (hlen sig h)) hstack hW (by rw [hb]; exact hdg)
    (fun vm₁ hW₁ => ⟨hf.1, hf.2, hp.2 (T.setVm vm₁) hT hW₁⟩) with ⟨v, vm₁, ⟨U', l2, c2, s2⟩, hW₁, X', ⟨g', mk, t, L, e1, e2, hq, h1, hL, h2, h3⟩, st⟩ | ⟨q, vm₁, ⟨U', l2, c2, s2⟩, hW₁, X', ⟨g', mk, t, L, E, ce, e1, e2, hq, hce, hcv, hcl, h1, hL, h2, h3⟩, st⟩
  · dsimp only [Pt.U, Pt.locs, Pt.cells, Pt.slots] at X' e1 e2 h1 h2 h3 st
    subst h1; subst h2; subst h3
    exact Or.inl ⟨v, (T.setVm vm₁).calling g' mk As.toArray, t, U', L, hT, X', hL, e1, e2, hq, st⟩
  · dsimp only [Pt.U, Pt.locs, Pt.cells, Pt.slots] at X' e1 e2 h1 h2 h3 st hcl
    subst h1; subst h2; subst h3
    exact Or.inr ⟨q, (T.setVm vm₁).calling g' mk As.toArray, t, U', L, E, ce, hT, X', hL, e1, e2, hq, hce, hcv, vx_cls hW₁ hcl, st⟩
end
end VXH
theorem vx_ofWH {l : Launch} {y : MethodName} {ws ws' : List Cond} {rm : Room} {Pc : Array Value → State → Prop} {Qc : Array Value → State → Outcome → State → Prop} {XC : String → State → State → Prop} {mc ms : Nat} {free : Addr → Prop} {cc : ByteArray} {maxL : Nat} {ret : Option FieldType} {hh : List (Nat × Nat × Nat × Nat)}
    (hy : plainName y.cls = true) (hw : ws = Cond.codeWith y cc maxL ret hh :: ws')
    (body : ∀ p e s m args below meth c s₁, BodyLoose p l y (headSpec ws rm) cc maxL ret e s m args below meth c s₁ → c.maxLocals = maxL → Pc args s →
      W p l e (headSpec ws rm).room s m args below meth c s.heap [] 0 0 (vx_MQ below Qc XC args s mc ms free) (entryFrame m args maxL)) : vx_Met l y ws rm Pc Qc XC mc ms free := by
  refine MetFree.of_bodyS (code := cc) (maxLocals := maxL) (ret := ret) hy ?_ ?_
  · intro args s m h hn
    obtain ⟨m9, meth, c, hn9, h1, h2, h3, h4, -, h5, h6, -⟩ := Cond.codeWith_spec (atoms_spec (ws := ws) h _ (by rw [hw]; exact List.mem_cons_self))
    cases hn.symm.trans hn9
    exact ⟨meth, c, h1, h2, h3, h4, h5, h6⟩
  · intro p e s m args below meth c s₁ B hml hP _
    have hh0 : s₁.heap = s.heap := by rw [B.state]; rfl
    obtain ⟨t, a1, o, b1, b2, b3⟩ := body p e s m args below meth c s₁ B hml hP s₁ hh0 (Stand.of_body B)
    exact ⟨t, o, a1, b1, b2, b3⟩
/-! ===== END ===== -/

def RX0 : String := "CollectorHouse$Ages"
def TX0 : u_T := fun k => match k with
  | 0 => ("CollectorHouse$Collector", "store", "LCollectorHouse$Store;", true)
  | 1 => ("CollectorHouse$Collector", "walk", "LCollectorHouse$Walk;", true)
  | 2 => ("CollectorHouse$Ages", "young", "I", false)
  | 3 => ("CollectorHouse$Ages", "old", "I", false)
  | 4 => ("CollectorHouse$Ages", "lastAge", "I", false)
  | 5 => ("CollectorHouse$Ages", "card", "I", false)
  | 6 => ("CollectorHouse$Ages", "oldTop", "I", false)
  | 7 => ("CollectorHouse$Ages", "start", "I", false)
  | 8 => ("CollectorHouse$Ages", "top", "I", false)
  | _ => ("CollectorHouse$Ages", "dirty", "[I", true)
def tyX0 : Nat → FieldType := fun k => match k with
  | 0 => .object "CollectorHouse$Store"
  | 1 => .object "CollectorHouse$Walk"
  | 2 => .int
  | 3 => .int
  | 4 => .int
  | 5 => .int
  | 6 => .int
  | 7 => .int
  | 8 => .int
  | _ => .array .int
theorem nmX0 : ∀ a, a < 10 → ∀ b, b < 10 → a ≠ b → (TX0 a).2.1 ≠ (TX0 b).2.1 := by decide +kernel
theorem tyX0_ok : ∀ k, k < 10 → parseFieldDescriptor (TX0 k).2.2.1 = some (tyX0 k) := by decide +kernel
abbrev cX0_init : ByteArray := prog_2_method_1_code
def yX0_init : MethodName := ⟨RX0, "<init>", "(LCollectorHouse$Store;LCollectorHouse$Walk;)V"⟩
abbrev cX0_open : ByteArray := prog_2_method_2_code
def yX0_open : MethodName := ⟨RX0, "open", "([I)V"⟩
abbrev cX0_total : ByteArray := prog_2_method_3_code
def yX0_total : MethodName := ⟨RX0, "total", "()I"⟩
abbrev cX0_findRoom : ByteArray := prog_2_method_4_code
def yX0_findRoom : MethodName := ⟨RX0, "findRoom", "(I)I"⟩
abbrev cX0_findOldRoom : ByteArray := prog_2_method_5_code
def yX0_findOldRoom : MethodName := ⟨RX0, "findOldRoom", "(I)I"⟩
abbrev cX0_hasYoungRoom : ByteArray := prog_2_method_6_code
def yX0_hasYoungRoom : MethodName := ⟨RX0, "hasYoungRoom", "(I)Z"⟩
abbrev cX0_noteMade : ByteArray := prog_2_method_7_code
def yX0_noteMade : MethodName := ⟨RX0, "noteMade", "(LCollectorHouse$Thing;)V"⟩
abbrev cX0_cleanAll : ByteArray := prog_2_method_8_code
def yX0_cleanAll : MethodName := ⟨RX0, "cleanAll", "()I"⟩
abbrev cX0_cleanOld : ByteArray := prog_2_method_9_code
def yX0_cleanOld : MethodName := ⟨RX0, "cleanOld", "()I"⟩
abbrev cX0_cleanYoung : ByteArray := prog_2_method_10_code
def yX0_cleanYoung : MethodName := ⟨RX0, "cleanYoung", "()I"⟩
abbrev cX0_wordsGrowingOld : ByteArray := prog_2_method_11_code
def yX0_wordsGrowingOld : MethodName := ⟨RX0, "wordsGrowingOld", "()I"⟩
abbrev cX0_comeFromDirty : ByteArray := prog_2_method_12_code
def yX0_comeFromDirty : MethodName := ⟨RX0, "comeFromDirty", "()V"⟩
abbrev cX0_comeFromDirtyWords : ByteArray := prog_2_method_13_code
def yX0_comeFromDirtyWords : MethodName := ⟨RX0, "comeFromDirtyWords", "(LCollectorHouse$Thing;)V"⟩
abbrev cX0_moveKept : ByteArray := prog_2_method_14_code
def yX0_moveKept : MethodName := ⟨RX0, "moveKept", "()V"⟩
abbrev cX0_moveOlder : ByteArray := prog_2_method_15_code
def yX0_moveOlder : MethodName := ⟨RX0, "moveOlder", "(LCollectorHouse$Thing;)V"⟩
abbrev cX0_findDirty : ByteArray := prog_2_method_16_code
def yX0_findDirty : MethodName := ⟨RX0, "findDirty", "()V"⟩
abbrev cX0_isYoung : ByteArray := prog_2_method_17_code
def yX0_isYoung : MethodName := ⟨RX0, "isYoung", "(LCollectorHouse$Thing;)Z"⟩
abbrev cX0_cardOf : ByteArray := prog_2_method_18_code
def yX0_cardOf : MethodName := ⟨RX0, "cardOf", "(LCollectorHouse$Thing;I)I"⟩
abbrev cX0_noteReference : ByteArray := prog_2_method_19_code
def yX0_noteReference : MethodName := ⟨RX0, "noteReference", "(LCollectorHouse$Thing;ILCollectorHouse$Thing;)V"⟩
abbrev cX0_canHold : ByteArray := prog_2_method_20_code
def yX0_canHold : MethodName := ⟨RX0, "canHold", "(LCollectorHouse$Thing;)Z"⟩
abbrev cX0_specials : ByteArray := prog_2_method_21_code
def yX0_specials : MethodName := ⟨RX0, "specials", "()I"⟩
abbrev cX0_topPlace : ByteArray := prog_2_method_22_code
def yX0_topPlace : MethodName := ⟨RX0, "topPlace", "()I"⟩
abbrev cX0_oldTopOrRegion : ByteArray := prog_2_method_23_code
def yX0_oldTopOrRegion : MethodName := ⟨RX0, "oldTopOrRegion", "()I"⟩
def RX1 : String := "CollectorHouse$Collector"
def TX1 : u_T := fun k => match k with
  | _ => ("", "", "", false)
def tyX1 : Nat → FieldType := fun k => match k with
  | _ => .int
theorem nmX1 : ∀ a, a < 0 → ∀ b, b < 0 → a ≠ b → (TX1 a).2.1 ≠ (TX1 b).2.1 := by decide +kernel
theorem tyX1_ok : ∀ k, k < 0 → parseFieldDescriptor (TX1 k).2.2.1 = some (tyX1 k) := by decide +kernel
abbrev cX1_init : ByteArray := prog_3_method_1_code
def yX1_init : MethodName := ⟨RX1, "<init>", "(LCollectorHouse$Store;LCollectorHouse$Walk;)V"⟩
abbrev cX1_noteChange : ByteArray := prog_3_method_7_code
def yX1_noteChange : MethodName := ⟨RX1, "noteChange", "(LCollectorHouse$Thing;LCollectorHouse$Thing;)V"⟩
abbrev cX1_noteFewer : ByteArray := prog_3_method_8_code
def yX1_noteFewer : MethodName := ⟨RX1, "noteFewer", "(LCollectorHouse$Thing;)V"⟩
abbrev cX1_noteReference : ByteArray := prog_3_method_9_code
def yX1_noteReference : MethodName := ⟨RX1, "noteReference", "(LCollectorHouse$Thing;ILCollectorHouse$Thing;)V"⟩
abbrev cX1_noteStrong : ByteArray := prog_3_method_10_code
def yX1_noteStrong : MethodName := ⟨RX1, "noteStrong", "(LCollectorHouse$Thing;)V"⟩
abbrev cX1_canHold : ByteArray := prog_3_method_11_code
def yX1_canHold : MethodName := ⟨RX1, "canHold", "(LCollectorHouse$Thing;)Z"⟩
abbrev cX1_countOf : ByteArray := prog_3_method_12_code
def yX1_countOf : MethodName := ⟨RX1, "countOf", "(LCollectorHouse$Thing;)I"⟩
abbrev cX1_colourOf : ByteArray := prog_3_method_13_code
def yX1_colourOf : MethodName := ⟨RX1, "colourOf", "(LCollectorHouse$Thing;)I"⟩
abbrev cX1_specials : ByteArray := prog_3_method_14_code
def yX1_specials : MethodName := ⟨RX1, "specials", "()I"⟩
abbrev cX1_topPlace : ByteArray := prog_3_method_15_code
def yX1_topPlace : MethodName := ⟨RX1, "topPlace", "()I"⟩
abbrev cX1_isMarking : ByteArray := prog_3_method_16_code
def yX1_isMarking : MethodName := ⟨RX1, "isMarking", "()Z"⟩
abbrev cX1_oldTopOrRegion : ByteArray := prog_3_method_17_code
def yX1_oldTopOrRegion : MethodName := ⟨RX1, "oldTopOrRegion", "()I"⟩
abbrev cX1_removeUnreached : ByteArray := prog_3_method_18_code
def yX1_removeUnreached : MethodName := ⟨RX1, "removeUnreached", "()I"⟩
abbrev cX1_slideDown : ByteArray := prog_3_method_19_code
def yX1_slideDown : MethodName := ⟨RX1, "slideDown", "(I)I"⟩
def RX2 : String := "CollectorHouse$Counts"
def TX2 : u_T := fun k => match k with
  | 0 => ("CollectorHouse$Sweep", "room", "I", false)
  | 1 => ("CollectorHouse$Sweep", "form", "I", false)
  | 2 => ("CollectorHouse$Sweep", "lastEnd", "I", false)
  | 3 => ("CollectorHouse$Collector", "store", "LCollectorHouse$Store;", true)
  | 4 => ("CollectorHouse$Collector", "walk", "LCollectorHouse$Walk;", true)
  | 5 => ("CollectorHouse$Counts", "going", "[LCollectorHouse$Thing;", true)
  | 6 => ("CollectorHouse$Counts", "nextWord", "[I", true)
  | _ => ("CollectorHouse$Counts", "depth", "I", false)
def tyX2 : Nat → FieldType := fun k => match k with
  | 0 => .int
  | 1 => .int
  | 2 => .int
  | 3 => .object "CollectorHouse$Store"
  | 4 => .object "CollectorHouse$Walk"
  | 5 => .array (.object "CollectorHouse$Thing")
  | 6 => .array .int
  | _ => .int
theorem nmX2 : ∀ a, a < 8 → ∀ b, b < 8 → a ≠ b → (TX2 a).2.1 ≠ (TX2 b).2.1 := by decide +kernel
theorem tyX2_ok : ∀ k, k < 8 → parseFieldDescriptor (TX2 k).2.2.1 = some (tyX2 k) := by decide +kernel
abbrev cX2_init : ByteArray := prog_4_method_1_code
def yX2_init : MethodName := ⟨RX2, "<init>", "(LCollectorHouse$Store;LCollectorHouse$Walk;)V"⟩
abbrev cX2_countOf : ByteArray := prog_4_method_2_code
def yX2_countOf : MethodName := ⟨RX2, "countOf", "(LCollectorHouse$Thing;)I"⟩
abbrev cX2_noteFewer : ByteArray := prog_4_method_3_code
def yX2_noteFewer : MethodName := ⟨RX2, "noteFewer", "(LCollectorHouse$Thing;)V"⟩
abbrev cX2_dropWord : ByteArray := prog_4_method_4_code
def yX2_dropWord : MethodName := ⟨RX2, "dropWord", "(LCollectorHouse$Thing;I)V"⟩
abbrev cX2_fallIfUncounted : ByteArray := prog_4_method_5_code
def yX2_fallIfUncounted : MethodName := ⟨RX2, "fallIfUncounted", "(LCollectorHouse$Thing;)V"⟩
def RX3 : String := "CollectorHouse$Halves"
def TX3 : u_T := fun k => match k with
  | 0 => ("CollectorHouse$Collector", "store", "LCollectorHouse$Store;", true)
  | 1 => ("CollectorHouse$Collector", "walk", "LCollectorHouse$Walk;", true)
  | 2 => ("CollectorHouse$Halves", "room", "I", false)
  | 3 => ("CollectorHouse$Halves", "start", "I", false)
  | _ => ("CollectorHouse$Halves", "top", "I", false)
def tyX3 : Nat → FieldType := fun k => match k with
  | 0 => .object "CollectorHouse$Store"
  | 1 => .object "CollectorHouse$Walk"
  | 2 => .int
  | 3 => .int
  | _ => .int
theorem nmX3 : ∀ a, a < 5 → ∀ b, b < 5 → a ≠ b → (TX3 a).2.1 ≠ (TX3 b).2.1 := by decide +kernel
theorem tyX3_ok : ∀ k, k < 5 → parseFieldDescriptor (TX3 k).2.2.1 = some (tyX3 k) := by decide +kernel
abbrev cX3_init : ByteArray := prog_5_method_1_code
def yX3_init : MethodName := ⟨RX3, "<init>", "(LCollectorHouse$Store;LCollectorHouse$Walk;)V"⟩
abbrev cX3_open : ByteArray := prog_5_method_2_code
def yX3_open : MethodName := ⟨RX3, "open", "([I)V"⟩
abbrev cX3_total : ByteArray := prog_5_method_3_code
def yX3_total : MethodName := ⟨RX3, "total", "()I"⟩
abbrev cX3_findRoom : ByteArray := prog_5_method_4_code
def yX3_findRoom : MethodName := ⟨RX3, "findRoom", "(I)I"⟩
abbrev cX3_hasRoom : ByteArray := prog_5_method_5_code
def yX3_hasRoom : MethodName := ⟨RX3, "hasRoom", "(I)Z"⟩
abbrev cX3_noteMade : ByteArray := prog_5_method_6_code
def yX3_noteMade : MethodName := ⟨RX3, "noteMade", "(LCollectorHouse$Thing;)V"⟩
abbrev cX3_cleanAll : ByteArray := prog_5_method_7_code
def yX3_cleanAll : MethodName := ⟨RX3, "cleanAll", "()I"⟩
abbrev cX3_canHold : ByteArray := prog_5_method_8_code
def yX3_canHold : MethodName := ⟨RX3, "canHold", "(LCollectorHouse$Thing;)Z"⟩
abbrev cX3_topPlace : ByteArray := prog_5_method_9_code
def yX3_topPlace : MethodName := ⟨RX3, "topPlace", "()I"⟩
def RX4 : String := "CollectorHouse$Regions"
def TX4 : u_T := fun k => match k with
  | 0 => ("CollectorHouse$Collector", "store", "LCollectorHouse$Store;", true)
  | 1 => ("CollectorHouse$Collector", "walk", "LCollectorHouse$Walk;", true)
  | 2 => ("CollectorHouse$Regions", "size", "I", false)
  | 3 => ("CollectorHouse$Regions", "regions", "I", false)
  | 4 => ("CollectorHouse$Regions", "share", "I", false)
  | 5 => ("CollectorHouse$Regions", "present", "I", false)
  | 6 => ("CollectorHouse$Regions", "target", "I", false)
  | 7 => ("CollectorHouse$Regions", "tops", "[I", true)
  | _ => ("CollectorHouse$Regions", "leaving", "[I", true)
def tyX4 : Nat → FieldType := fun k => match k with
  | 0 => .object "CollectorHouse$Store"
  | 1 => .object "CollectorHouse$Walk"
  | 2 => .int
  | 3 => .int
  | 4 => .int
  | 5 => .int
  | 6 => .int
  | 7 => .array .int
  | _ => .array .int
theorem nmX4 : ∀ a, a < 9 → ∀ b, b < 9 → a ≠ b → (TX4 a).2.1 ≠ (TX4 b).2.1 := by decide +kernel
theorem tyX4_ok : ∀ k, k < 9 → parseFieldDescriptor (TX4 k).2.2.1 = some (tyX4 k) := by decide +kernel
abbrev cX4_init : ByteArray := prog_6_method_1_code
def yX4_init : MethodName := ⟨RX4, "<init>", "(LCollectorHouse$Store;LCollectorHouse$Walk;)V"⟩
abbrev cX4_open : ByteArray := prog_6_method_2_code
def yX4_open : MethodName := ⟨RX4, "open", "([I)V"⟩
abbrev cX4_total : ByteArray := prog_6_method_3_code
def yX4_total : MethodName := ⟨RX4, "total", "()I"⟩
abbrev cX4_findRoom : ByteArray := prog_6_method_4_code
def yX4_findRoom : MethodName := ⟨RX4, "findRoom", "(I)I"⟩
abbrev cX4_fits : ByteArray := prog_6_method_5_code
def yX4_fits : MethodName := ⟨RX4, "fits", "(II)Z"⟩
abbrev cX4_topOf : ByteArray := prog_6_method_6_code
def yX4_topOf : MethodName := ⟨RX4, "topOf", "(I)I"⟩
abbrev cX4_raiseTop : ByteArray := prog_6_method_7_code
def yX4_raiseTop : MethodName := ⟨RX4, "raiseTop", "(II)V"⟩
abbrev cX4_orElse : ByteArray := prog_6_method_8_code
def yX4_orElse : MethodName := ⟨RX4, "orElse", "(II)I"⟩
abbrev cX4_leastEmpty : ByteArray := prog_6_method_9_code
def yX4_leastEmpty : MethodName := ⟨RX4, "leastEmpty", "()I"⟩
abbrev cX4_noteMade : ByteArray := prog_6_method_10_code
def yX4_noteMade : MethodName := ⟨RX4, "noteMade", "(LCollectorHouse$Thing;)V"⟩
abbrev cX4_cleanAll : ByteArray := prog_6_method_11_code
def yX4_cleanAll : MethodName := ⟨RX4, "cleanAll", "()I"⟩
abbrev cX4_regionOf : ByteArray := prog_6_method_12_code
def yX4_regionOf : MethodName := ⟨RX4, "regionOf", "(LCollectorHouse$Thing;)I"⟩
abbrev cX4_sumKept : ByteArray := prog_6_method_13_code
def yX4_sumKept : MethodName := ⟨RX4, "sumKept", "()V"⟩
abbrev cX4_emptyWhereNothingIsLeft : ByteArray := prog_6_method_14_code
def yX4_emptyWhereNothingIsLeft : MethodName := ⟨RX4, "emptyWhereNothingIsLeft", "()V"⟩
abbrev cX4_chooseLeaving : ByteArray := prog_6_method_15_code
def yX4_chooseLeaving : MethodName := ⟨RX4, "chooseLeaving", "()V"⟩
abbrev cX4_fewestLeaving : ByteArray := prog_6_method_16_code
def yX4_fewestLeaving : MethodName := ⟨RX4, "fewestLeaving", "()I"⟩
abbrev cX4_moveAll : ByteArray := prog_6_method_17_code
def yX4_moveAll : MethodName := ⟨RX4, "moveAll", "(I)Z"⟩
abbrev cX4_moveOut : ByteArray := prog_6_method_18_code
def yX4_moveOut : MethodName := ⟨RX4, "moveOut", "(LCollectorHouse$Thing;)Z"⟩
abbrev cX4_specials : ByteArray := prog_6_method_19_code
def yX4_specials : MethodName := ⟨RX4, "specials", "()I"⟩
abbrev cX4_topPlace : ByteArray := prog_6_method_20_code
def yX4_topPlace : MethodName := ⟨RX4, "topPlace", "()I"⟩
abbrev cX4_oldTopOrRegion : ByteArray := prog_6_method_21_code
def yX4_oldTopOrRegion : MethodName := ⟨RX4, "oldTopOrRegion", "()I"⟩
def RX5 : String := "CollectorHouse$Slide"
def TX5 : u_T := fun k => match k with
  | 0 => ("CollectorHouse$Collector", "store", "LCollectorHouse$Store;", true)
  | 1 => ("CollectorHouse$Collector", "walk", "LCollectorHouse$Walk;", true)
  | 2 => ("CollectorHouse$Slide", "room", "I", false)
  | _ => ("CollectorHouse$Slide", "top", "I", false)
def tyX5 : Nat → FieldType := fun k => match k with
  | 0 => .object "CollectorHouse$Store"
  | 1 => .object "CollectorHouse$Walk"
  | 2 => .int
  | _ => .int
theorem nmX5 : ∀ a, a < 4 → ∀ b, b < 4 → a ≠ b → (TX5 a).2.1 ≠ (TX5 b).2.1 := by decide +kernel
theorem tyX5_ok : ∀ k, k < 4 → parseFieldDescriptor (TX5 k).2.2.1 = some (tyX5 k) := by decide +kernel
abbrev cX5_init : ByteArray := prog_7_method_1_code
def yX5_init : MethodName := ⟨RX5, "<init>", "(LCollectorHouse$Store;LCollectorHouse$Walk;)V"⟩
abbrev cX5_open : ByteArray := prog_7_method_2_code
def yX5_open : MethodName := ⟨RX5, "open", "([I)V"⟩
abbrev cX5_total : ByteArray := prog_7_method_3_code
def yX5_total : MethodName := ⟨RX5, "total", "()I"⟩
abbrev cX5_findRoom : ByteArray := prog_7_method_4_code
def yX5_findRoom : MethodName := ⟨RX5, "findRoom", "(I)I"⟩
abbrev cX5_noteMade : ByteArray := prog_7_method_5_code
def yX5_noteMade : MethodName := ⟨RX5, "noteMade", "(LCollectorHouse$Thing;)V"⟩
abbrev cX5_cleanAll : ByteArray := prog_7_method_6_code
def yX5_cleanAll : MethodName := ⟨RX5, "cleanAll", "()I"⟩
abbrev cX5_topPlace : ByteArray := prog_7_method_7_code
def yX5_topPlace : MethodName := ⟨RX5, "topPlace", "()I"⟩
def RX6 : String := "CollectorHouse$Steps"
def TX6 : u_T := fun k => match k with
  | 0 => ("CollectorHouse$Sweep", "room", "I", false)
  | 1 => ("CollectorHouse$Sweep", "form", "I", false)
  | 2 => ("CollectorHouse$Sweep", "lastEnd", "I", false)
  | 3 => ("CollectorHouse$Collector", "store", "LCollectorHouse$Store;", true)
  | 4 => ("CollectorHouse$Collector", "walk", "LCollectorHouse$Walk;", true)
  | 5 => ("CollectorHouse$Steps", "marks", "LCollectorHouse$Walk;", true)
  | 6 => ("CollectorHouse$Steps", "rate", "I", false)
  | 7 => ("CollectorHouse$Steps", "barrier", "I", false)
  | _ => ("CollectorHouse$Steps", "marking", "Z", false)
def tyX6 : Nat → FieldType := fun k => match k with
  | 0 => .int
  | 1 => .int
  | 2 => .int
  | 3 => .object "CollectorHouse$Store"
  | 4 => .object "CollectorHouse$Walk"
  | 5 => .object "CollectorHouse$Walk"
  | 6 => .int
  | 7 => .int
  | _ => .boolean
theorem nmX6 : ∀ a, a < 9 → ∀ b, b < 9 → a ≠ b → (TX6 a).2.1 ≠ (TX6 b).2.1 := by decide +kernel
theorem tyX6_ok : ∀ k, k < 9 → parseFieldDescriptor (TX6 k).2.2.1 = some (tyX6 k) := by decide +kernel
abbrev cX6_init : ByteArray := prog_8_method_1_code
def yX6_init : MethodName := ⟨RX6, "<init>", "(LCollectorHouse$Store;LCollectorHouse$Walk;)V"⟩
abbrev cX6_open : ByteArray := prog_8_method_2_code
def yX6_open : MethodName := ⟨RX6, "open", "([I)V"⟩
abbrev cX6_findRoom : ByteArray := prog_8_method_3_code
def yX6_findRoom : MethodName := ⟨RX6, "findRoom", "(I)I"⟩
abbrev cX6_noteMade : ByteArray := prog_8_method_4_code
def yX6_noteMade : MethodName := ⟨RX6, "noteMade", "(LCollectorHouse$Thing;)V"⟩
abbrev cX6_cleanAll : ByteArray := prog_8_method_5_code
def yX6_cleanAll : MethodName := ⟨RX6, "cleanAll", "()I"⟩
abbrev cX6_goOn : ByteArray := prog_8_method_6_code
def yX6_goOn : MethodName := ⟨RX6, "goOn", "(I)I"⟩
abbrev cX6_begin : ByteArray := prog_8_method_7_code
def yX6_begin : MethodName := ⟨RX6, "begin", "()V"⟩
abbrev cX6_newsCame : ByteArray := prog_8_method_8_code
def yX6_newsCame : MethodName := ⟨RX6, "newsCame", "()Z"⟩
abbrev cX6_finish : ByteArray := prog_8_method_9_code
def yX6_finish : MethodName := ⟨RX6, "finish", "()I"⟩
abbrev cX6_noteChange : ByteArray := prog_8_method_10_code
def yX6_noteChange : MethodName := ⟨RX6, "noteChange", "(LCollectorHouse$Thing;LCollectorHouse$Thing;)V"⟩
abbrev cX6_noteStrong : ByteArray := prog_8_method_11_code
def yX6_noteStrong : MethodName := ⟨RX6, "noteStrong", "(LCollectorHouse$Thing;)V"⟩
abbrev cX6_colourOf : ByteArray := prog_8_method_12_code
def yX6_colourOf : MethodName := ⟨RX6, "colourOf", "(LCollectorHouse$Thing;)I"⟩
abbrev cX6_specials : ByteArray := prog_8_method_13_code
def yX6_specials : MethodName := ⟨RX6, "specials", "()I"⟩
abbrev cX6_isMarking : ByteArray := prog_8_method_14_code
def yX6_isMarking : MethodName := ⟨RX6, "isMarking", "()Z"⟩
def RX7 : String := "CollectorHouse$Store"
def TX7 : u_T := fun k => match k with
  | 0 => ("CollectorHouse$Store", "things", "[LCollectorHouse$Thing;", true)
  | 1 => ("CollectorHouse$Store", "words", "[I", true)
  | 2 => ("CollectorHouse$Store", "roots", "[I", true)
  | 3 => ("CollectorHouse$Store", "weaks", "[I", true)
  | 4 => ("CollectorHouse$Store", "wishes", "[I", true)
  | 5 => ("CollectorHouse$Store", "wishCount", "I", false)
  | 6 => ("CollectorHouse$Store", "given", "I", false)
  | 7 => ("CollectorHouse$Store", "live", "I", false)
  | 8 => ("CollectorHouse$Store", "used", "I", false)
  | 9 => ("CollectorHouse$Store", "cleanings", "I", false)
  | 10 => ("CollectorHouse$Store", "moved", "I", false)
  | 11 => ("CollectorHouse$Store", "freed", "I", false)
  | _ => ("CollectorHouse$Store", "looked", "I", false)
def tyX7 : Nat → FieldType := fun k => match k with
  | 0 => .array (.object "CollectorHouse$Thing")
  | 1 => .array .int
  | 2 => .array .int
  | 3 => .array .int
  | 4 => .array .int
  | 5 => .int
  | 6 => .int
  | 7 => .int
  | 8 => .int
  | 9 => .int
  | 10 => .int
  | 11 => .int
  | _ => .int
theorem nmX7 : ∀ a, a < 13 → ∀ b, b < 13 → a ≠ b → (TX7 a).2.1 ≠ (TX7 b).2.1 := by decide +kernel
theorem tyX7_ok : ∀ k, k < 13 → parseFieldDescriptor (TX7 k).2.2.1 = some (tyX7 k) := by decide +kernel
abbrev cX7_init : ByteArray := prog_9_method_1_code
def yX7_init : MethodName := ⟨RX7, "<init>", "()V"⟩
abbrev cX7_forgetAll : ByteArray := prog_9_method_2_code
def yX7_forgetAll : MethodName := ⟨RX7, "forgetAll", "()V"⟩
abbrev cX7_thingAt : ByteArray := prog_9_method_3_code
def yX7_thingAt : MethodName := ⟨RX7, "thingAt", "(I)LCollectorHouse$Thing;"⟩
abbrev cX7_thingFrom : ByteArray := prog_9_method_4_code
def yX7_thingFrom : MethodName := ⟨RX7, "thingFrom", "(I)LCollectorHouse$Thing;"⟩
abbrev cX7_add : ByteArray := prog_9_method_5_code
def yX7_add : MethodName := ⟨RX7, "add", "(LCollectorHouse$Thing;)V"⟩
abbrev cX7_wordOf : ByteArray := prog_9_method_6_code
def yX7_wordOf : MethodName := ⟨RX7, "wordOf", "(LCollectorHouse$Thing;I)I"⟩
abbrev cX7_changeInt : ByteArray := prog_9_method_7_code
def yX7_changeInt : MethodName := ⟨RX7, "changeInt", "(LCollectorHouse$Thing;II)I"⟩
abbrev cX7_referenceOf : ByteArray := prog_9_method_8_code
def yX7_referenceOf : MethodName := ⟨RX7, "referenceOf", "(LCollectorHouse$Thing;I)LCollectorHouse$Thing;"⟩
abbrev cX7_changeReference : ByteArray := prog_9_method_9_code
def yX7_changeReference : MethodName := ⟨RX7, "changeReference", "(LCollectorHouse$Thing;ILCollectorHouse$Thing;)LCollectorHouse$Thing;"⟩
abbrev cX7_changeRoot : ByteArray := prog_9_method_10_code
def yX7_changeRoot : MethodName := ⟨RX7, "changeRoot", "(ILCollectorHouse$Thing;)LCollectorHouse$Thing;"⟩
abbrev cX7_changeCounts : ByteArray := prog_9_method_11_code
def yX7_changeCounts : MethodName := ⟨RX7, "changeCounts", "(LCollectorHouse$Thing;LCollectorHouse$Thing;)V"⟩
abbrev cX7_changeHolds : ByteArray := prog_9_method_12_code
def yX7_changeHolds : MethodName := ⟨RX7, "changeHolds", "(LCollectorHouse$Thing;I)V"⟩
abbrev cX7_grant : ByteArray := prog_9_method_13_code
def yX7_grant : MethodName := ⟨RX7, "grant", "(LCollectorHouse$Thing;)V"⟩
abbrev cX7_takeWish : ByteArray := prog_9_method_14_code
def yX7_takeWish : MethodName := ⟨RX7, "takeWish", "()LCollectorHouse$Thing;"⟩
abbrev cX7_clearWeak : ByteArray := prog_9_method_15_code
def yX7_clearWeak : MethodName := ⟨RX7, "clearWeak", "(LCollectorHouse$Thing;)V"⟩
abbrev cX7_remove : ByteArray := prog_9_method_16_code
def yX7_remove : MethodName := ⟨RX7, "remove", "(LCollectorHouse$Thing;)V"⟩
abbrev cX7_freeWords : ByteArray := prog_9_method_17_code
def yX7_freeWords : MethodName := ⟨RX7, "freeWords", "(II)V"⟩
abbrev cX7_move : ByteArray := prog_9_method_18_code
def yX7_move : MethodName := ⟨RX7, "move", "(LCollectorHouse$Thing;I)V"⟩
abbrev cX7_grantWishes : ByteArray := prog_9_method_19_code
def yX7_grantWishes : MethodName := ⟨RX7, "grantWishes", "(LCollectorHouse$Walk;)V"⟩
abbrev cX7_removeOthers : ByteArray := prog_9_method_20_code
def yX7_removeOthers : MethodName := ⟨RX7, "removeOthers", "(LCollectorHouse$Walk;)I"⟩
def RX8 : String := "CollectorHouse$Sweep"
def TX8 : u_T := fun k => match k with
  | 0 => ("CollectorHouse$Collector", "store", "LCollectorHouse$Store;", true)
  | 1 => ("CollectorHouse$Collector", "walk", "LCollectorHouse$Walk;", true)
  | 2 => ("CollectorHouse$Sweep", "room", "I", false)
  | 3 => ("CollectorHouse$Sweep", "form", "I", false)
  | _ => ("CollectorHouse$Sweep", "lastEnd", "I", false)
def tyX8 : Nat → FieldType := fun k => match k with
  | 0 => .object "CollectorHouse$Store"
  | 1 => .object "CollectorHouse$Walk"
  | 2 => .int
  | 3 => .int
  | _ => .int
theorem nmX8 : ∀ a, a < 5 → ∀ b, b < 5 → a ≠ b → (TX8 a).2.1 ≠ (TX8 b).2.1 := by decide +kernel
theorem tyX8_ok : ∀ k, k < 5 → parseFieldDescriptor (TX8 k).2.2.1 = some (tyX8 k) := by decide +kernel
abbrev cX8_init : ByteArray := prog_10_method_1_code
def yX8_init : MethodName := ⟨RX8, "<init>", "(LCollectorHouse$Store;LCollectorHouse$Walk;)V"⟩
abbrev cX8_open : ByteArray := prog_10_method_2_code
def yX8_open : MethodName := ⟨RX8, "open", "([I)V"⟩
abbrev cX8_total : ByteArray := prog_10_method_3_code
def yX8_total : MethodName := ⟨RX8, "total", "()I"⟩
abbrev cX8_findRoom : ByteArray := prog_10_method_4_code
def yX8_findRoom : MethodName := ⟨RX8, "findRoom", "(I)I"⟩
abbrev cX8_noteMade : ByteArray := prog_10_method_5_code
def yX8_noteMade : MethodName := ⟨RX8, "noteMade", "(LCollectorHouse$Thing;)V"⟩
abbrev cX8_cleanAll : ByteArray := prog_10_method_6_code
def yX8_cleanAll : MethodName := ⟨RX8, "cleanAll", "()I"⟩
abbrev cX8_blockPlace : ByteArray := prog_10_method_7_code
def yX8_blockPlace : MethodName := ⟨RX8, "blockPlace", "(I)I"⟩
abbrev cX8_freeFrom : ByteArray := prog_10_method_8_code
def yX8_freeFrom : MethodName := ⟨RX8, "freeFrom", "(I)I"⟩
abbrev cX8_freeEnd : ByteArray := prog_10_method_9_code
def yX8_freeEnd : MethodName := ⟨RX8, "freeEnd", "(I)I"⟩
abbrev cX8_fit : ByteArray := prog_10_method_10_code
def yX8_fit : MethodName := ⟨RX8, "fit", "(I)I"⟩
abbrev cX8_fitFirst : ByteArray := prog_10_method_11_code
def yX8_fitFirst : MethodName := ⟨RX8, "fitFirst", "(III)I"⟩
abbrev cX8_fitNext : ByteArray := prog_10_method_12_code
def yX8_fitNext : MethodName := ⟨RX8, "fitNext", "(I)I"⟩
abbrev cX8_fitByLength : ByteArray := prog_10_method_13_code
def yX8_fitByLength : MethodName := ⟨RX8, "fitByLength", "(IZ)I"⟩
def RX9 : String := "CollectorHouse$Thing"
def TX9 : u_T := fun k => match k with
  | 0 => ("CollectorHouse$Thing", "number", "I", true)
  | 1 => ("CollectorHouse$Thing", "kind", "I", true)
  | 2 => ("CollectorHouse$Thing", "size", "I", true)
  | 3 => ("CollectorHouse$Thing", "references", "J", true)
  | 4 => ("CollectorHouse$Thing", "place", "I", false)
  | 5 => ("CollectorHouse$Thing", "age", "I", false)
  | 6 => ("CollectorHouse$Thing", "count", "I", false)
  | 7 => ("CollectorHouse$Thing", "holds", "I", false)
  | _ => ("CollectorHouse$Thing", "wished", "Z", false)
def tyX9 : Nat → FieldType := fun k => match k with
  | 0 => .int
  | 1 => .int
  | 2 => .int
  | 3 => .long
  | 4 => .int
  | 5 => .int
  | 6 => .int
  | 7 => .int
  | _ => .boolean
theorem nmX9 : ∀ a, a < 9 → ∀ b, b < 9 → a ≠ b → (TX9 a).2.1 ≠ (TX9 b).2.1 := by decide +kernel
theorem tyX9_ok : ∀ k, k < 9 → parseFieldDescriptor (TX9 k).2.2.1 = some (tyX9 k) := by decide +kernel
abbrev cX9_init : ByteArray := prog_11_method_1_code
def yX9_init : MethodName := ⟨RX9, "<init>", "(IIIJI)V"⟩
abbrev cX9_hasWord : ByteArray := prog_11_method_2_code
def yX9_hasWord : MethodName := ⟨RX9, "hasWord", "(I)Z"⟩
abbrev cX9_isReference : ByteArray := prog_11_method_3_code
def yX9_isReference : MethodName := ⟨RX9, "isReference", "(I)Z"⟩
def RX10 : String := "CollectorHouse$Walk"
def TX10 : u_T := fun k => match k with
  | 0 => ("CollectorHouse$Walk", "store", "LCollectorHouse$Store;", true)
  | 1 => ("CollectorHouse$Walk", "queue", "[I", true)
  | 2 => ("CollectorHouse$Walk", "colours", "[I", true)
  | 3 => ("CollectorHouse$Walk", "head", "I", false)
  | 4 => ("CollectorHouse$Walk", "tail", "I", false)
  | _ => ("CollectorHouse$Walk", "floor", "I", false)
def tyX10 : Nat → FieldType := fun k => match k with
  | 0 => .object "CollectorHouse$Store"
  | 1 => .array .int
  | 2 => .array .int
  | 3 => .int
  | 4 => .int
  | _ => .int
theorem nmX10 : ∀ a, a < 6 → ∀ b, b < 6 → a ≠ b → (TX10 a).2.1 ≠ (TX10 b).2.1 := by decide +kernel
theorem tyX10_ok : ∀ k, k < 6 → parseFieldDescriptor (TX10 k).2.2.1 = some (tyX10 k) := by decide +kernel
abbrev cX10_init : ByteArray := prog_12_method_1_code
def yX10_init : MethodName := ⟨RX10, "<init>", "(LCollectorHouse$Store;)V"⟩
abbrev cX10_restart : ByteArray := prog_12_method_2_code
def yX10_restart : MethodName := ⟨RX10, "restart", "(I)V"⟩
abbrev cX10_reachAll : ByteArray := prog_12_method_3_code
def yX10_reachAll : MethodName := ⟨RX10, "reachAll", "()V"⟩
abbrev cX10_keeps : ByteArray := prog_12_method_4_code
def yX10_keeps : MethodName := ⟨RX10, "keeps", "(LCollectorHouse$Thing;)Z"⟩
abbrev cX10_colourOf : ByteArray := prog_12_method_5_code
def yX10_colourOf : MethodName := ⟨RX10, "colourOf", "(LCollectorHouse$Thing;)I"⟩
abbrev cX10_blacken : ByteArray := prog_12_method_6_code
def yX10_blacken : MethodName := ⟨RX10, "blacken", "(LCollectorHouse$Thing;)V"⟩
abbrev cX10_comes : ByteArray := prog_12_method_7_code
def yX10_comes : MethodName := ⟨RX10, "comes", "(LCollectorHouse$Thing;)V"⟩
abbrev cX10_comeFromRoots : ByteArray := prog_12_method_8_code
def yX10_comeFromRoots : MethodName := ⟨RX10, "comeFromRoots", "()V"⟩
abbrev cX10_isEmpty : ByteArray := prog_12_method_9_code
def yX10_isEmpty : MethodName := ⟨RX10, "isEmpty", "()Z"⟩
abbrev cX10_thingInQueue : ByteArray := prog_12_method_10_code
def yX10_thingInQueue : MethodName := ⟨RX10, "thingInQueue", "(I)LCollectorHouse$Thing;"⟩
abbrev cX10_spread : ByteArray := prog_12_method_11_code
def yX10_spread : MethodName := ⟨RX10, "spread", "(I)I"⟩
def RX11 : String := "CollectorHouse"
def TX11 : u_T := fun k => match k with
  | 0 => ("CollectorHouse", "tape", "[B", true)
  | 1 => ("CollectorHouse", "tapeLength", "I", false)
  | 2 => ("CollectorHouse", "tokenStart", "I", false)
  | 3 => ("CollectorHouse", "tokenEnd", "I", false)
  | 4 => ("CollectorHouse", "told", "[I", true)
  | 5 => ("CollectorHouse", "kindWords", "[I", true)
  | 6 => ("CollectorHouse", "kindReferences", "[I", true)
  | 7 => ("CollectorHouse", "kinds", "I", false)
  | 8 => ("CollectorHouse", "store", "LCollectorHouse$Store;", true)
  | 9 => ("CollectorHouse", "walk", "LCollectorHouse$Walk;", true)
  | 10 => ("CollectorHouse", "collectors", "[LCollectorHouse$Collector;", true)
  | _ => ("CollectorHouse", "present", "LCollectorHouse$Collector;", false)
def tyX11 : Nat → FieldType := fun k => match k with
  | 0 => .array .byte
  | 1 => .int
  | 2 => .int
  | 3 => .int
  | 4 => .array .int
  | 5 => .array .int
  | 6 => .array .int
  | 7 => .int
  | 8 => .object "CollectorHouse$Store"
  | 9 => .object "CollectorHouse$Walk"
  | 10 => .array (.object "CollectorHouse$Collector")
  | _ => .object "CollectorHouse$Collector"
theorem nmX11 : ∀ a, a < 12 → ∀ b, b < 12 → a ≠ b → (TX11 a).2.1 ≠ (TX11 b).2.1 := by decide +kernel
theorem tyX11_ok : ∀ k, k < 12 → parseFieldDescriptor (TX11 k).2.2.1 = some (tyX11 k) := by decide +kernel
abbrev cX11_init : ByteArray := prog_1_method_1_code
def yX11_init : MethodName := ⟨RX11, "<init>", "()V"⟩
abbrev cX11_feed : ByteArray := prog_1_method_2_code
def yX11_feed : MethodName := ⟨RX11, "feed", "(IIIII)I"⟩
abbrev cX11_end : ByteArray := prog_1_method_3_code
def yX11_end : MethodName := ⟨RX11, "end", "(I)I"⟩
abbrev cX11_kind : ByteArray := prog_1_method_4_code
def yX11_kind : MethodName := ⟨RX11, "kind", "(II)I"⟩
abbrev cX11_heap : ByteArray := prog_1_method_5_code
def yX11_heap : MethodName := ⟨RX11, "heap", "()I"⟩
abbrev cX11_make : ByteArray := prog_1_method_6_code
def yX11_make : MethodName := ⟨RX11, "make", "(II)I"⟩
abbrev cX11_row : ByteArray := prog_1_method_7_code
def yX11_row : MethodName := ⟨RX11, "row", "(ZII)I"⟩
abbrev cX11_put : ByteArray := prog_1_method_8_code
def yX11_put : MethodName := ⟨RX11, "put", "(III)I"⟩
abbrev cX11_link : ByteArray := prog_1_method_9_code
def yX11_link : MethodName := ⟨RX11, "link", "(III)I"⟩
abbrev cX11_get : ByteArray := prog_1_method_10_code
def yX11_get : MethodName := ⟨RX11, "get", "(II)I"⟩
abbrev cX11_root : ByteArray := prog_1_method_11_code
def yX11_root : MethodName := ⟨RX11, "root", "(II)I"⟩
abbrev cX11_weak : ByteArray := prog_1_method_12_code
def yX11_weak : MethodName := ⟨RX11, "weak", "(II)I"⟩
abbrev cX11_strong : ByteArray := prog_1_method_13_code
def yX11_strong : MethodName := ⟨RX11, "strong", "(II)I"⟩
abbrev cX11_hold : ByteArray := prog_1_method_14_code
def yX11_hold : MethodName := ⟨RX11, "hold", "(IZ)I"⟩
abbrev cX11_wish : ByteArray := prog_1_method_15_code
def yX11_wish : MethodName := ⟨RX11, "wish", "(I)I"⟩
abbrev cX11_granted : ByteArray := prog_1_method_16_code
def yX11_granted : MethodName := ⟨RX11, "granted", "(I)I"⟩
abbrev cX11_clean : ByteArray := prog_1_method_17_code
def yX11_clean : MethodName := ⟨RX11, "clean", "()I"⟩
abbrev cX11_step : ByteArray := prog_1_method_18_code
def yX11_step : MethodName := ⟨RX11, "step", "(I)I"⟩
abbrev cX11_about : ByteArray := prog_1_method_19_code
def yX11_about : MethodName := ⟨RX11, "about", "(II)I"⟩
abbrev cX11_block : ByteArray := prog_1_method_20_code
def yX11_block : MethodName := ⟨RX11, "block", "(II)I"⟩
abbrev cX11_count : ByteArray := prog_1_method_21_code
def yX11_count : MethodName := ⟨RX11, "count", "(I)I"⟩
abbrev cX11_addBytes : ByteArray := prog_1_method_22_code
def yX11_addBytes : MethodName := ⟨RX11, "addBytes", "(I)V"⟩
abbrev cX11_readPolicy : ByteArray := prog_1_method_23_code
def yX11_readPolicy : MethodName := ⟨RX11, "readPolicy", "()I"⟩
abbrev cX11_nextToken : ByteArray := prog_1_method_24_code
def yX11_nextToken : MethodName := ⟨RX11, "nextToken", "()Z"⟩
abbrev cX11_policyToken : ByteArray := prog_1_method_25_code
def yX11_policyToken : MethodName := ⟨RX11, "policyToken", "()I"⟩
abbrev cX11_partsOf : ByteArray := prog_1_method_26_code
def yX11_partsOf : MethodName := ⟨RX11, "partsOf", "(I)Ljava/lang/String;"⟩
abbrev cX11_partToken : ByteArray := prog_1_method_27_code
def yX11_partToken : MethodName := ⟨RX11, "partToken", "(C)I"⟩
abbrev cX11_formToken : ByteArray := prog_1_method_28_code
def yX11_formToken : MethodName := ⟨RX11, "formToken", "()I"⟩
abbrev cX11_barrierToken : ByteArray := prog_1_method_29_code
def yX11_barrierToken : MethodName := ⟨RX11, "barrierToken", "()I"⟩
abbrev cX11_tokenIs : ByteArray := prog_1_method_30_code
def yX11_tokenIs : MethodName := ⟨RX11, "tokenIs", "(Ljava/lang/String;)Z"⟩
abbrev cX11_numberToken : ByteArray := prog_1_method_31_code
def yX11_numberToken : MethodName := ⟨RX11, "numberToken", "(II)I"⟩
abbrev cX11_isSlot : ByteArray := prog_1_method_32_code
def yX11_isSlot : MethodName := ⟨RX11, "isSlot", "(I)Z"⟩
abbrev cX11_numberOf : ByteArray := prog_1_method_33_code
def yX11_numberOf : MethodName := ⟨RX11, "numberOf", "(LCollectorHouse$Thing;)I"⟩
abbrev cX11_needCollector : ByteArray := prog_1_method_34_code
def yX11_needCollector : MethodName := ⟨RX11, "needCollector", "()LCollectorHouse$Collector;"⟩
abbrev cX11_needReached : ByteArray := prog_1_method_35_code
def yX11_needReached : MethodName := ⟨RX11, "needReached", "(I)LCollectorHouse$Thing;"⟩
abbrev cX11_needReachedOrNothing : ByteArray := prog_1_method_36_code
def yX11_needReachedOrNothing : MethodName := ⟨RX11, "needReachedOrNothing", "(I)LCollectorHouse$Thing;"⟩
abbrev cX11_addObject : ByteArray := prog_1_method_37_code
def yX11_addObject : MethodName := ⟨RX11, "addObject", "(IIJI)I"⟩
abbrev cX11_changeRoot : ByteArray := prog_1_method_38_code
def yX11_changeRoot : MethodName := ⟨RX11, "changeRoot", "(LCollectorHouse$Collector;ILCollectorHouse$Thing;)LCollectorHouse$Thing;"⟩
def RX12 : String := "CollectorHouseModel"
def TX12 : u_T := fun k => match k with
  | 0 => ("CollectorHouseModel", "thrown", "I", false)
  | 1 => ("CollectorHouseModel", "tape", "[B", true)
  | 2 => ("CollectorHouseModel", "source", "[B", true)
  | 3 => ("CollectorHouseModel", "taped", "I", false)
  | 4 => ("CollectorHouseModel", "length", "I", false)
  | 5 => ("CollectorHouseModel", "kindWords", "[I", true)
  | 6 => ("CollectorHouseModel", "kindReferences", "[I", true)
  | 7 => ("CollectorHouseModel", "kinds", "I", false)
  | 8 => ("CollectorHouseModel", "isHeap", "Z", false)
  | 9 => ("CollectorHouseModel", "isPicture", "Z", false)
  | 10 => ("CollectorHouseModel", "policy", "I", false)
  | 11 => ("CollectorHouseModel", "room", "I", false)
  | 12 => ("CollectorHouseModel", "form", "I", false)
  | 13 => ("CollectorHouseModel", "young", "I", false)
  | 14 => ("CollectorHouseModel", "old", "I", false)
  | 15 => ("CollectorHouseModel", "age", "I", false)
  | 16 => ("CollectorHouseModel", "card", "I", false)
  | 17 => ("CollectorHouseModel", "rate", "I", false)
  | 18 => ("CollectorHouseModel", "size", "I", false)
  | 19 => ("CollectorHouseModel", "share", "I", false)
  | 20 => ("CollectorHouseModel", "newPolicy", "I", false)
  | 21 => ("CollectorHouseModel", "newRoom", "I", false)
  | 22 => ("CollectorHouseModel", "newForm", "I", false)
  | 23 => ("CollectorHouseModel", "newYoung", "I", false)
  | 24 => ("CollectorHouseModel", "newOld", "I", false)
  | 25 => ("CollectorHouseModel", "newAge", "I", false)
  | 26 => ("CollectorHouseModel", "newCard", "I", false)
  | 27 => ("CollectorHouseModel", "newRate", "I", false)
  | 28 => ("CollectorHouseModel", "newSize", "I", false)
  | 29 => ("CollectorHouseModel", "newShare", "I", false)
  | 30 => ("CollectorHouseModel", "newPicture", "Z", false)
  | 31 => ("CollectorHouseModel", "used", "[Z", true)
  | 32 => ("CollectorHouseModel", "number", "[I", true)
  | 33 => ("CollectorHouseModel", "kind", "[I", true)
  | 34 => ("CollectorHouseModel", "words", "[I", true)
  | 35 => ("CollectorHouseModel", "at", "[I", true)
  | 36 => ("CollectorHouseModel", "ages", "[I", true)
  | 37 => ("CollectorHouseModel", "count", "[I", true)
  | 38 => ("CollectorHouseModel", "colour", "[I", true)
  | 39 => ("CollectorHouseModel", "holds", "[I", true)
  | 40 => ("CollectorHouseModel", "word", "[I", true)
  | 41 => ("CollectorHouseModel", "wish", "[Z", true)
  | 42 => ("CollectorHouseModel", "kept", "[Z", true)
  | 43 => ("CollectorHouseModel", "owner", "[I", true)
  | 44 => ("CollectorHouseModel", "objects", "I", false)
  | 45 => ("CollectorHouseModel", "wordsThere", "I", false)
  | 46 => ("CollectorHouseModel", "numbers", "I", false)
  | 47 => ("CollectorHouseModel", "cleanings", "I", false)
  | 48 => ("CollectorHouseModel", "movedWords", "I", false)
  | 49 => ("CollectorHouseModel", "freedWords", "I", false)
  | 50 => ("CollectorHouseModel", "looked", "I", false)
  | 51 => ("CollectorHouseModel", "root", "[I", true)
  | 52 => ("CollectorHouseModel", "weak", "[I", true)
  | 53 => ("CollectorHouseModel", "wishes", "[I", true)
  | 54 => ("CollectorHouseModel", "grey", "[I", true)
  | 55 => ("CollectorHouseModel", "wishMany", "I", false)
  | 56 => ("CollectorHouseModel", "greyMany", "I", false)
  | 57 => ("CollectorHouseModel", "greyAt", "I", false)
  | 58 => ("CollectorHouseModel", "isMarking", "Z", false)
  | 59 => ("CollectorHouseModel", "top", "I", false)
  | 60 => ("CollectorHouseModel", "oldTop", "I", false)
  | 61 => ("CollectorHouseModel", "half", "I", false)
  | 62 => ("CollectorHouseModel", "lastEnd", "I", false)
  | 63 => ("CollectorHouseModel", "present", "I", false)
  | 64 => ("CollectorHouseModel", "regions", "I", false)
  | 65 => ("CollectorHouseModel", "regionTop", "[I", true)
  | 66 => ("CollectorHouseModel", "dirty", "[Z", true)
  | 67 => ("CollectorHouseModel", "readAt", "I", false)
  | 68 => ("CollectorHouseModel", "tokenAt", "I", false)
  | 69 => ("CollectorHouseModel", "tokenSize", "I", false)
  | 70 => ("CollectorHouseModel", "broken", "I", false)
  | 71 => ("CollectorHouseModel", "read", "I", false)
  | 72 => ("CollectorHouseModel", "stack", "[I", true)
  | 73 => ("CollectorHouseModel", "stacked", "I", false)
  | 74 => ("CollectorHouseModel", "came", "[I", true)
  | 75 => ("CollectorHouseModel", "cameMany", "I", false)
  | 76 => ("CollectorHouseModel", "cameAt", "I", false)
  | 77 => ("CollectorHouseModel", "to", "I", false)
  | 78 => ("CollectorHouseModel", "going", "[I", true)
  | 79 => ("CollectorHouseModel", "goingWord", "[I", true)
  | 80 => ("CollectorHouseModel", "goingMany", "I", false)
  | 81 => ("CollectorHouseModel", "keptWords", "[I", true)
  | 82 => ("CollectorHouseModel", "isHeld", "[Z", true)
  | 83 => ("CollectorHouseModel", "isDone", "[Z", true)
  | _ => ("CollectorHouseModel", "blockSize", "I", false)
def tyX12 : Nat → FieldType := fun k => match k with
  | 0 => .int
  | 1 => .array .byte
  | 2 => .array .byte
  | 3 => .int
  | 4 => .int
  | 5 => .array .int
  | 6 => .array .int
  | 7 => .int
  | 8 => .boolean
  | 9 => .boolean
  | 10 => .int
  | 11 => .int
  | 12 => .int
  | 13 => .int
  | 14 => .int
  | 15 => .int
  | 16 => .int
  | 17 => .int
  | 18 => .int
  | 19 => .int
  | 20 => .int
  | 21 => .int
  | 22 => .int
  | 23 => .int
  | 24 => .int
  | 25 => .int
  | 26 => .int
  | 27 => .int
  | 28 => .int
  | 29 => .int
  | 30 => .boolean
  | 31 => .array .boolean
  | 32 => .array .int
  | 33 => .array .int
  | 34 => .array .int
  | 35 => .array .int
  | 36 => .array .int
  | 37 => .array .int
  | 38 => .array .int
  | 39 => .array .int
  | 40 => .array .int
  | 41 => .array .boolean
  | 42 => .array .boolean
  | 43 => .array .int
  | 44 => .int
  | 45 => .int
  | 46 => .int
  | 47 => .int
  | 48 => .int
  | 49 => .int
  | 50 => .int
  | 51 => .array .int
  | 52 => .array .int
  | 53 => .array .int
  | 54 => .array .int
  | 55 => .int
  | 56 => .int
  | 57 => .int
  | 58 => .boolean
  | 59 => .int
  | 60 => .int
  | 61 => .int
  | 62 => .int
  | 63 => .int
  | 64 => .int
  | 65 => .array .int
  | 66 => .array .boolean
  | 67 => .int
  | 68 => .int
  | 69 => .int
  | 70 => .int
  | 71 => .int
  | 72 => .array .int
  | 73 => .int
  | 74 => .array .int
  | 75 => .int
  | 76 => .int
  | 77 => .int
  | 78 => .array .int
  | 79 => .array .int
  | 80 => .int
  | 81 => .array .int
  | 82 => .array .boolean
  | 83 => .array .boolean
  | _ => .int
theorem nmX12 : ∀ a, a < 85 → ∀ b, b < 85 → a ≠ b → (TX12 a).2.1 ≠ (TX12 b).2.1 := by decide +kernel
theorem tyX12_ok : ∀ k, k < 85 → parseFieldDescriptor (TX12 k).2.2.1 = some (tyX12 k) := by decide +kernel
abbrev cX12_thrown : ByteArray := prog_14_method_1_code
def yX12_thrown : MethodName := ⟨RX12, "thrown", "()I"⟩
abbrev cX12_fails : ByteArray := prog_14_method_2_code
def yX12_fails : MethodName := ⟨RX12, "fails", "(I)Z"⟩
abbrev cX12_init : ByteArray := prog_14_method_3_code
def yX12_init : MethodName := ⟨RX12, "<init>", "()V"⟩
abbrev cX12_feed : ByteArray := prog_14_method_4_code
def yX12_feed : MethodName := ⟨RX12, "feed", "(IIIII)I"⟩
abbrev cX12_four : ByteArray := prog_14_method_5_code
def yX12_four : MethodName := ⟨RX12, "four", "(I)V"⟩
abbrev cX12_end : ByteArray := prog_14_method_6_code
def yX12_end : MethodName := ⟨RX12, "end", "(I)I"⟩
abbrev cX12_kind : ByteArray := prog_14_method_7_code
def yX12_kind : MethodName := ⟨RX12, "kind", "(II)I"⟩
abbrev cX12_token : ByteArray := prog_14_method_8_code
def yX12_token : MethodName := ⟨RX12, "token", "()Z"⟩
abbrev cX12_wrong : ByteArray := prog_14_method_9_code
def yX12_wrong : MethodName := ⟨RX12, "wrong", "(I)Z"⟩
abbrev cX12_is : ByteArray := prog_14_method_10_code
def yX12_is : MethodName := ⟨RX12, "is", "(IIIIIII)Z"⟩
abbrev cX12_byteIs : ByteArray := prog_14_method_11_code
def yX12_byteIs : MethodName := ⟨RX12, "byteIs", "(II)Z"⟩
abbrev cX12_number : ByteArray := prog_14_method_12_code
def yX12_number : MethodName := ⟨RX12, "number", "(II)Z"⟩
abbrev cX12_form : ByteArray := prog_14_method_13_code
def yX12_form : MethodName := ⟨RX12, "form", "()Z"⟩
abbrev cX12_roomHere : ByteArray := prog_14_method_14_code
def yX12_roomHere : MethodName := ⟨RX12, "roomHere", "()Z"⟩
abbrev cX12_readPolicy : ByteArray := prog_14_method_15_code
def yX12_readPolicy : MethodName := ⟨RX12, "readPolicy", "()Z"⟩
abbrev cX12_heap : ByteArray := prog_14_method_16_code
def yX12_heap : MethodName := ⟨RX12, "heap", "()I"⟩
abbrev cX12_empty : ByteArray := prog_14_method_17_code
def yX12_empty : MethodName := ⟨RX12, "empty", "()V"⟩
abbrev cX12_sizeOf : ByteArray := prog_14_method_18_code
def yX12_sizeOf : MethodName := ⟨RX12, "sizeOf", "(I)I"⟩
abbrev cX12_isReference : ByteArray := prog_14_method_19_code
def yX12_isReference : MethodName := ⟨RX12, "isReference", "(II)Z"⟩
abbrev cX12_reference : ByteArray := prog_14_method_20_code
def yX12_reference : MethodName := ⟨RX12, "reference", "(II)I"⟩
abbrev cX12_isOld : ByteArray := prog_14_method_21_code
def yX12_isOld : MethodName := ⟨RX12, "isOld", "(I)Z"⟩
abbrev cX12_placeOf : ByteArray := prog_14_method_22_code
def yX12_placeOf : MethodName := ⟨RX12, "placeOf", "(I)I"⟩
abbrev cX12_keep : ByteArray := prog_14_method_23_code
def yX12_keep : MethodName := ⟨RX12, "keep", "(I)V"⟩
abbrev cX12_keepAll : ByteArray := prog_14_method_24_code
def yX12_keepAll : MethodName := ⟨RX12, "keepAll", "()V"⟩
abbrev cX12_keepNone : ByteArray := prog_14_method_25_code
def yX12_keepNone : MethodName := ⟨RX12, "keepNone", "()V"⟩
abbrev cX12_keepReached : ByteArray := prog_14_method_26_code
def yX12_keepReached : MethodName := ⟨RX12, "keepReached", "()V"⟩
abbrev cX12_reached : ByteArray := prog_14_method_27_code
def yX12_reached : MethodName := ⟨RX12, "reached", "(I)I"⟩
abbrev cX12_wisher : ByteArray := prog_14_method_28_code
def yX12_wisher : MethodName := ⟨RX12, "wisher", "(IZ)I"⟩
abbrev cX12_unweak : ByteArray := prog_14_method_29_code
def yX12_unweak : MethodName := ⟨RX12, "unweak", "(I)V"⟩
abbrev cX12_toWishes : ByteArray := prog_14_method_30_code
def yX12_toWishes : MethodName := ⟨RX12, "toWishes", "(I)V"⟩
abbrev cX12_grantAll : ByteArray := prog_14_method_31_code
def yX12_grantAll : MethodName := ⟨RX12, "grantAll", "()V"⟩
abbrev cX12_unweakRest : ByteArray := prog_14_method_32_code
def yX12_unweakRest : MethodName := ⟨RX12, "unweakRest", "()V"⟩
abbrev cX12_remove : ByteArray := prog_14_method_33_code
def yX12_remove : MethodName := ⟨RX12, "remove", "(I)V"⟩
abbrev cX12_removeRest : ByteArray := prog_14_method_34_code
def yX12_removeRest : MethodName := ⟨RX12, "removeRest", "()I"⟩
abbrev cX12_uncountKept : ByteArray := prog_14_method_35_code
def yX12_uncountKept : MethodName := ⟨RX12, "uncountKept", "(I)V"⟩
abbrev cX12_move : ByteArray := prog_14_method_36_code
def yX12_move : MethodName := ⟨RX12, "move", "(II)V"⟩
abbrev cX12_sweep : ByteArray := prog_14_method_37_code
def yX12_sweep : MethodName := ⟨RX12, "sweep", "()I"⟩
abbrev cX12_cleanSlide : ByteArray := prog_14_method_38_code
def yX12_cleanSlide : MethodName := ⟨RX12, "cleanSlide", "()I"⟩
abbrev cX12_slide : ByteArray := prog_14_method_39_code
def yX12_slide : MethodName := ⟨RX12, "slide", "(I)I"⟩
abbrev cX12_come : ByteArray := prog_14_method_40_code
def yX12_come : MethodName := ⟨RX12, "come", "(I)V"⟩
abbrev cX12_comeAll : ByteArray := prog_14_method_41_code
def yX12_comeAll : MethodName := ⟨RX12, "comeAll", "()V"⟩
abbrev cX12_comeWishers : ByteArray := prog_14_method_42_code
def yX12_comeWishers : MethodName := ⟨RX12, "comeWishers", "(Z)V"⟩
abbrev cX12_cleanHalves : ByteArray := prog_14_method_43_code
def yX12_cleanHalves : MethodName := ⟨RX12, "cleanHalves", "()I"⟩
abbrev cX12_cardOf : ByteArray := prog_14_method_44_code
def yX12_cardOf : MethodName := ⟨RX12, "cardOf", "(II)I"⟩
abbrev cX12_findDirty : ByteArray := prog_14_method_45_code
def yX12_findDirty : MethodName := ⟨RX12, "findDirty", "()V"⟩
abbrev cX12_major : ByteArray := prog_14_method_46_code
def yX12_major : MethodName := ⟨RX12, "major", "()I"⟩
abbrev cX12_isOldFull : ByteArray := prog_14_method_47_code
def yX12_isOldFull : MethodName := ⟨RX12, "isOldFull", "()Z"⟩
abbrev cX12_minor : ByteArray := prog_14_method_48_code
def yX12_minor : MethodName := ⟨RX12, "minor", "()I"⟩
abbrev cX12_comeDirty : ByteArray := prog_14_method_49_code
def yX12_comeDirty : MethodName := ⟨RX12, "comeDirty", "(I)V"⟩
abbrev cX12_more : ByteArray := prog_14_method_50_code
def yX12_more : MethodName := ⟨RX12, "more", "(I)V"⟩
abbrev cX12_less : ByteArray := prog_14_method_51_code
def yX12_less : MethodName := ⟨RX12, "less", "(I)V"⟩
abbrev cX12_fall : ByteArray := prog_14_method_52_code
def yX12_fall : MethodName := ⟨RX12, "fall", "(I)V"⟩
abbrev cX12_toGrey : ByteArray := prog_14_method_53_code
def yX12_toGrey : MethodName := ⟨RX12, "toGrey", "(I)V"⟩
abbrev cX12_greyRoots : ByteArray := prog_14_method_54_code
def yX12_greyRoots : MethodName := ⟨RX12, "greyRoots", "()V"⟩
abbrev cX12_beginMarking : ByteArray := prog_14_method_55_code
def yX12_beginMarking : MethodName := ⟨RX12, "beginMarking", "()V"⟩
abbrev cX12_steps : ByteArray := prog_14_method_56_code
def yX12_steps : MethodName := ⟨RX12, "steps", "(I)I"⟩
abbrev cX12_lookEmpty : ByteArray := prog_14_method_57_code
def yX12_lookEmpty : MethodName := ⟨RX12, "lookEmpty", "()I"⟩
abbrev cX12_finish : ByteArray := prog_14_method_58_code
def yX12_finish : MethodName := ⟨RX12, "finish", "()I"⟩
abbrev cX12_whole : ByteArray := prog_14_method_59_code
def yX12_whole : MethodName := ⟨RX12, "whole", "()I"⟩
abbrev cX12_changes : ByteArray := prog_14_method_60_code
def yX12_changes : MethodName := ⟨RX12, "changes", "(II)V"⟩
abbrev cX12_emptyRegions : ByteArray := prog_14_method_61_code
def yX12_emptyRegions : MethodName := ⟨RX12, "emptyRegions", "()I"⟩
abbrev cX12_leastEmpty : ByteArray := prog_14_method_62_code
def yX12_leastEmpty : MethodName := ⟨RX12, "leastEmpty", "()I"⟩
abbrev cX12_cleanRegions : ByteArray := prog_14_method_63_code
def yX12_cleanRegions : MethodName := ⟨RX12, "cleanRegions", "()I"⟩
abbrev cX12_sparse : ByteArray := prog_14_method_64_code
def yX12_sparse : MethodName := ⟨RX12, "sparse", "()I"⟩
abbrev cX12_blockFrom : ByteArray := prog_14_method_65_code
def yX12_blockFrom : MethodName := ⟨RX12, "blockFrom", "(II)I"⟩
abbrev cX12_firstFit : ByteArray := prog_14_method_66_code
def yX12_firstFit : MethodName := ⟨RX12, "firstFit", "(III)I"⟩
abbrev cX12_firstFitAhead : ByteArray := prog_14_method_67_code
def yX12_firstFitAhead : MethodName := ⟨RX12, "firstFitAhead", "(II)I"⟩
abbrev cX12_find : ByteArray := prog_14_method_68_code
def yX12_find : MethodName := ⟨RX12, "find", "(I)I"⟩
abbrev cX12_startOf : ByteArray := prog_14_method_69_code
def yX12_startOf : MethodName := ⟨RX12, "startOf", "(I)I"⟩
abbrev cX12_findInHalf : ByteArray := prog_14_method_70_code
def yX12_findInHalf : MethodName := ⟨RX12, "findInHalf", "(II)I"⟩
abbrev cX12_findByForm : ByteArray := prog_14_method_71_code
def yX12_findByForm : MethodName := ⟨RX12, "findByForm", "(I)I"⟩
abbrev cX12_freeWords : ByteArray := prog_14_method_72_code
def yX12_freeWords : MethodName := ⟨RX12, "freeWords", "()I"⟩
abbrev cX12_findInSteps : ByteArray := prog_14_method_73_code
def yX12_findInSteps : MethodName := ⟨RX12, "findInSteps", "(I)I"⟩
abbrev cX12_findInYoung : ByteArray := prog_14_method_74_code
def yX12_findInYoung : MethodName := ⟨RX12, "findInYoung", "(I)I"⟩
abbrev cX12_findInRegion : ByteArray := prog_14_method_75_code
def yX12_findInRegion : MethodName := ⟨RX12, "findInRegion", "(I)I"⟩
abbrev cX12_findInRegions : ByteArray := prog_14_method_76_code
def yX12_findInRegions : MethodName := ⟨RX12, "findInRegions", "(I)I"⟩
abbrev cX12_findRoom : ByteArray := prog_14_method_77_code
def yX12_findRoom : MethodName := ⟨RX12, "findRoom", "(I)I"⟩
abbrev cX12_fresh : ByteArray := prog_14_method_78_code
def yX12_fresh : MethodName := ⟨RX12, "fresh", "(III)I"⟩
abbrev cX12_setRoot : ByteArray := prog_14_method_79_code
def yX12_setRoot : MethodName := ⟨RX12, "setRoot", "(II)V"⟩
abbrev cX12_isNamed : ByteArray := prog_14_method_80_code
def yX12_isNamed : MethodName := ⟨RX12, "isNamed", "(I)Z"⟩
abbrev cX12_make : ByteArray := prog_14_method_81_code
def yX12_make : MethodName := ⟨RX12, "make", "(II)I"⟩
abbrev cX12_row : ByteArray := prog_14_method_82_code
def yX12_row : MethodName := ⟨RX12, "row", "(ZII)I"⟩
abbrev cX12_put : ByteArray := prog_14_method_83_code
def yX12_put : MethodName := ⟨RX12, "put", "(III)I"⟩
abbrev cX12_numberOf : ByteArray := prog_14_method_84_code
def yX12_numberOf : MethodName := ⟨RX12, "numberOf", "(I)I"⟩
abbrev cX12_link : ByteArray := prog_14_method_85_code
def yX12_link : MethodName := ⟨RX12, "link", "(III)I"⟩
abbrev cX12_get : ByteArray := prog_14_method_86_code
def yX12_get : MethodName := ⟨RX12, "get", "(II)I"⟩
abbrev cX12_root : ByteArray := prog_14_method_87_code
def yX12_root : MethodName := ⟨RX12, "root", "(II)I"⟩
abbrev cX12_weak : ByteArray := prog_14_method_88_code
def yX12_weak : MethodName := ⟨RX12, "weak", "(II)I"⟩
abbrev cX12_strong : ByteArray := prog_14_method_89_code
def yX12_strong : MethodName := ⟨RX12, "strong", "(II)I"⟩
abbrev cX12_hold : ByteArray := prog_14_method_90_code
def yX12_hold : MethodName := ⟨RX12, "hold", "(IZ)I"⟩
abbrev cX12_wish : ByteArray := prog_14_method_91_code
def yX12_wish : MethodName := ⟨RX12, "wish", "(I)I"⟩
abbrev cX12_granted : ByteArray := prog_14_method_92_code
def yX12_granted : MethodName := ⟨RX12, "granted", "(I)I"⟩
abbrev cX12_clean : ByteArray := prog_14_method_93_code
def yX12_clean : MethodName := ⟨RX12, "clean", "()I"⟩
abbrev cX12_step : ByteArray := prog_14_method_94_code
def yX12_step : MethodName := ⟨RX12, "step", "(I)I"⟩
abbrev cX12_about : ByteArray := prog_14_method_95_code
def yX12_about : MethodName := ⟨RX12, "about", "(II)I"⟩
abbrev cX12_block : ByteArray := prog_14_method_96_code
def yX12_block : MethodName := ⟨RX12, "block", "(II)I"⟩
abbrev cX12_dirtyCards : ByteArray := prog_14_method_97_code
def yX12_dirtyCards : MethodName := ⟨RX12, "dirtyCards", "()I"⟩
abbrev cX12_count : ByteArray := prog_14_method_98_code
def yX12_count : MethodName := ⟨RX12, "count", "(I)I"⟩
def RJx3273f : String := "java/lang/ClassCastException"
def TJx3273f : u_T := fun k => match k with
  | 0 => ("java/lang/Throwable", "cause", "Ljava/lang/Throwable;", false)
  | 1 => ("java/lang/Throwable", "stackTrace", "[Ljava/lang/StackTraceElement;", false)
  | 2 => ("java/lang/Throwable", "suppressedExceptions", "Ljava/util/List;", false)
  | 3 => ("java/lang/Throwable", "detailMessage", "Ljava/lang/String;", false)
  | 4 => ("java/lang/Throwable", "backtrace", "Ljava/lang/Object;", false)
  | _ => ("java/lang/Throwable", "depth", "I", false)
def tyJx3273f : Nat → FieldType := fun k => match k with
  | 0 => .object "java/lang/Throwable"
  | 1 => .array (.object "java/lang/StackTraceElement")
  | 2 => .object "java/util/List"
  | 3 => .object "java/lang/String"
  | 4 => .object "java/lang/Object"
  | _ => .int
theorem nmJx3273f : ∀ a, a < 6 → ∀ b, b < 6 → a ≠ b → (TJx3273f a).2.1 ≠ (TJx3273f b).2.1 := by decide +kernel
theorem tyJx3273f_ok : ∀ k, k < 6 → parseFieldDescriptor (TJx3273f k).2.2.1 = some (tyJx3273f k) := by decide +kernel
abbrev cJx3273f_init_da8c8 : ByteArray := prog_15_method_1_code
def yJx3273f_init_da8c8 : MethodName := ⟨RJx3273f, "<init>", "()V"⟩
def RJ9 : String := "java/lang/Math"
def TJ9 : u_T := fun k => match k with
  | _ => ("", "", "", false)
def tyJ9 : Nat → FieldType := fun k => match k with
  | _ => .int
theorem nmJ9 : ∀ a, a < 0 → ∀ b, b < 0 → a ≠ b → (TJ9 a).2.1 ≠ (TJ9 b).2.1 := by decide +kernel
theorem tyJ9_ok : ∀ k, k < 0 → parseFieldDescriptor (TJ9 k).2.2.1 = some (tyJ9 k) := by decide +kernel
abbrev cJ9_max_7cf53 : ByteArray := prog_20_method_65_code
def yJ9_max_7cf53 : MethodName := ⟨RJ9, "max", "(II)I"⟩
abbrev cJ9_min_7cf53 : ByteArray := prog_20_method_69_code
def yJ9_min_7cf53 : MethodName := ⟨RJ9, "min", "(II)I"⟩
def RJ0 : String := "java/lang/String"
def TJ0 : u_T := fun k => match k with
  | _ => ("", "", "", false)
def tyJ0 : Nat → FieldType := fun k => match k with
  | _ => .int
theorem nmJ0 : ∀ a, a < 0 → ∀ b, b < 0 → a ≠ b → (TJ0 a).2.1 ≠ (TJ0 b).2.1 := by decide +kernel
theorem tyJ0_ok : ∀ k, k < 0 → parseFieldDescriptor (TJ0 k).2.2.1 = some (tyJ0 k) := by decide +kernel
abbrev cJ0_length_8abf5 : ByteArray := prog_22_method_54_code
def yJ0_length_8abf5 : MethodName := ⟨RJ0, "length", "()I"⟩
abbrev cJ0_charAt_5068e : ByteArray := prog_22_method_56_code
def yJ0_charAt_5068e : MethodName := ⟨RJ0, "charAt", "(I)C"⟩
abbrev cJ0_coder_7d493 : ByteArray := prog_22_method_152_code
def yJ0_coder_7d493 : MethodName := ⟨RJ0, "coder", "()B"⟩
abbrev cJ0_isLatin1_aae02 : ByteArray := prog_22_method_154_code
def yJ0_isLatin1_aae02 : MethodName := ⟨RJ0, "isLatin1", "()Z"⟩
abbrev cJ0_checkIndex_df160 : ByteArray := prog_22_method_155_code
def yJ0_checkIndex_df160 : MethodName := ⟨RJ0, "checkIndex", "(II)V"⟩
def RJ1 : String := "java/lang/StringLatin1"
def TJ1 : u_T := fun k => match k with
  | _ => ("", "", "", false)
def tyJ1 : Nat → FieldType := fun k => match k with
  | _ => .int
theorem nmJ1 : ∀ a, a < 0 → ∀ b, b < 0 → a ≠ b → (TJ1 a).2.1 ≠ (TJ1 b).2.1 := by decide +kernel
theorem tyJ1_ok : ∀ k, k < 0 → parseFieldDescriptor (TJ1 k).2.2.1 = some (tyJ1 k) := by decide +kernel
abbrev cJ1_charAt_3b067 : ByteArray := prog_23_method_2_code
def yJ1_charAt_3b067 : MethodName := ⟨RJ1, "charAt", "([BI)C"⟩
def RJ2 : String := "java/lang/StringUTF16"
def TJ2 : u_T := fun k => match k with
  | _ => ("", "", "", false)
def tyJ2 : Nat → FieldType := fun k => match k with
  | _ => .int
theorem nmJ2 : ∀ a, a < 0 → ∀ b, b < 0 → a ≠ b → (TJ2 a).2.1 ≠ (TJ2 b).2.1 := by decide +kernel
theorem tyJ2_ok : ∀ k, k < 0 → parseFieldDescriptor (TJ2 k).2.2.1 = some (tyJ2 k) := by decide +kernel
abbrev cJ2_getChar_3b067 : ByteArray := prog_24_method_5_code
def yJ2_getChar_3b067 : MethodName := ⟨RJ2, "getChar", "([BI)C"⟩
abbrev cJ2_length_9d52b : ByteArray := prog_24_method_6_code
def yJ2_length_9d52b : MethodName := ⟨RJ2, "length", "([B)I"⟩
abbrev cJ2_charAt_3b067 : ByteArray := prog_24_method_83_code
def yJ2_charAt_3b067 : MethodName := ⟨RJ2, "charAt", "([BI)C"⟩
abbrev cJ2_checkIndex_2214a : ByteArray := prog_24_method_91_code
def yJ2_checkIndex_2214a : MethodName := ⟨RJ2, "checkIndex", "(I[B)V"⟩
def RJ10 : String := "java/lang/System"
def TJ10 : u_T := fun k => match k with
  | _ => ("", "", "", false)
def tyJ10 : Nat → FieldType := fun k => match k with
  | _ => .int
theorem nmJ10 : ∀ a, a < 0 → ∀ b, b < 0 → a ≠ b → (TJ10 a).2.1 ≠ (TJ10 b).2.1 := by decide +kernel
theorem tyJ10_ok : ∀ k, k < 0 → parseFieldDescriptor (TJ10 k).2.2.1 = some (tyJ10 k) := by decide +kernel
def RJ7 : String := "java/util/Arrays"
def TJ7 : u_T := fun k => match k with
  | _ => ("", "", "", false)
def tyJ7 : Nat → FieldType := fun k => match k with
  | _ => .int
theorem nmJ7 : ∀ a, a < 0 → ∀ b, b < 0 → a ≠ b → (TJ7 a).2.1 ≠ (TJ7 b).2.1 := by decide +kernel
theorem tyJ7_ok : ∀ k, k < 0 → parseFieldDescriptor (TJ7 k).2.2.1 = some (tyJ7 k) := by decide +kernel
abbrev cJ7_fill_53178 : ByteArray := prog_28_method_103_code
def yJ7_fill_53178 : MethodName := ⟨RJ7, "fill", "([II)V"⟩
def RJ3 : String := "jdk/internal/util/Preconditions"
def TJ3 : u_T := fun k => match k with
  | _ => ("", "", "", false)
def tyJ3 : Nat → FieldType := fun k => match k with
  | _ => .int
theorem nmJ3 : ∀ a, a < 0 → ∀ b, b < 0 → a ≠ b → (TJ3 a).2.1 ≠ (TJ3 b).2.1 := by decide +kernel
theorem tyJ3_ok : ∀ k, k < 0 → parseFieldDescriptor (TJ3 k).2.2.1 = some (tyJ3 k) := by decide +kernel
abbrev cJ3_checkIndex_8e157 : ByteArray := prog_30_method_11_code
def yJ3_checkIndex_8e157 : MethodName := ⟨RJ3, "checkIndex", "(IILjava/util/function/BiFunction;)I"⟩
def RL : String := "CollectorHouseLaw"
abbrev cL_feed : ByteArray := method_3_code
def yL_feed : MethodName := ⟨RL, "feed", "(LCollectorHouse;IIIII[J)I"⟩
abbrev cL_end : ByteArray := method_4_code
def yL_end : MethodName := ⟨RL, "end", "(LCollectorHouse;I[J)I"⟩
abbrev cL_kind : ByteArray := method_5_code
def yL_kind : MethodName := ⟨RL, "kind", "(LCollectorHouse;II[J)I"⟩
abbrev cL_make : ByteArray := method_6_code
def yL_make : MethodName := ⟨RL, "make", "(LCollectorHouse;II[J)I"⟩
abbrev cL_row : ByteArray := method_7_code
def yL_row : MethodName := ⟨RL, "row", "(LCollectorHouse;ZII[J)I"⟩
abbrev cL_put : ByteArray := method_8_code
def yL_put : MethodName := ⟨RL, "put", "(LCollectorHouse;III[J)I"⟩
abbrev cL_link : ByteArray := method_9_code
def yL_link : MethodName := ⟨RL, "link", "(LCollectorHouse;III[J)I"⟩
abbrev cL_get : ByteArray := method_10_code
def yL_get : MethodName := ⟨RL, "get", "(LCollectorHouse;II[J)I"⟩
abbrev cL_root : ByteArray := method_11_code
def yL_root : MethodName := ⟨RL, "root", "(LCollectorHouse;II[J)I"⟩
abbrev cL_weak : ByteArray := method_12_code
def yL_weak : MethodName := ⟨RL, "weak", "(LCollectorHouse;II[J)I"⟩
abbrev cL_strong : ByteArray := method_13_code
def yL_strong : MethodName := ⟨RL, "strong", "(LCollectorHouse;II[J)I"⟩
abbrev cL_hold : ByteArray := method_14_code
def yL_hold : MethodName := ⟨RL, "hold", "(LCollectorHouse;IZ[J)I"⟩
abbrev cL_wish : ByteArray := method_15_code
def yL_wish : MethodName := ⟨RL, "wish", "(LCollectorHouse;I[J)I"⟩
abbrev cL_granted : ByteArray := method_16_code
def yL_granted : MethodName := ⟨RL, "granted", "(LCollectorHouse;I[J)I"⟩
abbrev cL_clean : ByteArray := method_17_code
def yL_clean : MethodName := ⟨RL, "clean", "(LCollectorHouse;[J)I"⟩
abbrev cL_step : ByteArray := method_18_code
def yL_step : MethodName := ⟨RL, "step", "(LCollectorHouse;I[J)I"⟩
abbrev cL_about : ByteArray := method_19_code
def yL_about : MethodName := ⟨RL, "about", "(LCollectorHouse;II[J)I"⟩
abbrev cL_block : ByteArray := method_20_code
def yL_block : MethodName := ⟨RL, "block", "(LCollectorHouse;II[J)I"⟩
abbrev cL_count : ByteArray := method_21_code
def yL_count : MethodName := ⟨RL, "count", "(LCollectorHouse;I[J)I"⟩
abbrev cL_law : ByteArray := code
def yL_law : MethodName := ⟨RL, "law", "([I)Z"⟩
abbrev vwCl : List vw_C := [(RJx3273f, TJx3273f, 6), (RX0, TX0, 10), (RX2, TX2, 8), (RX3, TX3, 5), (RX4, TX4, 9), (RX5, TX5, 4), (RX6, TX6, 9), (RX7, TX7, 13), (RX8, TX8, 5), (RX9, TX9, 9), (RX10, TX10, 6), (RX11, TX11, 12), (RX12, TX12, 85)]
end
section
/-! THE SMALL MACHINE, part 1: values, locals, the instructions that touch no heap; and that the machine does what they say -/
abbrev ma_V : Type := Int32 ⊕ (Int64 ⊕ Option Nat)
abbrev ma_L : Type := List (Nat × ma_V)
def ma_tv (ad : Nat → Nat) (v : ma_V) : Value := match v with
  | .inl x => .int x
  | .inr (.inl x) => .long x
  | .inr (.inr r) => va_rf (r.map ad)
def ma_2 (v : ma_V) : Bool := match v with
  | .inr (.inl _) => true
  | _ => false
def ma_tl (ad : Nat → Nat) (L : ma_L) : List (Nat × Value) := L.map (fun q => (q.1, ma_tv ad q.2))
def ma_ts (ad : Nat → Nat) (st : List ma_V) : List Value := st.map (ma_tv ad)
def ma_st (L : ma_L) (i : Nat) (v : ma_V) : ma_L := (i, v) :: L.filter (fun q => !(q.1 == i) && !(q.1 + 1 == i && ma_2 q.2))
def ma_get (L : ma_L) (i : Nat) : Option ma_V := (L.find? (fun q => q.1 == i)).map (·.2)
theorem ma_cat (ad : Nat → Nat) (v : ma_V) : (ma_tv ad v).category = if ma_2 v then 2 else 1 := by
  rcases v with x | x | r
  · rfl
  · rfl
  · cases r <;> rfl
theorem ma_cat2 (ad : Nat → Nat) (v : ma_V) : ((ma_tv ad v).category == 2) = ma_2 v := by
  rw [ma_cat]; cases ma_2 v <;> rfl
theorem ma_cat1 (ad : Nat → Nat) {v : ma_V} (h : ma_2 v = false) : (ma_tv ad v).category = 1 := by
  rw [ma_cat, h]; rfl
theorem ma_tl_st (ad : Nat → Nat) (L : ma_L) (i : Nat) (v : ma_V) : (i, ma_tv ad v) :: (ma_tl ad L).filter (fun q => !(q.1 == i) && !(q.1 + 1 == i && q.2.category == 2)) = ma_tl ad (ma_st L i v) := by
  unfold ma_tl ma_st
  rw [List.map_cons, List.filter_map]
  congr 2
  apply List.filter_congr
  intro q _
  show (!(q.1 == i) && !(q.1 + 1 == i && (ma_tv ad q.2).category == 2)) = _
  rw [ma_cat2]
theorem ma_get_at {ad : Nat → Nat} {L : ma_L} {i : Nat} {v : ma_V} {ls : Array Slot} {nL : Nat} (h : ma_get L i = some v) (hl : lv_has ls nL (ma_tl ad L)) : ls[i]? = some (.val (ma_tv ad v)) := by
  unfold ma_get at h
  cases hf : L.find? (fun q => q.1 == i) with
  | none => rw [hf] at h; cases h
  | some q =>
    rw [hf] at h
    have h2 : q.2 = v := Option.some.inj h
    have h3 : q.1 = i := by have := List.find?_some hf; simpa using this
    have h4 : q ∈ L := List.mem_of_find?_eq_some hf
    have := hl.2.2 (q.1, ma_tv ad q.2) (List.mem_map.mpr ⟨q, h4, rfl⟩)
    rw [h2, h3] at this
    exact this
/-- constants and loads -/
def ma_push (i : Instr) (n : Nat) (L : ma_L) : Option ma_V := match i, n with
  | .iconst k, 1 => some (.inl (Int32.ofInt k))
  | .bipush k, 2 => some (.inl (Int8.ofInt k).toInt32)
  | .sipush k, 3 => some (.inl (Int16.ofInt k).toInt32)
  | .lconst k, 1 => some (.inr (.inl (Int64.ofNat (k : Nat))))
  | .aconst_null, 1 => some (.inr (.inr none))
  | .iload k, 2 => match ma_get L k with
    | some (.inl x) => some (.inl x)
    | _ => none
  | .iload_n k, 1 => match ma_get L (k : Nat) with
    | some (.inl x) => some (.inl x)
    | _ => none
  | .lload k, 2 => match ma_get L k with
    | some (.inr (.inl x)) => some (.inr (.inl x))
    | _ => none
  | .lload_n k, 1 => match ma_get L (k : Nat) with
    | some (.inr (.inl x)) => some (.inr (.inl x))
    | _ => none
  | .aload k, 2 => match ma_get L k with
    | some (.inr (.inr x)) => some (.inr (.inr x))
    | _ => none
  | .aload_n k, 1 => match ma_get L (k : Nat) with
    | some (.inr (.inr x)) => some (.inr (.inr x))
    | _ => none
  | _, _ => none
/-- what works on the operand stack alone -/
def ma_stk (i : Instr) (n : Nat) (st : List ma_V) : Option (List ma_V) := match i, n, st with
  | .iadd, 1, .inl y :: .inl x :: r => some (.inl (x + y) :: r)
  | .isub, 1, .inl y :: .inl x :: r => some (.inl (x - y) :: r)
  | .imul, 1, .inl y :: .inl x :: r => some (.inl (x * y) :: r)
  | .iand, 1, .inl y :: .inl x :: r => some (.inl (x &&& y) :: r)
  | .ior, 1, .inl y :: .inl x :: r => some (.inl (x ||| y) :: r)
  | .ixor, 1, .inl y :: .inl x :: r => some (.inl (x ^^^ y) :: r)
  | .ishl, 1, .inl y :: .inl x :: r => some (.inl (x <<< (y &&& 31)) :: r)
  | .ishr, 1, .inl y :: .inl x :: r => some (.inl (x >>> (y &&& 31)) :: r)
  | .iushr, 1, .inl y :: .inl x :: r => some (.inl (x.toUInt32 >>> (y.toUInt32 &&& Int32.toUInt32 31)).toInt32 :: r)
  | .idiv, 1, .inl y :: .inl x :: r => if y = 0 then none else some (.inl (x / y) :: r)
  | .i2b, 1, .inl x :: r => some (.inl x.toInt8.toInt32 :: r)
  | .i2c, 1, .inl x :: r => some (.inl (x.toUInt32 % 65536).toInt32 :: r)
  | .i2l, 1, .inl x :: r => some (.inr (.inl x.toInt64) :: r)
  | .land, 1, .inr (.inl y) :: .inr (.inl x) :: r => some (.inr (.inl (x &&& y)) :: r)
  | .lushr, 1, .inl y :: .inr (.inl x) :: r => some (.inr (.inl (x.toUInt64 >>> (y.toInt64.toUInt64 &&& Int64.toUInt64 63)).toInt64) :: r)
  | .lcmp, 1, .inr (.inl y) :: .inr (.inl x) :: r => some (.inl (lg_cmp x y) :: r)
  | .dup, 1, v :: r => if ma_2 v then none else some (v :: v :: r)
  | .pop, 1, v :: r => if ma_2 v then none else some r
  | .dup2, 1, v :: w :: r => if ma_2 v || ma_2 w then none else some (v :: w :: v :: w :: r)
  | _, _, _ => none
/-- stores, and the local that counts -/
def ma_sto (i : Instr) (n nL : Nat) (L : ma_L) (st : List ma_V) : Option (ma_L × List ma_V) := match i, n, st with
  | .istore k, 2, .inl x :: r => if k < nL then some (ma_st L k (.inl x), r) else none
  | .istore_n k, 1, .inl x :: r => if (k : Nat) < nL then some (ma_st L k (.inl x), r) else none
  | .astore k, 2, .inr (.inr x) :: r => if k < nL then some (ma_st L k (.inr (.inr x)), r) else none
  | .astore_n k, 1, .inr (.inr x) :: r => if (k : Nat) < nL then some (ma_st L k (.inr (.inr x)), r) else none
  | .iinc k d, 3, r => match ma_get L k with
    | some (.inl x) => if k < nL then some (ma_st L k (.inl (x + Int32.ofInt d)), r) else none
    | _ => none
  | _, _, _ => none
def ma_to (pc : Nat) (off : Int) : Option Nat := if 0 ≤ (pc : Int) + off then some ((pc : Int) + off).toNat else none
theorem ma_to_eq {pc : Nat} {off : Int} {t : Nat} (h : ma_to pc off = some t) : (pc : Int) + off = (t : Int) := by
  unfold ma_to at h
  split at h
  · cases h; omega
  · cases h
def ma_c0 (c : ClassFile.Cond) (x : Int32) : Bool := match c with
  | .eq => decide (x = 0)
  | .ne => decide (¬ x = 0)
  | .lt => decide (x < 0)
  | .ge => decide (0 ≤ x)
  | .gt => decide (0 < x)
  | .le => decide (x ≤ 0)
def ma_c2 (c : ClassFile.Cond) (x y : Int32) : Bool := match c with
  | .eq => decide (x = y)
  | .ne => decide (¬ x = y)
  | .lt => decide (x < y)
  | .ge => decide (y ≤ x)
  | .gt => decide (y < x)
  | .le => decide (x ≤ y)
/-- jumps: where to, and the stack behind -/
def ma_jmp (i : Instr) (n pc : Nat) (st : List ma_V) : Option (Nat × List ma_V) := match i, n, st with
  | .goto o, 3, r => (ma_to pc o).map (fun t => (t, r))
  | .ifCond c o, 3, .inl x :: r => (ma_to pc o).map (fun t => (if ma_c0 c x then t else pc + 3, r))
  | .if_icmp c o, 3, .inl y :: .inl x :: r => (ma_to pc o).map (fun t => (if ma_c2 c x y then t else pc + 3, r))
  | .ifnull o, 3, .inr (.inr x) :: r => match x with
    | none => (ma_to pc o).map (fun t => (t, r))
    | some _ => some (pc + 3, r)
  | .ifnonnull o, 3, .inr (.inr x) :: r => match x with
    | none => some (pc + 3, r)
    | some _ => (ma_to pc o).map (fun t => (t, r))
  | .tableswitch d lo hi offs, _, .inl x :: r => if x.toInt < lo ∨ hi < x.toInt then (ma_to pc d).map (fun t => (t, r)) else match offs[(x.toInt - lo).toNat]? with
    | some o => (ma_to pc o).map (fun t => (t, r))
    | none => none
  | .lookupswitch d ps, _, .inl x :: r => if (ps.toList.zip (ps.toList.drop 1)).all (fun (a, next) => a.1 < next.1) = true then (ma_to pc (Op.lookupswitch.offset ps.toList d x.toInt)).map (fun t => (t, r)) else none
  | _, _, _ => none
section MA1
variable {p : Program} {l : Launch} {e : Env} {R : Room} {s : State} {m : MethodId} {args : Array Value} {below : List Frame} {meth : Method} {c : Code} {H : Heap} {locs : List Loc} {cells slots : Nat} {Q : State → Prop} {cc : ByteArray} {pc : Nat} {ls : Array Slot} {ad : Nat → Nat}
theorem ma_push_ok (hx : p.tables.exec = Jvm.exec) (hb : c.code = cc) {i : Instr} {n nL : Nat} {L : ma_L} {v : ma_V} {rest : List Value} (hl : lv_has ls nL (ma_tl ad L)) (hd : decode cc pc = .ok (i, n)) (h : ma_push i n L = some v)
    (k : W p l e R s m args below meth c H locs cells slots Q (F0 m (pc + n) ls (ma_tv ad v :: rest))) : W p l e R s m args below meth c H locs cells slots Q (F0 m pc ls rest) := by
  unfold ma_push at h
  split at h
  · cases h; exact lv_iconst hx hb hd rfl k
  · cases h; exact lv_bipush hx hb hd rfl k
  · cases h; exact lv_sipush hx hb hd rfl k
  · cases h; exact lv_lconst hx hb hd rfl k
  · cases h; exact lv_null hx hb hd k
  · split at h
    · next hg => cases h; exact lv_iload hx hb hd (ma_get_at hg hl) k
    · cases h
  · split at h
    · next hg => cases h; exact lv_iload_n hx hb hd rfl (ma_get_at hg hl) k
    · cases h
  · split at h
    · next hg => cases h; exact lv_lload hx hb hd (ma_get_at hg hl) k
    · cases h
  · split at h
    · next hg => cases h; exact lv_lload_n hx hb hd rfl (ma_get_at hg hl) k
    · cases h
  · split at h
    · next x hg =>
      cases h
      have hg := ma_get_at hg hl
      cases x with
      | none => exact lv_aloadN hx hb hd hg k
      | some a => exact lv_aload hx hb hd hg k
    · cases h
  · split at h
    · next x hg =>
      cases h
      have hg := ma_get_at hg hl
      cases x with
      | none => exact lv_aload_nN hx hb hd rfl hg k
      | some a => exact lv_aload_n hx hb hd rfl hg k
    · cases h
  · cases h
theorem ma_stk_ok (hx : p.tables.exec = Jvm.exec) (hb : c.code = cc) {i : Instr} {n : Nat} {st st' : List ma_V} (hd : decode cc pc = .ok (i, n)) (h : ma_stk i n st = some st')
    (k : W p l e R s m args below meth c H locs cells slots Q (F0 m (pc + n) ls (ma_ts ad st'))) : W p l e R s m args below meth c H locs cells slots Q (F0 m pc ls (ma_ts ad st)) := by
  unfold ma_stk at h
  split at h
  · cases h; exact lv_iadd hx hb hd k
  · cases h; exact lv_isub hx hb hd k
  · cases h; exact lv_imul hx hb hd k
  · cases h; exact lv_iand hx hb hd k
  · cases h; exact lv_ior hx hb hd k
  · cases h; exact lv_ixor hx hb hd k
  · cases h; exact lv_ishl hx hb hd k
  · cases h; exact lv_ishr hx hb hd k
  · cases h; exact lv_iushr hx hb hd rfl k
  · split at h
    · cases h
    · next hy => cases h; exact lv_idiv hx hb hd hy k
  · cases h; exact lv_i2b hx hb hd rfl k
  · cases h; exact lv_i2c hx hb hd rfl k
  · cases h; exact lv_i2l hx hb hd rfl k
  · cases h; exact lv_land hx hb hd k
  · cases h; exact lv_lushr hx hb hd rfl k
  · cases h; exact W.lcmp hx hb hd k
  · split at h
    · cases h
    · next hv => cases h; exact lv_dup hx hb hd (ma_cat1 ad (by simpa using hv)) k
  · split at h
    · cases h
    · next hv => cases h; exact lv_pop hx hb hd (ma_cat1 ad (by simpa using hv)) k
  · split at h
    · cases h
    · next hv =>
      cases h
      simp only [Bool.or_eq_true, not_or, Bool.not_eq_true] at hv
      exact lv_dup2_11 hx hb hd (ma_cat1 ad hv.1) (ma_cat1 ad hv.2) k
  · cases h
theorem ma_sto_ok (hx : p.tables.exec = Jvm.exec) (hb : c.code = cc) {i : Instr} {n nL : Nat} {L L' : ma_L} {st st' : List ma_V} (hl : lv_has ls nL (ma_tl ad L)) (hd : decode cc pc = .ok (i, n)) (h : ma_sto i n nL L st = some (L', st'))
    (k : ∀ ls' : Array Slot, lv_has ls' nL (ma_tl ad L') → W p l e R s m args below meth c H locs cells slots Q (F0 m (pc + n) ls' (ma_ts ad st'))) : W p l e R s m args below meth c H locs cells slots Q (F0 m pc ls (ma_ts ad st)) := by
  unfold ma_sto at h
  split at h
  · split at h
    · next hk => cases h; exact lv_istore hx hb hd hl hk (ma_tl_st ad L _ (.inl _)) k
    · cases h
  · split at h
    · next hk => cases h; exact lv_istore_n hx hb hd rfl hl hk (ma_tl_st ad L _ (.inl _)) k
    · cases h
  · next x r =>
    split at h
    · next hk =>
      cases h
      cases x with
      | none => exact lv_astoreN hx hb hd hl hk (ma_tl_st ad L _ (.inr (.inr none))) k
      | some a => exact lv_astore hx hb hd hl hk (ma_tl_st ad L _ (.inr (.inr (some a)))) k
    · cases h
  · next x r =>
    split at h
    · next hk =>
      cases h
      cases x with
      | none => exact lv_astore_nN hx hb hd rfl hl hk (ma_tl_st ad L _ (.inr (.inr none))) k
      | some a => exact lv_astore_n hx hb hd rfl hl hk (ma_tl_st ad L _ (.inr (.inr (some a)))) k
    · cases h
  · split at h
    · next x hg =>
      split at h
      · next hk =>
        cases h
        have hm := ma_get_at hg hl
        obtain ⟨j, hj⟩ : ∃ j, (ma_tl ad L)[j]? = some (_, Value.int x) := by
          unfold ma_get at hg
          cases hf : L.find? (fun q => q.1 == _) with
          | none => rw [hf] at hg; cases hg
          | some q =>
            rw [hf] at hg
            have h2 : q.2 = .inl x := Option.some.inj hg
            have h3 := List.find?_some hf
            have h4 : q ∈ L := List.mem_of_find?_eq_some hf
            obtain ⟨j, hj⟩ := List.getElem?_of_mem (show (q.1, ma_tv ad q.2) ∈ ma_tl ad L from List.mem_map.mpr ⟨q, h4, rfl⟩)
            refine ⟨j, ?_⟩
            rw [hj, h2, eq_of_beq h3]
            rfl
        exact lv_iinc hx hb hd hl hj rfl hk (ma_tl_st ad L _ (.inl _)) k
      · cases h
    · cases h
  · cases h
theorem ma_jmp_ok (hx : p.tables.exec = Jvm.exec) (hb : c.code = cc) {i : Instr} {n t : Nat} {st st' : List ma_V} (hd : decode cc pc = .ok (i, n)) (h : ma_jmp i n pc st = some (t, st'))
    (k : W p l e R s m args below meth c H locs cells slots Q (F0 m t ls (ma_ts ad st'))) : W p l e R s m args below meth c H locs cells slots Q (F0 m pc ls (ma_ts ad st)) := by
  have tk : ∀ {o : Int} {r : List ma_V}, (ma_to pc o).map (fun t => (t, r)) = some (t, st') → (pc : Int) + o = (t : Int) ∧ r = st' := by
    intro o r hh
    cases ht : ma_to pc o with
    | none => rw [ht] at hh; cases hh
    | some t' => rw [ht] at hh; cases hh; exact ⟨ma_to_eq ht, rfl⟩
  have tk2 : ∀ {o : Int} {b : Bool} {r : List ma_V}, (ma_to pc o).map (fun t => (if b then t else pc + 3, r)) = some (t, st') → ∃ t' : Nat, (pc : Int) + o = (t' : Int) ∧ (if b then t' else pc + 3) = t ∧ r = st' := by
    intro o b r hh
    cases ht : ma_to pc o with
    | none => rw [ht] at hh; cases hh
    | some t' => rw [ht] at hh; cases hh; exact ⟨t', ma_to_eq ht, rfl, rfl⟩
  unfold ma_jmp at h
  split at h
  · obtain ⟨h1, rfl⟩ := tk h
    exact lv_goto hx hb hd h1 k
  · next cd o x r =>
    obtain ⟨t', h1, h2, rfl⟩ := tk2 h
    cases cd <;> simp only [ma_c0, decide_eq_true_eq] at h2
    · exact lv_if_eq hx hb hd h1 (fun q => by rw [if_pos q] at h2; rw [h2]; exact k) (fun q => by rw [if_neg q] at h2; rw [h2]; exact k)
    · exact lv_if_ne hx hb hd h1 (fun q => by rw [if_pos q] at h2; rw [h2]; exact k) (fun q => by rw [if_neg (fun z => z q)] at h2; rw [h2]; exact k)
    · exact lv_if_lt hx hb hd h1 (fun q => by rw [if_pos q] at h2; rw [h2]; exact k) (fun q => by rw [if_neg q] at h2; rw [h2]; exact k)
    · exact lv_if_ge hx hb hd h1 (fun q => by rw [if_pos q] at h2; rw [h2]; exact k) (fun q => by rw [if_neg q] at h2; rw [h2]; exact k)
    · exact lv_if_gt hx hb hd h1 (fun q => by rw [if_pos q] at h2; rw [h2]; exact k) (fun q => by rw [if_neg q] at h2; rw [h2]; exact k)
    · exact lv_if_le hx hb hd h1 (fun q => by rw [if_pos q] at h2; rw [h2]; exact k) (fun q => by rw [if_neg q] at h2; rw [h2]; exact k)
  · next cd o y x r =>
    obtain ⟨t', h1, h2, rfl⟩ := tk2 h
    cases cd <;> simp only [ma_c2, decide_eq_true_eq] at h2
    · exact lv_icmp_eq hx hb hd h1 (fun q => by rw [if_pos q] at h2; rw [h2]; exact k) (fun q => by rw [if_neg q] at h2; rw [h2]; exact k)
    · exact lv_icmp_ne hx hb hd h1 (fun q => by rw [if_pos q] at h2; rw [h2]; exact k) (fun q => by rw [if_neg (fun z => z q)] at h2; rw [h2]; exact k)
    · exact lv_icmp_lt hx hb hd h1 (fun q => by rw [if_pos q] at h2; rw [h2]; exact k) (fun q => by rw [if_neg q] at h2; rw [h2]; exact k)
    · exact lv_icmp_ge hx hb hd h1 (fun q => by rw [if_pos q] at h2; rw [h2]; exact k) (fun q => by rw [if_neg q] at h2; rw [h2]; exact k)
    · exact lv_icmp_gt hx hb hd h1 (fun q => by rw [if_pos q] at h2; rw [h2]; exact k) (fun q => by rw [if_neg q] at h2; rw [h2]; exact k)
    · exact lv_icmp_le hx hb hd h1 (fun q => by rw [if_pos q] at h2; rw [h2]; exact k) (fun q => by rw [if_neg q] at h2; rw [h2]; exact k)
  · next o x r =>
    cases x with
    | none =>
      obtain ⟨h1, rfl⟩ := tk h
      exact lv_ifnullN hx hb hd h1 k
    | some a =>
      cases h
      exact lv_ifnull hx hb hd k
  · next o x r =>
    cases x with
    | none =>
      cases h
      exact lv_ifnonnullN hx hb hd k
    | some a =>
      obtain ⟨h1, rfl⟩ := tk h
      exact lv_ifnonnull hx hb hd h1 k
  · split at h
    · next hc =>
      obtain ⟨h1, rfl⟩ := tk h
      exact lv_tableOut hx hb hd hc h1 k
    · next hc =>
      split at h
      · next o ho =>
        obtain ⟨h1, rfl⟩ := tk h
        exact lv_tableIn hx hb hd (fun q => hc (Or.inl q)) (fun q => hc (Or.inr q)) ho h1 k
      · cases h
  · split at h
    · next hp =>
      obtain ⟨h1, rfl⟩ := tk h
      exact lv_lookup hx hb hd hp rfl h1 k
    · cases h
  · cases h
end MA1
end
section
/-! THE SMALL MACHINE, part 2: its heap (cells by number: shape, ints, longs, references), and the world of cells that stands for it.
Numbers below 64 name what lies outside: the script is 30, constant texts are 0 .., their rows of bytes 32 .. -/
abbrev ma_S : Type := Nat × Nat × Nat × (Nat → Nat × Nat) × (Nat → Nat → Int32) × (Nat → Nat → Int64) × (Nat → Nat → Option Nat)
/-- the next cell's number; cells made; slots made; shapes (kind, length); contents -/
abbrev mN (S : ma_S) : Nat := S.1
abbrev mC (S : ma_S) : Nat := S.2.1
abbrev mZ (S : ma_S) : Nat := S.2.2.1
abbrev mH (S : ma_S) : Nat → Nat × Nat := S.2.2.2.1
abbrev mI (S : ma_S) : Nat → Nat → Int32 := S.2.2.2.2.1
abbrev mL (S : ma_S) : Nat → Nat → Int64 := S.2.2.2.2.2.1
abbrev mR (S : ma_S) : Nat → Nat → Option Nat := S.2.2.2.2.2.2
/-- one slot of one cell -/
def ma_u {α : Type} (h : Nat → Nat → α) (c k : Nat) (x : α) : Nat → Nat → α := fun c' k' => if c' = c ∧ k' = k then x else h c' k'
/-- one cell -/
def ma_uc {α : Type} (h : Nat → α) (c : Nat) (x : α) : Nat → α := fun c' => if c' = c then x else h c'
theorem ma_u_eq {α : Type} (h : Nat → Nat → α) (c k : Nat) (x : α) : ma_u h c k x c = va_up (h c) k x := by
  funext j; unfold ma_u va_up; simp
theorem ma_u_ne {α : Type} (h : Nat → Nat → α) {c c' : Nat} (k : Nat) (x : α) (hn : c' ≠ c) : ma_u h c k x c' = h c' := by
  funext j; unfold ma_u; simp [hn]
theorem ma_u_at {α : Type} (h : Nat → Nat → α) (c k : Nat) (x : α) (k' : Nat) : ma_u h c k x c k' = if k' = k then x else h c k' := by
  unfold ma_u; simp
def ma_put (S : ma_S) (c k : Nat) (v : ma_V) : ma_S := match v with
  | .inl x => (S.1, S.2.1, S.2.2.1, S.2.2.2.1, ma_u (mI S) c k x, mL S, mR S)
  | .inr (.inl x) => (S.1, S.2.1, S.2.2.1, S.2.2.2.1, mI S, ma_u (mL S) c k x, mR S)
  | .inr (.inr r) => (S.1, S.2.1, S.2.2.1, S.2.2.2.1, mI S, mL S, ma_u (mR S) c k r)
/-- a new cell of kind t with n slots, all 0 or null -/
def ma_new (S : ma_S) (t n : Nat) : ma_S := (S.1 + 1, S.2.1 + 1, S.2.2.1 + n, ma_uc (mH S) S.1 (t, n), ma_uc (mI S) S.1 (fun _ => 0), ma_uc (mL S) S.1 (fun _ => 0), ma_uc (mR S) S.1 (fun _ => none))
/-- the value that a slot of that type has -/
def ma_rd (S : ma_S) (c k : Nat) (ty : FieldType) : ma_V := match ty with
  | .long => .inr (.inl (mL S c k))
  | .object _ => .inr (.inr (mR S c k))
  | .array _ => .inr (.inr (mR S c k))
  | _ => .inl (mI S c k)
/-- classes: by their places in vwCl -/
def ma_ft (t : Nat) : Nat → FieldType := match t with
  | 1 => tyX0 | 2 => tyX2 | 3 => tyX3 | 4 => tyX4 | 5 => tyX5 | 6 => tyX6 | 7 => tyX7 | 8 => tyX8 | 9 => tyX9 | 10 => tyX10 | 11 => tyX11 | 12 => tyX12
  | _ => fun _ => .int
def ma_fn (t : Nat) : Nat := match t with
  | 1 => 10 | 2 => 8 | 3 => 5 | 4 => 9 | 5 => 4 | 6 => 9 | 7 => 13 | 8 => 5 | 9 => 9 | 10 => 6 | 11 => 12 | 12 => 85
  | _ => 0
def ma_fs (ad : Nat → Nat) (S : ma_S) (c t : Nat) : List Value := (List.range (ma_fn t)).map (fun k => ma_tv ad (ma_rd S c k (ma_ft t k)))
/-- arrays: 20 int, 21 byte, 22 boolean, 23 long, 24 Thing, 25 Collector -/
def ma_tys (kA : Nat → ClassId) : List (ClassId × FieldType) := [(kA 20, .int), (kA 21, .byte), (kA 22, .boolean), (kA 23, .long), (kA 24, .object RX9), (kA 25, .object RX1)]
def ma_E (kA : Nat → ClassId) (ad : Nat → Nat) (S : ma_S) (c : Nat) : va_E :=
  if (mH S c).1 < 20 then .inr ((mH S c).1, ma_fs ad S c (mH S c).1)
  else if (mH S c).1 < 23 then .inl (kA (mH S c).1, (mH S c).2, .inl (mI S c))
  else if (mH S c).1 < 24 then .inl (kA (mH S c).1, (mH S c).2, .inr (.inl (mL S c)))
  else .inl (kA (mH S c).1, (mH S c).2, .inr (.inr (.inr (.inr (fun j => (mR S c j).map ad)))))
def ma_wl (kA : Nat → ClassId) (ad : Nat → Nat) (S : ma_S) : va_W := (List.range (mN S - 64)).map (fun j => (ad (j + 64), ma_E kA ad S (j + 64)))
theorem ma_wl_at {kA : Nat → ClassId} {ad : Nat → Nat} {S : ma_S} {c : Nat} (h1 : 64 ≤ c) (h2 : c < mN S) : (ma_wl kA ad S)[c - 64]? = some (ad c, ma_E kA ad S c) := by
  unfold ma_wl
  rw [List.getElem?_map, List.getElem?_range (by omega)]
  show some (ad (c - 64 + 64), ma_E kA ad S (c - 64 + 64)) = _
  rw [Nat.sub_add_cancel h1]
theorem ma_wl_set {kA : Nat → ClassId} {ad : Nat → Nat} {S S' : ma_S} {c : Nat} {e : va_E} (h1 : 64 ≤ c) (h2 : c < mN S) (hn : mN S' = mN S) (he : ma_E kA ad S' c = e) (ho : ∀ c', c' ≠ c → ma_E kA ad S' c' = ma_E kA ad S c') : (ma_wl kA ad S).set (c - 64) (ad c, e) = ma_wl kA ad S' := by
  apply List.ext_getElem?
  intro j
  unfold ma_wl
  rw [hn]
  by_cases hj : j = c - 64
  · subst hj
    rw [List.getElem?_set_self (by simp; omega), List.getElem?_map, List.getElem?_range (by omega)]
    show _ = some (ad (c - 64 + 64), ma_E kA ad S' (c - 64 + 64))
    rw [Nat.sub_add_cancel h1, he]
  · rw [List.getElem?_set_ne (Ne.symm hj), List.getElem?_map, List.getElem?_map]
    by_cases hl : j < mN S - 64
    · rw [List.getElem?_range hl]
      show some (ad (j + 64), ma_E kA ad S (j + 64)) = some (ad (j + 64), ma_E kA ad S' (j + 64))
      rw [ho (j + 64) (by omega)]
    · rw [List.getElem?_eq_none (by simp; omega)]
      rfl
/-- no reference beyond the last cell -/
def ma_cv (n : Nat) (v : ma_V) : Prop := ∀ b, v = .inr (.inr (some b)) → b < n
def ma_ch (S : ma_S) : Prop := (∀ c k b, mR S c k = some b → b < mN S) ∧ 64 ≤ mN S
def ma_cL (n : Nat) (L : ma_L) : Prop := ∀ q ∈ L, ma_cv n q.2
def ma_cs (n : Nat) (st : List ma_V) : Prop := ∀ v ∈ st, ma_cv n v
theorem ma_cv_i {n : Nat} {x : Int32} : ma_cv n (.inl x) := fun _ h => by cases h
theorem ma_cv_l {n : Nat} {x : Int64} : ma_cv n (.inr (.inl x)) := fun _ h => by cases h
theorem ma_cv_n {n : Nat} : ma_cv n (.inr (.inr none)) := fun _ h => by cases h
theorem ma_cv.mono {n n' : Nat} {v : ma_V} (h : ma_cv n v) (hn : n ≤ n') : ma_cv n' v := fun b hb => Nat.lt_of_lt_of_le (h b hb) hn
theorem ma_tv_ad {ad ad' : Nat → Nat} {n : Nat} {v : ma_V} (h : ma_cv n v) (ha : ∀ b, b < n → ad' b = ad b) : ma_tv ad' v = ma_tv ad v := by
  rcases v with x | x | r
  · rfl
  · rfl
  · cases r with
    | none => rfl
    | some b => show Value.ref (ad' b) = Value.ref (ad b); rw [ha b (h b rfl)]
theorem ma_tl_ad {ad ad' : Nat → Nat} {n : Nat} {L : ma_L} (h : ma_cL n L) (ha : ∀ b, b < n → ad' b = ad b) : ma_tl ad' L = ma_tl ad L := by
  unfold ma_tl
  apply List.map_congr_left
  intro q hq
  rw [ma_tv_ad (h q hq) ha]
theorem ma_ts_ad {ad ad' : Nat → Nat} {n : Nat} {st : List ma_V} (h : ma_cs n st) (ha : ∀ b, b < n → ad' b = ad b) : ma_ts ad' st = ma_ts ad st := by
  unfold ma_ts
  apply List.map_congr_left
  intro q hq
  rw [ma_tv_ad (h q hq) ha]
theorem ma_rd_cv {S : ma_S} (h : ma_ch S) (c k : Nat) (ty : FieldType) : ma_cv (mN S) (ma_rd S c k ty) := by
  intro b hb
  cases ty <;> simp only [ma_rd, reduceCtorEq, Sum.inr.injEq] at hb
  · exact h.1 c k b hb
  · exact h.1 c k b hb
theorem ma_E_ad {kA : Nat → ClassId} {ad ad' : Nat → Nat} {S : ma_S} (h : ma_ch S) (ha : ∀ b, b < mN S → ad' b = ad b) (c : Nat) : ma_E kA ad' S c = ma_E kA ad S c := by
  unfold ma_E
  have h1 : ma_fs ad' S c (mH S c).1 = ma_fs ad S c (mH S c).1 := by
    unfold ma_fs
    apply List.map_congr_left
    intro k _
    rw [ma_tv_ad (ma_rd_cv h c k _) ha]
  have h2 : (fun j => (mR S c j).map ad') = (fun j => (mR S c j).map ad) := by
    funext j
    cases hr : mR S c j with
    | none => rfl
    | some b => show some (ad' b) = some (ad b); rw [ha b (h.1 c j b hr)]
  rw [h1, h2]
theorem ma_E_congr {kA : Nat → ClassId} {ad : Nat → Nat} {S S' : ma_S} {c : Nat} (h1 : mH S' c = mH S c) (h2 : mI S' c = mI S c) (h3 : mL S' c = mL S c) (h4 : mR S' c = mR S c) : ma_E kA ad S' c = ma_E kA ad S c := by
  have h5 : ∀ k ty, ma_rd S' c k ty = ma_rd S c k ty := by
    intro k ty
    cases ty <;> simp only [ma_rd, h2, h3, h4]
  unfold ma_E ma_fs
  simp only [h1, h2, h3, h4, h5]
theorem ma_wl_new {kA : Nat → ClassId} {ad : Nat → Nat} {S : ma_S} (h : ma_ch S) (t n q : Nat) : ma_wl kA (va_up ad (mN S) q) (ma_new S t n) = ma_wl kA ad S ++ [(q, ma_E kA (va_up ad (mN S) q) (ma_new S t n) (mN S))] := by
  have h32 := h.2
  unfold ma_wl
  have hn : mN (ma_new S t n) - 64 = (mN S - 64) + 1 := by show S.1 + 1 - 64 = _; show _ = S.1 - 64 + 1; have : 64 ≤ S.1 := h32; omega
  rw [hn, List.range_succ, List.map_append]
  congr 1
  · apply List.map_congr_left
    intro j hj
    have hj := List.mem_range.mp hj
    have hne : j + 64 ≠ mN S := by omega
    have e1 : va_up ad (mN S) q (j + 64) = ad (j + 64) := va_up_ne ad q hne
    have e2 : ma_E kA (va_up ad (mN S) q) (ma_new S t n) (j + 64) = ma_E kA ad S (j + 64) := by
      rw [← ma_E_ad (ad' := va_up ad (mN S) q) h (fun b hb => va_up_ne ad q (by omega))]
      have hne : j + 64 ≠ S.1 := hne
      exact ma_E_congr (if_neg hne) (if_neg hne) (if_neg hne) (if_neg hne)
    rw [e1, e2]
  · have e : mN S - 64 + 64 = mN S := Nat.sub_add_cancel h32
    rw [List.map_cons, List.map_nil, e, va_up_self]
theorem ma_new_ch {S : ma_S} (h : ma_ch S) (t n : Nat) : ma_ch (ma_new S t n) := by
  refine ⟨fun c k b hb => ?_, Nat.le_succ_of_le h.2⟩
  have hb : ma_uc (mR S) S.1 (fun _ => none) c k = some b := hb
  unfold ma_uc at hb
  split at hb
  · cases hb
  · exact Nat.lt_succ_of_lt (h.1 c k b hb)
theorem ma_put_ch {S : ma_S} (h : ma_ch S) {c k : Nat} {v : ma_V} (hv : ma_cv (mN S) v) : ma_ch (ma_put S c k v) := by
  rcases v with x | x | r
  · exact h
  · exact h
  · refine ⟨fun c' k' b hb => ?_, h.2⟩
    have hb : ma_u (mR S) c k r c' k' = some b := hb
    unfold ma_u at hb
    split at hb
    · exact hv b (by rw [hb])
    · exact h.1 c' k' b hb
theorem ma_put_n (S : ma_S) (c k : Nat) (v : ma_V) : mN (ma_put S c k v) = mN S ∧ mC (ma_put S c k v) = mC S ∧ mZ (ma_put S c k v) = mZ S ∧ mH (ma_put S c k v) = mH S := by
  rcases v with x | x | r <;> exact ⟨rfl, rfl, rfl, rfl⟩
theorem ma_put_o {kA : Nat → ClassId} {ad : Nat → Nat} {S : ma_S} {c k : Nat} {v : ma_V} {c' : Nat} (h : c' ≠ c) : ma_E kA ad (ma_put S c k v) c' = ma_E kA ad S c' := by
  rcases v with x | x | r
  · exact ma_E_congr rfl (ma_u_ne _ _ _ h) rfl rfl
  · exact ma_E_congr rfl rfl (ma_u_ne _ _ _ h) rfl
  · exact ma_E_congr rfl rfl rfl (ma_u_ne _ _ _ h)
end
section
/-! field links by numbers: (own class, pool entry, class of the object) to the field's place; each with its rows of tables_1 -/
def ma_cn (o : Nat) : String := match o with
  | 0 => "java/lang/ClassCastException"
  | 1 => "CollectorHouse$Ages"
  | 2 => "CollectorHouse$Counts"
  | 3 => "CollectorHouse$Halves"
  | 4 => "CollectorHouse$Regions"
  | 5 => "CollectorHouse$Slide"
  | 6 => "CollectorHouse$Steps"
  | 7 => "CollectorHouse$Store"
  | 8 => "CollectorHouse$Sweep"
  | 9 => "CollectorHouse$Thing"
  | 10 => "CollectorHouse$Walk"
  | 11 => "CollectorHouse"
  | 12 => "CollectorHouseModel"
  | 13 => "CollectorHouse$Collector"
  | 14 => "CollectorHouseLaw"
  | 15 => "java/util/Arrays"
  | 16 => "java/lang/Math"
  | 17 => "java/lang/String"
  | 18 => "java/lang/StringLatin1"
  | 19 => "jdk/internal/util/Preconditions"
  | _ => ""
/-- private methods, called on objects of a class below -/
def ma_sx : List Cond := [.selects "CollectorHouse$Counts" ⟨"CollectorHouse$Sweep", "fitFirst", "(III)I"⟩ ⟨"CollectorHouse$Sweep", "fitFirst", "(III)I"⟩, .selects "CollectorHouse$Counts" ⟨"CollectorHouse$Sweep", "fitNext", "(I)I"⟩ ⟨"CollectorHouse$Sweep", "fitNext", "(I)I"⟩, .selects "CollectorHouse$Counts" ⟨"CollectorHouse$Sweep", "fitByLength", "(IZ)I"⟩ ⟨"CollectorHouse$Sweep", "fitByLength", "(IZ)I"⟩, .selects "CollectorHouse$Steps" ⟨"CollectorHouse$Sweep", "fitFirst", "(III)I"⟩ ⟨"CollectorHouse$Sweep", "fitFirst", "(III)I"⟩, .selects "CollectorHouse$Steps" ⟨"CollectorHouse$Sweep", "fitNext", "(I)I"⟩ ⟨"CollectorHouse$Sweep", "fitNext", "(I)I"⟩, .selects "CollectorHouse$Steps" ⟨"CollectorHouse$Sweep", "fitByLength", "(IZ)I"⟩ ⟨"CollectorHouse$Sweep", "fitByLength", "(IZ)I"⟩]
def ma_TB : List Cond := (ma_sx ++ lw_tbl).filter goodWord
theorem ma_TB_in {w : Cond} {j : Nat} (h : decide (tables_1[j]? = some w) = true) (hg : goodWord w = true) : w ∈ ma_TB :=
  List.mem_filter.mpr ⟨List.mem_append_right _ (List.mem_append_right _ (List.mem_of_getElem? (of_decide_eq_true h))), hg⟩
theorem ma_TB_p {w : Cond} (h : (decide (w ∈ ma_sx) || decide (w ∈ k2_sels lw_privs)) = true) (hg : goodWord w = true) : w ∈ ma_TB := by
  simp only [Bool.or_eq_true, decide_eq_true_eq] at h
  refine List.mem_filter.mpr ⟨?_, hg⟩
  rcases h with h | h
  · exact List.mem_append_left _ h
  · exact List.mem_append_right _ (List.mem_append_left _ h)
def ma_flc (q : (Nat × Nat × Nat × Nat) × String × Nat × Nat) : Bool := match vwCl[q.1.2.2.1]? with
  | some (_, T, N) => decide (q.1.2.2.2 < N) && decide (N = ma_fn q.1.2.2.1) && decide (parseFieldDescriptor (T q.1.2.2.2).2.2.1 = some (ma_ft q.1.2.2.1 q.1.2.2.2)) &&
    (decide (tables_1[q.2.2.1]? = some (.fieldLink (ma_cn q.1.1) q.1.2.1 q.2.1 (T q.1.2.2.2).2.1 (T q.1.2.2.2).2.2.1)) && goodWord (.fieldLink (ma_cn q.1.1) q.1.2.1 q.2.1 (T q.1.2.2.2).2.1 (T q.1.2.2.2).2.2.1)) &&
    (decide (q.2.1 = (T q.1.2.2.2).1) || (decide (tables_1[q.2.2.2]? = some (.sameField q.2.1 (T q.1.2.2.2).1 (T q.1.2.2.2).2.1 (T q.1.2.2.2).2.2.1)) && goodWord (.sameField q.2.1 (T q.1.2.2.2).1 (T q.1.2.2.2).2.1 (T q.1.2.2.2).2.2.1)))
  | none => false
def ma_flh_0 : List ((Nat × Nat × Nat × Nat) × String × Nat × Nat) := [((7, 11, 7, 0), "CollectorHouse$Store", 46, 0), ((7, 17, 7, 1), "CollectorHouse$Store", 47, 0), ((7, 21, 7, 2), "CollectorHouse$Store", 48, 0), ((10, 61, 7, 2), "CollectorHouse$Store", 49, 0), ((7, 24, 7, 3), "CollectorHouse$Store", 50, 0), ((11, 173, 7, 3), "CollectorHouse$Store", 51, 0), ((7, 27, 7, 4), "CollectorHouse$Store", 52, 0), ((10, 77, 7, 4), "CollectorHouse$Store", 53, 0), ((7, 36, 7, 5), "CollectorHouse$Store", 54, 0), ((10, 74, 7, 5), "CollectorHouse$Store", 55, 0), ((11, 259, 7, 5), "CollectorHouse$Store", 56, 0), ((7, 40, 7, 6), "CollectorHouse$Store", 57, 0), ((10, 80, 7, 6), "CollectorHouse$Store", 58, 0), ((1, 119, 7, 6), "CollectorHouse$Store", 59, 0), ((4, 104, 7, 6), "CollectorHouse$Store", 60, 0), ((11, 244, 7, 6), "CollectorHouse$Store", 61, 0), ((7, 43, 7, 7), "CollectorHouse$Store", 62, 0), ((11, 238, 7, 7), "CollectorHouse$Store", 63, 0), ((7, 46, 7, 8), "CollectorHouse$Store", 64, 0), ((6, 42, 7, 8), "CollectorHouse$Store", 65, 0), ((11, 241, 7, 8), "CollectorHouse$Store", 66, 0), ((7, 49, 7, 9), "CollectorHouse$Store", 67, 0), ((11, 247, 7, 9), "CollectorHouse$Store", 68, 0), ((7, 52, 7, 10), "CollectorHouse$Store", 69, 0), ((11, 250, 7, 10), "CollectorHouse$Store", 70, 0), ((7, 55, 7, 11), "CollectorHouse$Store", 71, 0), ((11, 253, 7, 11), "CollectorHouse$Store", 72, 0), ((7, 58, 7, 12), "CollectorHouse$Store", 73, 0), ((8, 67, 7, 12), "CollectorHouse$Store", 74, 0), ((11, 256, 7, 12), "CollectorHouse$Store", 75, 0), ((10, 18, 10, 0), "CollectorHouse$Walk", 111, 0), ((10, 9, 10, 1), "CollectorHouse$Walk", 112, 0), ((10, 15, 10, 2), "CollectorHouse$Walk", 113, 0), ((10, 28, 10, 3), "CollectorHouse$Walk", 114, 0), ((6, 107, 10, 3), "CollectorHouse$Walk", 115, 0), ((10, 32, 10, 4), "CollectorHouse$Walk", 116, 0), ((3, 44, 10, 4), "CollectorHouse$Walk", 117, 0), ((6, 104, 10, 4), "CollectorHouse$Walk", 118, 0), ((1, 147, 10, 4), "CollectorHouse$Walk", 119, 0), ((10, 35, 10, 5), "CollectorHouse$Walk", 120, 0), ((8, 9, 2, 0), "CollectorHouse$Sweep", 145, 0), ((8, 9, 6, 0), "CollectorHouse$Sweep", 145, 0), ((8, 9, 8, 2), "CollectorHouse$Sweep", 145, 0), ((6, 35, 6, 0), "CollectorHouse$Steps", 146, 147), ((8, 15, 2, 1), "CollectorHouse$Sweep", 148, 0), ((8, 15, 6, 1), "CollectorHouse$Sweep", 148, 0), ((8, 15, 8, 3), "CollectorHouse$Sweep", 148, 0), ((8, 18, 2, 2), "CollectorHouse$Sweep", 149, 0), ((8, 18, 6, 2), "CollectorHouse$Sweep", 149, 0), ((8, 18, 8, 4), "CollectorHouse$Sweep", 149, 0), ((13, 9, 1, 0), "CollectorHouse$Collector", 150, 0), ((13, 9, 2, 3), "CollectorHouse$Collector", 150, 0), ((13, 9, 3, 0), "CollectorHouse$Collector", 150, 0), ((13, 9, 4, 0), "CollectorHouse$Collector", 150, 0), ((13, 9, 5, 0), "CollectorHouse$Collector", 150, 0), ((13, 9, 6, 3), "CollectorHouse$Collector", 150, 0), ((13, 9, 8, 0), "CollectorHouse$Collector", 150, 0), ((6, 38, 6, 3), "CollectorHouse$Steps", 151, 152), ((2, 41, 2, 3), "CollectorHouse$Counts", 153, 154), ((3, 53, 3, 0), "CollectorHouse$Halves", 155, 156)]
def ma_flh_1 : List ((Nat × Nat × Nat × Nat) × String × Nat × Nat) := [((8, 46, 2, 3), "CollectorHouse$Sweep", 157, 158), ((8, 46, 6, 3), "CollectorHouse$Sweep", 157, 158), ((8, 46, 8, 0), "CollectorHouse$Sweep", 157, 158), ((1, 80, 1, 0), "CollectorHouse$Ages", 159, 160), ((4, 100, 4, 0), "CollectorHouse$Regions", 161, 162), ((13, 15, 1, 1), "CollectorHouse$Collector", 163, 0), ((13, 15, 2, 4), "CollectorHouse$Collector", 163, 0), ((13, 15, 3, 1), "CollectorHouse$Collector", 163, 0), ((13, 15, 4, 1), "CollectorHouse$Collector", 163, 0), ((13, 15, 5, 1), "CollectorHouse$Collector", 163, 0), ((13, 15, 6, 4), "CollectorHouse$Collector", 163, 0), ((13, 15, 8, 1), "CollectorHouse$Collector", 163, 0), ((3, 40, 3, 1), "CollectorHouse$Halves", 164, 165), ((1, 70, 1, 1), "CollectorHouse$Ages", 166, 167), ((5, 9, 5, 2), "CollectorHouse$Slide", 185, 0), ((5, 15, 5, 3), "CollectorHouse$Slide", 186, 0), ((3, 9, 3, 2), "CollectorHouse$Halves", 200, 0), ((3, 15, 3, 3), "CollectorHouse$Halves", 201, 0), ((3, 18, 3, 4), "CollectorHouse$Halves", 202, 0), ((1, 15, 1, 2), "CollectorHouse$Ages", 218, 0), ((1, 19, 1, 3), "CollectorHouse$Ages", 219, 0), ((1, 22, 1, 4), "CollectorHouse$Ages", 220, 0), ((1, 25, 1, 5), "CollectorHouse$Ages", 221, 0), ((1, 28, 1, 6), "CollectorHouse$Ages", 222, 0), ((1, 31, 1, 7), "CollectorHouse$Ages", 223, 0), ((1, 34, 1, 8), "CollectorHouse$Ages", 224, 0), ((1, 9, 1, 9), "CollectorHouse$Ages", 225, 0), ((2, 11, 2, 5), "CollectorHouse$Counts", 252, 0), ((2, 17, 2, 6), "CollectorHouse$Counts", 253, 0), ((2, 25, 2, 7), "CollectorHouse$Counts", 254, 0), ((6, 14, 6, 5), "CollectorHouse$Steps", 275, 0), ((6, 24, 6, 6), "CollectorHouse$Steps", 276, 0), ((6, 28, 6, 7), "CollectorHouse$Steps", 277, 0), ((6, 31, 6, 8), "CollectorHouse$Steps", 278, 0), ((4, 18, 4, 2), "CollectorHouse$Regions", 299, 0), ((4, 28, 4, 3), "CollectorHouse$Regions", 300, 0), ((4, 31, 4, 4), "CollectorHouse$Regions", 301, 0), ((4, 34, 4, 5), "CollectorHouse$Regions", 302, 0), ((4, 83, 4, 6), "CollectorHouse$Regions", 303, 0), ((4, 9, 4, 7), "CollectorHouse$Regions", 304, 0), ((4, 15, 4, 8), "CollectorHouse$Regions", 305, 0), ((11, 9, 11, 0), "CollectorHouse", 323, 0), ((11, 68, 11, 1), "CollectorHouse", 324, 0), ((11, 92, 11, 2), "CollectorHouse", 325, 0), ((11, 275, 11, 3), "CollectorHouse", 326, 0), ((11, 13, 11, 4), "CollectorHouse", 327, 0), ((11, 17, 11, 5), "CollectorHouse", 328, 0), ((11, 20, 11, 6), "CollectorHouse", 329, 0), ((11, 82, 11, 7), "CollectorHouse", 330, 0), ((11, 26, 11, 8), "CollectorHouse", 331, 0), ((11, 35, 11, 9), "CollectorHouse", 332, 0), ((11, 64, 11, 10), "CollectorHouse", 333, 0), ((11, 98, 11, 11), "CollectorHouse", 334, 0), ((9, 7, 9, 0), "CollectorHouse$Thing", 1017, 0), ((10, 58, 9, 0), "CollectorHouse$Thing", 1018, 0), ((7, 67, 9, 0), "CollectorHouse$Thing", 1019, 0), ((11, 182, 9, 0), "CollectorHouse$Thing", 1020, 0), ((9, 13, 9, 1), "CollectorHouse$Thing", 1021, 0), ((11, 220, 9, 1), "CollectorHouse$Thing", 1022, 0), ((9, 16, 9, 2), "CollectorHouse$Thing", 1023, 0)]
def ma_flh_2 : List ((Nat × Nat × Nat × Nat) × String × Nat × Nat) := [((7, 64, 9, 2), "CollectorHouse$Thing", 1024, 0), ((8, 34, 9, 2), "CollectorHouse$Thing", 1025, 0), ((5, 27, 9, 2), "CollectorHouse$Thing", 1026, 0), ((3, 34, 9, 2), "CollectorHouse$Thing", 1027, 0), ((1, 67, 9, 2), "CollectorHouse$Thing", 1028, 0), ((4, 63, 9, 2), "CollectorHouse$Thing", 1029, 0), ((10, 89, 9, 2), "CollectorHouse$Thing", 1030, 0), ((13, 38, 9, 2), "CollectorHouse$Thing", 1031, 0), ((11, 217, 9, 2), "CollectorHouse$Thing", 1032, 0), ((9, 19, 9, 3), "CollectorHouse$Thing", 1033, 0), ((7, 74, 9, 3), "CollectorHouse$Thing", 1034, 0), ((9, 23, 9, 4), "CollectorHouse$Thing", 1035, 0), ((10, 49, 9, 4), "CollectorHouse$Thing", 1036, 0), ((7, 61, 9, 4), "CollectorHouse$Thing", 1037, 0), ((8, 29, 9, 4), "CollectorHouse$Thing", 1038, 0), ((5, 22, 9, 4), "CollectorHouse$Thing", 1039, 0), ((3, 29, 9, 4), "CollectorHouse$Thing", 1040, 0), ((1, 62, 9, 4), "CollectorHouse$Thing", 1041, 0), ((4, 97, 9, 4), "CollectorHouse$Thing", 1042, 0), ((13, 51, 9, 4), "CollectorHouse$Thing", 1043, 0), ((11, 214, 9, 4), "CollectorHouse$Thing", 1044, 0), ((1, 126, 9, 5), "CollectorHouse$Thing", 1045, 0), ((11, 223, 9, 5), "CollectorHouse$Thing", 1046, 0), ((2, 21, 9, 6), "CollectorHouse$Thing", 1047, 0), ((7, 98, 9, 6), "CollectorHouse$Thing", 1048, 0), ((10, 83, 9, 7), "CollectorHouse$Thing", 1049, 0), ((7, 101, 9, 7), "CollectorHouse$Thing", 1050, 0), ((11, 189, 9, 7), "CollectorHouse$Thing", 1051, 0), ((4, 117, 9, 7), "CollectorHouse$Thing", 1052, 0), ((13, 44, 9, 7), "CollectorHouse$Thing", 1053, 0), ((2, 57, 9, 8), "CollectorHouse$Thing", 1054, 0), ((7, 108, 9, 8), "CollectorHouse$Thing", 1055, 0), ((11, 199, 9, 8), "CollectorHouse$Thing", 1056, 0), ((12, 1, 12, 0), "CollectorHouseModel", 1514, 0), ((12, 13, 12, 1), "CollectorHouseModel", 1515, 0), ((12, 17, 12, 2), "CollectorHouseModel", 1516, 0), ((12, 107, 12, 3), "CollectorHouseModel", 1517, 0), ((12, 124, 12, 4), "CollectorHouseModel", 1518, 0), ((12, 20, 12, 5), "CollectorHouseModel", 1519, 0), ((12, 24, 12, 6), "CollectorHouseModel", 1520, 0), ((12, 118, 12, 7), "CollectorHouseModel", 1521, 0), ((12, 237, 12, 8), "CollectorHouseModel", 1522, 0), ((12, 228, 12, 9), "CollectorHouseModel", 1523, 0), ((12, 199, 12, 10), "CollectorHouseModel", 1524, 0), ((12, 202, 12, 11), "CollectorHouseModel", 1525, 0), ((12, 205, 12, 12), "CollectorHouseModel", 1526, 0), ((12, 207, 12, 13), "CollectorHouseModel", 1527, 0), ((12, 210, 12, 14), "CollectorHouseModel", 1528, 0), ((12, 213, 12, 15), "CollectorHouseModel", 1529, 0), ((12, 216, 12, 16), "CollectorHouseModel", 1530, 0), ((12, 219, 12, 17), "CollectorHouseModel", 1531, 0), ((12, 222, 12, 18), "CollectorHouseModel", 1532, 0), ((12, 225, 12, 19), "CollectorHouseModel", 1533, 0), ((12, 162, 12, 20), "CollectorHouseModel", 1534, 0), ((12, 159, 12, 21), "CollectorHouseModel", 1535, 0), ((12, 154, 12, 22), "CollectorHouseModel", 1536, 0), ((12, 165, 12, 23), "CollectorHouseModel", 1537, 0), ((12, 168, 12, 24), "CollectorHouseModel", 1538, 0), ((12, 171, 12, 25), "CollectorHouseModel", 1539, 0), ((12, 174, 12, 26), "CollectorHouseModel", 1540, 0)]
def ma_flh_3 : List ((Nat × Nat × Nat × Nat) × String × Nat × Nat) := [((12, 183, 12, 27), "CollectorHouseModel", 1541, 0), ((12, 190, 12, 28), "CollectorHouseModel", 1542, 0), ((12, 193, 12, 29), "CollectorHouseModel", 1543, 0), ((12, 186, 12, 30), "CollectorHouseModel", 1544, 0), ((12, 27, 12, 31), "CollectorHouseModel", 1545, 0), ((12, 31, 12, 32), "CollectorHouseModel", 1546, 0), ((12, 34, 12, 33), "CollectorHouseModel", 1547, 0), ((12, 37, 12, 34), "CollectorHouseModel", 1548, 0), ((12, 40, 12, 35), "CollectorHouseModel", 1549, 0), ((12, 43, 12, 36), "CollectorHouseModel", 1550, 0), ((12, 46, 12, 37), "CollectorHouseModel", 1551, 0), ((12, 49, 12, 38), "CollectorHouseModel", 1552, 0), ((12, 52, 12, 39), "CollectorHouseModel", 1553, 0), ((12, 56, 12, 40), "CollectorHouseModel", 1554, 0), ((12, 59, 12, 41), "CollectorHouseModel", 1555, 0), ((12, 62, 12, 42), "CollectorHouseModel", 1556, 0), ((12, 65, 12, 43), "CollectorHouseModel", 1557, 0), ((12, 240, 12, 44), "CollectorHouseModel", 1558, 0), ((12, 243, 12, 45), "CollectorHouseModel", 1559, 0), ((12, 246, 12, 46), "CollectorHouseModel", 1560, 0), ((12, 249, 12, 47), "CollectorHouseModel", 1561, 0), ((12, 252, 12, 48), "CollectorHouseModel", 1562, 0), ((12, 255, 12, 49), "CollectorHouseModel", 1563, 0), ((12, 258, 12, 50), "CollectorHouseModel", 1564, 0), ((12, 68, 12, 51), "CollectorHouseModel", 1565, 0), ((12, 71, 12, 52), "CollectorHouseModel", 1566, 0), ((12, 74, 12, 53), "CollectorHouseModel", 1567, 0), ((12, 77, 12, 54), "CollectorHouseModel", 1568, 0), ((12, 261, 12, 55), "CollectorHouseModel", 1569, 0), ((12, 264, 12, 56), "CollectorHouseModel", 1570, 0), ((12, 267, 12, 57), "CollectorHouseModel", 1571, 0), ((12, 270, 12, 58), "CollectorHouseModel", 1572, 0), ((12, 276, 12, 59), "CollectorHouseModel", 1573, 0), ((12, 279, 12, 60), "CollectorHouseModel", 1574, 0), ((12, 273, 12, 61), "CollectorHouseModel", 1575, 0), ((12, 282, 12, 62), "CollectorHouseModel", 1576, 0), ((12, 285, 12, 63), "CollectorHouseModel", 1577, 0), ((12, 234, 12, 64), "CollectorHouseModel", 1578, 0), ((12, 80, 12, 65), "CollectorHouseModel", 1579, 0), ((12, 83, 12, 66), "CollectorHouseModel", 1580, 0), ((12, 121, 12, 67), "CollectorHouseModel", 1581, 0), ((12, 127, 12, 68), "CollectorHouseModel", 1582, 0), ((12, 130, 12, 69), "CollectorHouseModel", 1583, 0), ((12, 133, 12, 70), "CollectorHouseModel", 1584, 0), ((12, 147, 12, 71), "CollectorHouseModel", 1585, 0), ((12, 86, 12, 72), "CollectorHouseModel", 1586, 0), ((12, 291, 12, 73), "CollectorHouseModel", 1587, 0), ((12, 89, 12, 74), "CollectorHouseModel", 1588, 0), ((12, 356, 12, 75), "CollectorHouseModel", 1589, 0), ((12, 362, 12, 76), "CollectorHouseModel", 1590, 0), ((12, 359, 12, 77), "CollectorHouseModel", 1591, 0), ((12, 92, 12, 78), "CollectorHouseModel", 1592, 0), ((12, 95, 12, 79), "CollectorHouseModel", 1593, 0), ((12, 390, 12, 80), "CollectorHouseModel", 1594, 0), ((12, 98, 12, 81), "CollectorHouseModel", 1595, 0), ((12, 101, 12, 82), "CollectorHouseModel", 1596, 0), ((12, 104, 12, 83), "CollectorHouseModel", 1597, 0), ((12, 420, 12, 84), "CollectorHouseModel", 1598, 0)]
def ma_flh : List ((Nat × Nat × Nat × Nat) × String × Nat × Nat) := ma_flh_0 ++ ma_flh_1 ++ ma_flh_2 ++ ma_flh_3
theorem ma_flh_ok0 : ma_flh_0.all ma_flc = true := by decide +kernel
theorem ma_flh_ok1 : ma_flh_1.all ma_flc = true := by decide +kernel
theorem ma_flh_ok2 : ma_flh_2.all ma_flc = true := by decide +kernel
theorem ma_flh_ok3 : ma_flh_3.all ma_flc = true := by decide +kernel
theorem ma_flh_ok : ∀ q ∈ ma_flh, ma_flc q = true := by
  intro q hq
  simp only [ma_flh, List.mem_append] at hq
  rcases hq with ((hq | hq) | hq) | hq
  · exact List.all_eq_true.mp ma_flh_ok0 q hq
  · exact List.all_eq_true.mp ma_flh_ok1 q hq
  · exact List.all_eq_true.mp ma_flh_ok2 q hq
  · exact List.all_eq_true.mp ma_flh_ok3 q hq
def ma_fld (o i t : Nat) : Option Nat := (ma_flh.find? (fun q => q.1.1 == o && q.1.2.1 == i && q.1.2.2.1 == t)).map (fun q => q.1.2.2.2)
end
section
/-! the classes of the world, by their numbers: their words, types and names -/
theorem ma_lay_in {C : String} {T : u_T} {N : Nat} (is : List Nat) (h : (List.range N).all (fun k => decide (tables_1[is.getD k 0]? = some (u_lay C T k)) && goodWord (u_lay C T k)) = true) : ∀ w ∈ u_ws C T N, w ∈ ma_TB := by
  intro w hw
  obtain ⟨k, hk, rfl⟩ := List.mem_map.mp hw
  have := List.all_eq_true.mp h k hk
  simp only [Bool.and_eq_true] at this
  exact ma_TB_in this.1 this.2
def ma_clok (t : Nat) : Prop := ∃ (C : String) (T : u_T), vwCl[t]? = some (C, T, ma_fn t) ∧ (∀ w ∈ u_ws C T (ma_fn t), w ∈ ma_TB) ∧ (∀ k, k < ma_fn t → parseFieldDescriptor (T k).2.2.1 = some (ma_ft t k)) ∧ ∀ a, a < ma_fn t → ∀ b, b < ma_fn t → a ≠ b → (T a).2.1 ≠ (T b).2.1
theorem ma_clw1 : ∀ w ∈ u_ws RX0 TX0 10, w ∈ ma_TB := ma_lay_in [242, 243, 226, 228, 230, 232, 234, 236, 238, 240] (by decide +kernel)
theorem ma_clok1 : ma_clok 1 := ⟨RX0, TX0, rfl, ma_clw1, tyX0_ok, nmX0⟩
theorem ma_clw2 : ∀ w ∈ u_ws RX2 TX2 8, w ∈ ma_TB := ma_lay_in [261, 262, 263, 264, 265, 255, 257, 259] (by decide +kernel)
theorem ma_clok2 : ma_clok 2 := ⟨RX2, TX2, rfl, ma_clw2, tyX2_ok, nmX2⟩
theorem ma_clw3 : ∀ w ∈ u_ws RX3 TX3 5, w ∈ ma_TB := ma_lay_in [209, 210, 203, 205, 207] (by decide +kernel)
theorem ma_clok3 : ma_clok 3 := ⟨RX3, TX3, rfl, ma_clw3, tyX3_ok, nmX3⟩
theorem ma_clw4 : ∀ w ∈ u_ws RX4 TX4 9, w ∈ ma_TB := ma_lay_in [320, 321, 306, 308, 310, 312, 314, 316, 318] (by decide +kernel)
theorem ma_clok4 : ma_clok 4 := ⟨RX4, TX4, rfl, ma_clw4, tyX4_ok, nmX4⟩
theorem ma_clw5 : ∀ w ∈ u_ws RX5 TX5 4, w ∈ ma_TB := ma_lay_in [191, 192, 187, 189] (by decide +kernel)
theorem ma_clok5 : ma_clok 5 := ⟨RX5, TX5, rfl, ma_clw5, tyX5_ok, nmX5⟩
theorem ma_clw6 : ∀ w ∈ u_ws RX6 TX6 9, w ∈ ma_TB := ma_lay_in [287, 288, 289, 290, 291, 279, 281, 283, 285] (by decide +kernel)
theorem ma_clok6 : ma_clok 6 := ⟨RX6, TX6, rfl, ma_clw6, tyX6_ok, nmX6⟩
theorem ma_clw7 : ∀ w ∈ u_ws RX7 TX7 13, w ∈ ma_TB := ma_lay_in [76, 78, 80, 82, 84, 86, 88, 90, 92, 94, 96, 98, 100] (by decide +kernel)
theorem ma_clok7 : ma_clok 7 := ⟨RX7, TX7, rfl, ma_clw7, tyX7_ok, nmX7⟩
theorem ma_clw8 : ∀ w ∈ u_ws RX8 TX8 5, w ∈ ma_TB := ma_lay_in [174, 176, 168, 170, 172] (by decide +kernel)
theorem ma_clok8 : ma_clok 8 := ⟨RX8, TX8, rfl, ma_clw8, tyX8_ok, nmX8⟩
theorem ma_clw9 : ∀ w ∈ u_ws RX9 TX9 9, w ∈ ma_TB := ma_lay_in [1057, 1059, 1061, 1063, 1065, 1067, 1069, 1071, 1073] (by decide +kernel)
theorem ma_clok9 : ma_clok 9 := ⟨RX9, TX9, rfl, ma_clw9, tyX9_ok, nmX9⟩
theorem ma_clw10 : ∀ w ∈ u_ws RX10 TX10 6, w ∈ ma_TB := ma_lay_in [121, 123, 125, 127, 129, 131] (by decide +kernel)
theorem ma_clok10 : ma_clok 10 := ⟨RX10, TX10, rfl, ma_clw10, tyX10_ok, nmX10⟩
theorem ma_clw11 : ∀ w ∈ u_ws RX11 TX11 12, w ∈ ma_TB := ma_lay_in [335, 337, 339, 341, 343, 345, 347, 349, 351, 353, 355, 357] (by decide +kernel)
theorem ma_clok11 : ma_clok 11 := ⟨RX11, TX11, rfl, ma_clw11, tyX11_ok, nmX11⟩
theorem ma_clw12 : ∀ w ∈ u_ws RX12 TX12 85, w ∈ ma_TB := ma_lay_in [1599, 1601, 1603, 1605, 1607, 1609, 1611, 1613, 1615, 1617, 1619, 1621, 1623, 1625, 1627, 1629, 1631, 1633, 1635, 1637, 1639, 1641, 1643, 1645, 1647, 1649, 1651, 1653, 1655, 1657, 1659, 1661, 1663, 1665, 1667, 1669, 1671, 1673, 1675, 1677, 1679, 1681, 1683, 1685, 1687, 1689, 1691, 1693, 1695, 1697, 1699, 1701, 1703, 1705, 1707, 1709, 1711, 1713, 1715, 1717, 1719, 1721, 1723, 1725, 1727, 1729, 1731, 1733, 1735, 1737, 1739, 1741, 1743, 1745, 1747, 1749, 1751, 1753, 1755, 1757, 1759, 1761, 1763, 1765, 1767] (by decide +kernel)
theorem ma_clok12 : ma_clok 12 := ⟨RX12, TX12, rfl, ma_clw12, tyX12_ok, nmX12⟩
theorem ma_clok_all {t : Nat} (h1 : 1 ≤ t) (h2 : t ≤ 12) : ma_clok t := by
  have h : t = 1 ∨ t = 2 ∨ t = 3 ∨ t = 4 ∨ t = 5 ∨ t = 6 ∨ t = 7 ∨ t = 8 ∨ t = 9 ∨ t = 10 ∨ t = 11 ∨ t = 12 := by omega
  rcases h with rfl | rfl | rfl | rfl | rfl | rfl | rfl | rfl | rfl | rfl | rfl | rfl
  · exact ma_clok1
  · exact ma_clok2
  · exact ma_clok3
  · exact ma_clok4
  · exact ma_clok5
  · exact ma_clok6
  · exact ma_clok7
  · exact ma_clok8
  · exact ma_clok9
  · exact ma_clok10
  · exact ma_clok11
  · exact ma_clok12
end
section
/-! THE SMALL MACHINE, part 3: instructions on cells that are there -/
/-- what a field of that type takes as it is -/
def ma_ok (ty : FieldType) (v : ma_V) : Bool := match v with
  | .inl x => decide (narrow ty (.int x) = .int x) && fits ty (.int x)
  | .inr (.inl _) => decide (ty = .long)
  | .inr (.inr _) => match ty with
    | .object _ => true
    | .array _ => true
    | _ => false
theorem ma_ok_spec (ad : Nat → Nat) {ty : FieldType} {v : ma_V} (h : ma_ok ty v = true) : narrow ty (ma_tv ad v) = ma_tv ad v ∧ fits ty (ma_tv ad v) = true := by
  rcases v with x | x | r
  · simp only [ma_ok, Bool.and_eq_true, decide_eq_true_eq] at h
    exact h
  · simp only [ma_ok, decide_eq_true_eq] at h
    subst h
    exact ⟨rfl, rfl⟩
  · cases ty <;> simp only [ma_ok, Bool.false_eq_true] at h
    · cases r <;> exact ⟨rfl, rfl⟩
    · cases r <;> exact ⟨rfl, rfl⟩
/-- what is put there is what is read there -/
theorem ma_rd_put {S : ma_S} {c k : Nat} {ty : FieldType} {v : ma_V} (h : ma_ok ty v = true) : ma_rd (ma_put S c k v) c k ty = v := by
  rcases v with x | x | r
  · cases ty <;> first | (simp [ma_ok, narrow, fits] at h; done) | (simp [ma_rd, ma_put, ma_u, mI, mL, mR]; done)
  · simp only [ma_ok, decide_eq_true_eq] at h
    subst h
    simp [ma_rd, ma_put, ma_u, mI, mL, mR]
  · cases ty <;> simp only [ma_ok, Bool.false_eq_true] at h
    · simp [ma_rd, ma_put, ma_u, mI, mL, mR]
    · simp [ma_rd, ma_put, ma_u, mI, mL, mR]
theorem ma_rd_put_ne {S : ma_S} {c k k' : Nat} {ty : FieldType} {v : ma_V} (h : k' ≠ k) : ma_rd (ma_put S c k v) c k' ty = ma_rd S c k' ty := by
  rcases v with x | x | r <;> cases ty <;> simp [ma_rd, ma_put, ma_u, mI, mL, mR, h]
theorem ma_fs_put (ad : Nat → Nat) {S : ma_S} {c k t : Nat} {v : ma_V} (h : ma_ok (ma_ft t k) v = true) : (ma_fs ad S c t).set k (ma_tv ad v) = ma_fs ad (ma_put S c k v) c t := by
  apply List.ext_getElem?
  intro j
  unfold ma_fs
  by_cases hj : j = k
  · subst hj
    by_cases hl : j < ma_fn t
    · rw [List.getElem?_set_self (by simpa using hl), List.getElem?_map, List.getElem?_range hl]
      show _ = some (ma_tv ad (ma_rd (ma_put S c j v) c j (ma_ft t j)))
      rw [ma_rd_put h]
    · rw [List.getElem?_eq_none (by simp; omega), List.getElem?_eq_none (by simp; omega)]
  · rw [List.getElem?_set_ne (Ne.symm hj), List.getElem?_map, List.getElem?_map]
    by_cases hl : j < ma_fn t
    · rw [List.getElem?_range hl]
      show some (ma_tv ad (ma_rd S c j (ma_ft t j))) = some (ma_tv ad (ma_rd (ma_put S c k v) c j (ma_ft t j)))
      rw [ma_rd_put_ne hj]
    · rw [List.getElem?_eq_none (by simp; omega)]
      rfl
/-- a cell of the world -/
def ma_is (S : ma_S) (c : Nat) : Bool := decide (64 ≤ c) && decide (c < mN S)
/-- an index in its row -/
def ma_ix (S : ma_S) (c : Nat) (i : Int32) : Bool := decide (0 ≤ i) && decide (i.toNatClampNeg < (mH S c).2)
theorem ma_ix_in {S : ma_S} {c : Nat} {i : Int32} (h : ma_ix S c i = true) : vp_in i (mH S c).2 := by
  simp only [ma_ix, Bool.and_eq_true, decide_eq_true_eq] at h
  intro q
  rcases q with q | q
  · exact absurd h.1 (Int32.not_le.mpr q)
  · omega
/-- fields and rows: the stack and the heap behind. o: the own class's number; ini: it is a constructor -/
def ma_hp (o : Nat) (ini : Bool) (i : Instr) (n : Nat) (st : List ma_V) (S : ma_S) : Option (List ma_V × ma_S) := match i, n, st with
  | .getfield x, 3, .inr (.inr (some c)) :: r => if ma_is S c && decide (1 ≤ (mH S c).1) && decide ((mH S c).1 ≤ 12) then (ma_fld o x (mH S c).1).map (fun k => (ma_rd S c k (ma_ft (mH S c).1 k) :: r, S)) else none
  | .putfield x, 3, v :: .inr (.inr (some c)) :: r => if ma_is S c && decide (1 ≤ (mH S c).1) && decide ((mH S c).1 ≤ 12) then (match ma_fld o x (mH S c).1, vwCl[(mH S c).1]? with
    | some k, some (_, T, _) => if ma_ok (ma_ft (mH S c).1 k) v && (!(T k).2.2.2 || (ini && decide ((T k).1 = ma_cn o))) then some (r, ma_put S c k v) else none
    | _, _ => none) else none
  | .iaload, 1, .inl j :: .inr (.inr (some c)) :: r => if ma_is S c && decide ((mH S c).1 = 20) && ma_ix S c j then some (.inl (mI S c j.toNatClampNeg) :: r, S) else none
  | .baload, 1, .inl j :: .inr (.inr (some c)) :: r => if ma_is S c && (decide ((mH S c).1 = 21) || decide ((mH S c).1 = 22)) && ma_ix S c j then some (.inl (mI S c j.toNatClampNeg) :: r, S) else none
  | .laload, 1, .inl j :: .inr (.inr (some c)) :: r => if ma_is S c && decide ((mH S c).1 = 23) && ma_ix S c j then some (.inr (.inl (mL S c j.toNatClampNeg)) :: r, S) else none
  | .aaload, 1, .inl j :: .inr (.inr (some c)) :: r => if ma_is S c && (decide ((mH S c).1 = 24) || decide ((mH S c).1 = 25)) && ma_ix S c j then some (.inr (.inr (mR S c j.toNatClampNeg)) :: r, S) else none
  | .iastore, 1, .inl x :: .inl j :: .inr (.inr (some c)) :: r => if ma_is S c && decide ((mH S c).1 = 20) && ma_ix S c j then some (r, ma_put S c j.toNatClampNeg (.inl x)) else none
  | .bastore, 1, .inl x :: .inl j :: .inr (.inr (some c)) :: r => if ma_is S c && ma_ix S c j then (if (mH S c).1 = 21 then some (r, ma_put S c j.toNatClampNeg (.inl (vp_nar .byte x))) else if (mH S c).1 = 22 then some (r, ma_put S c j.toNatClampNeg (.inl (vp_nar .boolean x))) else none) else none
  | .lastore, 1, .inr (.inl x) :: .inl j :: .inr (.inr (some c)) :: r => if ma_is S c && decide ((mH S c).1 = 23) && ma_ix S c j then some (r, ma_put S c j.toNatClampNeg (.inr (.inl x))) else none
  | .aastore, 1, .inr (.inr x) :: .inl j :: .inr (.inr (some c)) :: r => if ma_is S c && decide ((mH S c).1 = 24) && ma_ix S c j then (match x with
    | none => some (r, ma_put S c j.toNatClampNeg (.inr (.inr none)))
    | some b => if ma_is S b && decide ((mH S b).1 = 9) then some (r, ma_put S c j.toNatClampNeg (.inr (.inr (some b)))) else none) else none
  | .arraylength, 1, .inr (.inr (some c)) :: r => if ma_is S c && decide (20 ≤ (mH S c).1) && decide ((mH S c).1 ≤ 25) then some (.inl (Int32.ofNat (mH S c).2) :: r, S) else none
  | _, _, _ => none

theorem ma_fld_spec {o x t k : Nat} {C : String} {T : u_T} {N : Nat} (h : ma_fld o x t = some k) (hc : vwCl[t]? = some (C, T, N)) :
    k < N ∧ ∃ ref : String, Cond.fieldLink (ma_cn o) x ref (T k).2.1 (T k).2.2.1 ∈ ma_TB ∧ (ref = (T k).1 ∨ Cond.sameField ref (T k).1 (T k).2.1 (T k).2.2.1 ∈ ma_TB) := by
  unfold ma_fld at h
  cases hf : ma_flh.find? (fun q => q.1.1 == o && q.1.2.1 == x && q.1.2.2.1 == t) with
  | none => rw [hf] at h; cases h
  | some q =>
    rw [hf] at h
    have hk : q.1.2.2.2 = k := Option.some.inj h
    have h1 := List.find?_some hf
    simp only [Bool.and_eq_true, beq_iff_eq] at h1
    obtain ⟨⟨e1, e2⟩, e3⟩ := h1
    have h2 := ma_flh_ok q (List.mem_of_find?_eq_some hf)
    unfold ma_flc at h2
    rw [e3, hc] at h2
    simp only [Bool.and_eq_true, Bool.or_eq_true, e1, e2, e3, hk] at h2
    obtain ⟨⟨⟨⟨a1, a2⟩, a3⟩, a4, a5⟩, a6⟩ := h2
    refine ⟨of_decide_eq_true a1, q.2.1, ma_TB_in a4 a5, ?_⟩
    rcases a6 with a6 | a6
    · exact Or.inl (of_decide_eq_true a6)
    · exact Or.inr (ma_TB_in a6.1 a6.2)
theorem ma_E_obj {kA : Nat → ClassId} {ad : Nat → Nat} {S : ma_S} {c : Nat} (h : (mH S c).1 < 20) : ma_E kA ad S c = .inr ((mH S c).1, ma_fs ad S c (mH S c).1) := if_pos h
theorem ma_E_int {kA : Nat → ClassId} {ad : Nat → Nat} {S : ma_S} {c t : Nat} (ht : (mH S c).1 = t) (h1 : 20 ≤ t) (h2 : t < 23) : ma_E kA ad S c = .inl (kA t, (mH S c).2, .inl (mI S c)) := by
  unfold ma_E; rw [ht, if_neg (by omega), if_pos h2]
theorem ma_E_long {kA : Nat → ClassId} {ad : Nat → Nat} {S : ma_S} {c : Nat} (ht : (mH S c).1 = 23) : ma_E kA ad S c = .inl (kA 23, (mH S c).2, .inr (.inl (mL S c))) := by
  unfold ma_E; rw [ht, if_neg (by omega), if_neg (by omega), if_pos (by omega)]
theorem ma_E_ref {kA : Nat → ClassId} {ad : Nat → Nat} {S : ma_S} {c t : Nat} (ht : (mH S c).1 = t) (h : 24 ≤ t) : ma_E kA ad S c = .inl (kA t, (mH S c).2, .inr (.inr (.inr (.inr (fun j => (mR S c j).map ad))))) := by
  unfold ma_E; rw [ht, if_neg (by omega), if_neg (by omega), if_neg (by omega)]
section MA3
variable {p : Program} {l : Launch} {e : Env} {R : Room} {s : State} {m : MethodId} {args : Array Value} {below : List Frame} {meth : Method} {c : Code} {H H0 : Heap} {locs : List Loc} {cells slots : Nat} {Q : State → Prop} {cc : ByteArray} {pc : Nat} {ls : Array Slot} {ad : Nat → Nat} {kA : Nat → ClassId} {D : va_G} {A : Nat → Prop}
theorem ma_hp_ok (hx : p.tables.exec = Jvm.exec) (hb : c.code = cc) {o n : Nat} {ini : Bool} {i : Instr} {st st' : List ma_V} {S S' : ma_S} (hown : s.vm.findClass (ma_cn o) = some m.cls) (hts : ∀ w ∈ ma_TB, w.before args s = true) (hK : va_K D vwCl (ma_tys kA) s) (hini : ini = true → meth.name = "<init>")
    (hP : va_P D vwCl (ma_wl kA ad S) H) (hD : va_D A (ma_wl kA ad S)) (hS : va_S A H0 H locs) (hd : decode cc pc = .ok (i, n)) (h : ma_hp o ini i n st S = some (st', S'))
    (k : ∀ (H1 : Heap) (locs1 : List Loc), va_P D vwCl (ma_wl kA ad S') H1 → va_D A (ma_wl kA ad S') → va_S A H0 H1 locs1 → W p l e R s m args below meth c H1 locs1 cells slots Q (F0 m (pc + n) ls (ma_ts ad st'))) : W p l e R s m args below meth c H locs cells slots Q (F0 m pc ls (ma_ts ad st)) := by
  have is2 : ∀ {c : Nat}, ma_is S c = true → 64 ≤ c ∧ c < mN S := fun hh => by simpa [ma_is] using hh
  unfold ma_hp at h
  split at h
  · next x cx r =>
    split at h
    · next hc =>
      simp only [Bool.and_eq_true, decide_eq_true_eq] at hc
      obtain ⟨⟨hi, t1⟩, t2⟩ := hc
      obtain ⟨i1, i2⟩ := is2 hi
      obtain ⟨C, T, hcl, hw, hty, hnm⟩ := ma_clok_all t1 t2
      cases hf : ma_fld o x (mH S cx).1 with
      | none => rw [hf] at h; cases h
      | some kf =>
        rw [hf] at h
        cases h
        obtain ⟨hk, ref, hl, hsm⟩ := ma_fld_spec hf hcl
        refine va_get hx hb hts hw hown hK hP (cx - 64) ((ma_wl_at i1 i2).trans (by rw [ma_E_obj (by omega)])) hcl kf hk (hts _ hl) ?_ (v := ma_tv ad (ma_rd S cx kf (ma_ft (mH S cx).1 kf))) ?_ hd (k H locs hP hD hS)
        · rcases hsm with e1 | e1
          · rw [e1]; exact fun _ z => z
          · exact u_same (hts _ e1)
        · unfold ma_fs
          rw [List.getElem?_map, List.getElem?_range hk]
          rfl
    · cases h
  · next x v cx r =>
    split at h
    · next hc =>
      simp only [Bool.and_eq_true, decide_eq_true_eq] at hc
      obtain ⟨⟨hi, t1⟩, t2⟩ := hc
      obtain ⟨i1, i2⟩ := is2 hi
      obtain ⟨C, T, hcl, hw, hty, hnm⟩ := ma_clok_all t1 t2
      split at h
      · next kf C9 T9 N9 hf hcl9 =>
        cases hcl.symm.trans hcl9
        obtain ⟨hk, ref, hl, hsm⟩ := ma_fld_spec hf hcl
        have hsame : ∀ x, s.fieldFound? (T kf).1 (T kf).2.1 (T kf).2.2.1 = some x → s.fieldFound? ref (T kf).2.1 (T kf).2.2.1 = some x := by
          rcases hsm with e1 | e1
          · rw [e1]; exact fun _ z => z
          · exact u_same (hts _ e1)
        split at h
        · next hg =>
          cases h
          simp only [Bool.and_eq_true, Bool.or_eq_true, Bool.not_eq_true', decide_eq_true_eq] at hg
          obtain ⟨hok, hfin⟩ := hg
          obtain ⟨hn1, hn2⟩ := ma_ok_spec ad hok
          have hset : (ma_wl kA ad S).set (cx - 64) (ad cx, .inr ((mH S cx).1, (ma_fs ad S cx (mH S cx).1).set kf (ma_tv ad v))) = ma_wl kA ad (ma_put S cx kf v) := by
            refine ma_wl_set i1 i2 (ma_put_n S cx kf v).1 ?_ (fun c' hc' => ma_put_o hc')
            have hh : mH (ma_put S cx kf v) = mH S := (ma_put_n S cx kf v).2.2.2
            rw [ma_E_obj (by rw [hh]; omega), hh, ma_fs_put ad hok]
          have hlen : kf < (ma_fs ad S cx (mH S cx).1).length := by unfold ma_fs; simpa using hk
          have he := (ma_wl_at (kA := kA) (ad := ad) i1 i2).trans (by rw [ma_E_obj (by omega)])
          rcases hfin with hfin | ⟨hfi, hfo⟩
          · exact va_put hx hb hts hw (ma_ft (mH S cx).1) hty hnm hown hK hP hD hS (cx - 64) he hcl kf hk (hts _ hl) hsame hfin (hty kf hk) hn1 hn2 hlen hd (fun H1 locs1 a1 a2 a3 => k H1 locs1 (hset ▸ a1) (hset ▸ a2) a3)
          · cases hf2 : (T kf).2.2.2 with
            | false => exact va_put hx hb hts hw (ma_ft (mH S cx).1) hty hnm hown hK hP hD hS (cx - 64) he hcl kf hk (hts _ hl) hsame hf2 (hty kf hk) hn1 hn2 hlen hd (fun H1 locs1 a1 a2 a3 => k H1 locs1 (hset ▸ a1) (hset ▸ a2) a3)
            | true => exact va_putF hx hb hts hw (ma_ft (mH S cx).1) hty hnm hown hK hP hD hS (cx - 64) he hcl kf hk (hts _ hl) hsame hf2 (hini hfi) hfo (hty kf hk) hn1 hn2 hlen hd (fun H1 locs1 a1 a2 a3 => k H1 locs1 (hset ▸ a1) (hset ▸ a2) a3)
        · cases h
      · cases h
    · cases h
  · next j cx r =>
    split at h
    · next hc =>
      simp only [Bool.and_eq_true, decide_eq_true_eq] at hc
      obtain ⟨⟨hi, t1⟩, t2⟩ := hc
      obtain ⟨i1, i2⟩ := is2 hi
      cases h
      exact va_iald hx hb hK hP (cx - 64) 0 ((ma_wl_at i1 i2).trans (by rw [ma_E_int t1 (by omega) (by omega)])) rfl (ma_ix_in t2) hd (k H locs hP hD hS)
    · cases h
  · next j cx r =>
    split at h
    · next hc =>
      simp only [Bool.and_eq_true, Bool.or_eq_true, decide_eq_true_eq] at hc
      obtain ⟨⟨hi, t1⟩, t2⟩ := hc
      obtain ⟨i1, i2⟩ := is2 hi
      cases h
      rcases t1 with t1 | t1
      · exact va_bald hx hb hK hP (cx - 64) 1 ((ma_wl_at i1 i2).trans (by rw [ma_E_int t1 (by omega) (by omega)])) rfl (ma_ix_in t2) hd (k H locs hP hD hS)
      · exact va_zald hx hb hK hP (cx - 64) 2 ((ma_wl_at i1 i2).trans (by rw [ma_E_int t1 (by omega) (by omega)])) rfl (ma_ix_in t2) hd (k H locs hP hD hS)
    · cases h
  · next j cx r =>
    split at h
    · next hc =>
      simp only [Bool.and_eq_true, decide_eq_true_eq] at hc
      obtain ⟨⟨hi, t1⟩, t2⟩ := hc
      obtain ⟨i1, i2⟩ := is2 hi
      cases h
      exact va_lald hx hb hK hP (cx - 64) 3 ((ma_wl_at i1 i2).trans (by rw [ma_E_long t1])) rfl (ma_ix_in t2) hd (k H locs hP hD hS)
    · cases h
  · next j cx r =>
    split at h
    · next hc =>
      simp only [Bool.and_eq_true, Bool.or_eq_true, decide_eq_true_eq] at hc
      obtain ⟨⟨hi, t1⟩, t2⟩ := hc
      obtain ⟨i1, i2⟩ := is2 hi
      cases h
      rcases t1 with t1 | t1
      · exact va_aldq (f := fun j => (mR S cx j).map ad) hx hb hK hP (cx - 64) 4 ((ma_wl_at i1 i2).trans (by rw [ma_E_ref t1 (by omega)])) rfl (ma_ix_in t2) hd (k H locs hP hD hS)
      · exact va_aldq (f := fun j => (mR S cx j).map ad) hx hb hK hP (cx - 64) 5 ((ma_wl_at i1 i2).trans (by rw [ma_E_ref t1 (by omega)])) rfl (ma_ix_in t2) hd (k H locs hP hD hS)
    · cases h
  · next x j cx r =>
    split at h
    · next hc =>
      simp only [Bool.and_eq_true, decide_eq_true_eq] at hc
      obtain ⟨⟨hi, t1⟩, t2⟩ := hc
      obtain ⟨i1, i2⟩ := is2 hi
      cases h
      have hset : (ma_wl kA ad S).set (cx - 64) (ad cx, .inl (kA 20, (mH S cx).2, .inl (upd (mI S cx) j.toNatClampNeg x))) = ma_wl kA ad (ma_put S cx j.toNatClampNeg (.inl x)) := by
        refine ma_wl_set i1 i2 rfl ?_ (fun c' hc' => ma_put_o hc')
        rw [ma_E_int (S := ma_put S cx j.toNatClampNeg (.inl x)) (t := 20) t1 (by omega) (by omega)]
        show Sum.inl (kA 20, (mH S cx).2, Sum.inl (ma_u (mI S) cx j.toNatClampNeg x cx)) = _
        rw [ma_u_eq]; rfl
      exact va_iast hx hb hK hP hD hS (cx - 64) 0 ((ma_wl_at i1 i2).trans (by rw [ma_E_int t1 (by omega) (by omega)])) rfl (ma_ix_in t2) hd (fun H1 locs1 a1 a2 a3 => k H1 locs1 (hset ▸ a1) (hset ▸ a2) a3)
    · cases h
  · next x j cx r =>
    split at h
    · next hc =>
      simp only [Bool.and_eq_true, decide_eq_true_eq] at hc
      obtain ⟨hi, t2⟩ := hc
      obtain ⟨i1, i2⟩ := is2 hi
      split at h
      · next t1 =>
        cases h
        have hset : (ma_wl kA ad S).set (cx - 64) (ad cx, .inl (kA 21, (mH S cx).2, .inl (upd (mI S cx) j.toNatClampNeg (vp_nar .byte x)))) = ma_wl kA ad (ma_put S cx j.toNatClampNeg (.inl (vp_nar .byte x))) := by
          refine ma_wl_set i1 i2 rfl ?_ (fun c' hc' => ma_put_o hc')
          rw [ma_E_int (S := ma_put S cx j.toNatClampNeg (.inl (vp_nar .byte x))) (t := 21) t1 (by omega) (by omega)]
          show Sum.inl (kA 21, (mH S cx).2, Sum.inl (ma_u (mI S) cx j.toNatClampNeg _ cx)) = _
          rw [ma_u_eq]; rfl
        exact va_bast hx hb hK hP hD hS (cx - 64) 1 ((ma_wl_at i1 i2).trans (by rw [ma_E_int t1 (by omega) (by omega)])) rfl (ma_ix_in t2) hd (fun H1 locs1 a1 a2 a3 => k H1 locs1 (hset ▸ a1) (hset ▸ a2) a3)
      · split at h
        · next t1 =>
          cases h
          have hset : (ma_wl kA ad S).set (cx - 64) (ad cx, .inl (kA 22, (mH S cx).2, .inl (upd (mI S cx) j.toNatClampNeg (vp_nar .boolean x)))) = ma_wl kA ad (ma_put S cx j.toNatClampNeg (.inl (vp_nar .boolean x))) := by
            refine ma_wl_set i1 i2 rfl ?_ (fun c' hc' => ma_put_o hc')
            rw [ma_E_int (S := ma_put S cx j.toNatClampNeg (.inl (vp_nar .boolean x))) (t := 22) t1 (by omega) (by omega)]
            show Sum.inl (kA 22, (mH S cx).2, Sum.inl (ma_u (mI S) cx j.toNatClampNeg _ cx)) = _
            rw [ma_u_eq]; rfl
          exact va_zast hx hb hK hP hD hS (cx - 64) 2 ((ma_wl_at i1 i2).trans (by rw [ma_E_int t1 (by omega) (by omega)])) rfl (ma_ix_in t2) hd (fun H1 locs1 a1 a2 a3 => k H1 locs1 (hset ▸ a1) (hset ▸ a2) a3)
        · cases h
    · cases h
  · next x j cx r =>
    split at h
    · next hc =>
      simp only [Bool.and_eq_true, decide_eq_true_eq] at hc
      obtain ⟨⟨hi, t1⟩, t2⟩ := hc
      obtain ⟨i1, i2⟩ := is2 hi
      cases h
      have hset : (ma_wl kA ad S).set (cx - 64) (ad cx, .inl (kA 23, (mH S cx).2, .inr (.inl (vp_updL (mL S cx) j.toNatClampNeg x)))) = ma_wl kA ad (ma_put S cx j.toNatClampNeg (.inr (.inl x))) := by
        refine ma_wl_set i1 i2 rfl ?_ (fun c' hc' => ma_put_o hc')
        rw [ma_E_long (S := ma_put S cx j.toNatClampNeg (.inr (.inl x))) t1]
        show Sum.inl (kA 23, (mH S cx).2, Sum.inr (Sum.inl (ma_u (mL S) cx j.toNatClampNeg x cx))) = _
        rw [ma_u_eq]; rfl
      exact va_last hx hb hK hP hD hS (cx - 64) 3 ((ma_wl_at i1 i2).trans (by rw [ma_E_long t1])) rfl (ma_ix_in t2) hd (fun H1 locs1 a1 a2 a3 => k H1 locs1 (hset ▸ a1) (hset ▸ a2) a3)
    · cases h
  · next x j cx r =>
    split at h
    · next hc =>
      simp only [Bool.and_eq_true, decide_eq_true_eq] at hc
      obtain ⟨⟨hi, t1⟩, t2⟩ := hc
      obtain ⟨i1, i2⟩ := is2 hi
      have hset : ∀ y : Option Nat, (ma_wl kA ad S).set (cx - 64) (ad cx, .inl (kA 24, (mH S cx).2, .inr (.inr (.inr (.inr (va_up (fun j => (mR S cx j).map ad) j.toNatClampNeg (y.map ad))))))) = ma_wl kA ad (ma_put S cx j.toNatClampNeg (.inr (.inr y))) := by
        intro y
        refine ma_wl_set i1 i2 rfl ?_ (fun c' hc' => ma_put_o hc')
        rw [ma_E_ref (S := ma_put S cx j.toNatClampNeg (.inr (.inr y))) (t := 24) t1 (by omega)]
        show Sum.inl (kA 24, (mH S cx).2, Sum.inr (Sum.inr (Sum.inr (Sum.inr (fun i => (ma_u (mR S) cx j.toNatClampNeg y cx i).map ad))))) = _
        rw [ma_u_eq]
        have : (fun i => (va_up (mR S cx) j.toNatClampNeg y i).map ad) = va_up (fun j => (mR S cx j).map ad) j.toNatClampNeg (y.map ad) := by
          funext i; unfold va_up; split <;> rfl
        rw [this]
      split at h
      · cases h
        exact va_astqN hx hb hK hP hD hS (cx - 64) 4 ((ma_wl_at i1 i2).trans (by rw [ma_E_ref t1 (by omega)])) rfl (ma_ix_in t2) hd (fun H1 locs1 a1 a2 a3 => k H1 locs1 (hset none ▸ a1) (hset none ▸ a2) a3)
      · next bx =>
        split at h
        · next hv =>
          simp only [Bool.and_eq_true, decide_eq_true_eq] at hv
          obtain ⟨v1, v2⟩ := is2 hv.1
          cases h
          exact va_astq hx hb hK hP hD hS (cx - 64) 4 (bx - 64) 9 ((ma_wl_at i1 i2).trans (by rw [ma_E_ref t1 (by omega)])) (r := (RX9, TX9, 9)) rfl ((ma_wl_at v1 v2).trans (by rw [ma_E_obj (by omega), hv.2])) rfl (ma_ix_in t2) hd (fun H1 locs1 a1 a2 a3 => k H1 locs1 (hset (some bx) ▸ a1) (hset (some bx) ▸ a2) a3)
        · cases h
    · cases h
  · next cx r =>
    split at h
    · next hc =>
      simp only [Bool.and_eq_true, decide_eq_true_eq] at hc
      obtain ⟨⟨hi, t1⟩, t2⟩ := hc
      obtain ⟨i1, i2⟩ := is2 hi
      cases h
      have ht : (mH S cx).1 = 20 ∨ (mH S cx).1 = 21 ∨ (mH S cx).1 = 22 ∨ (mH S cx).1 = 23 ∨ (mH S cx).1 = 24 ∨ (mH S cx).1 = 25 := by omega
      have go : ∀ (t0 : Nat) (cA : ClassId) (x : vp_A) (ty : FieldType), ma_E kA ad S cx = .inl (cA, x) → (ma_tys kA)[t0]? = some (cA, ty) → x.1 = (mH S cx).2 → W p l e R s m args below meth c H locs cells slots Q (F0 m pc ls (ma_ts ad (.inr (.inr (some cx)) :: r))) := by
        intro t0 cA x ty hE htt hlen
        exact va_alen hx hb hK hP (cx - 64) t0 ((ma_wl_at i1 i2).trans (by rw [hE])) htt (by rw [hlen]) hd (k H locs hP hD hS)
      rcases ht with ht | ht | ht | ht | ht | ht
      · exact go 0 _ _ _ (ma_E_int ht (by omega) (by omega)) rfl rfl
      · exact go 1 _ _ _ (ma_E_int ht (by omega) (by omega)) rfl rfl
      · exact go 2 _ _ _ (ma_E_int ht (by omega) (by omega)) rfl rfl
      · exact go 3 _ _ _ (ma_E_long ht) rfl rfl
      · exact go 4 _ _ _ (ma_E_ref ht (by omega)) rfl rfl
      · exact go 5 _ _ _ (ma_E_ref ht (by omega)) rfl rfl
    · cases h
  · cases h
end MA3
end
section
/-! THE SMALL MACHINE, part 4: references stay inside; new cells -/
theorem ma_get_cv {n : Nat} {L : ma_L} {i : Nat} {v : ma_V} (hL : ma_cL n L) (h : ma_get L i = some v) : ma_cv n v := by
  unfold ma_get at h
  cases hf : L.find? (fun q => q.1 == i) with
  | none => rw [hf] at h; cases h
  | some q =>
    rw [hf] at h
    have h2 : q.2 = v := Option.some.inj h
    rw [← h2]
    exact hL q (List.mem_of_find?_eq_some hf)
theorem ma_push_cv {N : Nat} {i : Instr} {n : Nat} {L : ma_L} {v : ma_V} (hL : ma_cL N L) (h : ma_push i n L = some v) : ma_cv N v := by
  unfold ma_push at h
  split at h
  · cases h; exact ma_cv_i
  · cases h; exact ma_cv_i
  · cases h; exact ma_cv_i
  · cases h; exact ma_cv_l
  · cases h; exact ma_cv_n
  all_goals first | (cases h; done) | (split at h; (next hg => cases h; exact ma_get_cv hL hg); (cases h; done))
theorem ma_cs_tl {n : Nat} {v : ma_V} {r : List ma_V} (h : ma_cs n (v :: r)) : ma_cs n r := fun w hw => h w (List.mem_cons_of_mem _ hw)
theorem ma_cs_hd {n : Nat} {v : ma_V} {r : List ma_V} (h : ma_cs n (v :: r)) : ma_cv n v := h v List.mem_cons_self
theorem ma_cs_cons {n : Nat} {v : ma_V} {r : List ma_V} (h1 : ma_cv n v) (h2 : ma_cs n r) : ma_cs n (v :: r) := fun w hw => (List.mem_cons.mp hw).elim (fun e => e ▸ h1) (h2 w)
theorem ma_stk_cs {N : Nat} {i : Instr} {n : Nat} {st st' : List ma_V} (hc : ma_cs N st) (h : ma_stk i n st = some st') : ma_cs N st' := by
  unfold ma_stk at h
  split at h
  all_goals first
    | (cases h; done)
    | (cases h; exact ma_cs_cons ma_cv_i (ma_cs_tl (ma_cs_tl hc)))
    | (cases h; exact ma_cs_cons ma_cv_l (ma_cs_tl (ma_cs_tl hc)))
    | (cases h; exact ma_cs_cons ma_cv_i (ma_cs_tl hc))
    | (cases h; exact ma_cs_cons ma_cv_l (ma_cs_tl hc))
    | (split at h; (focus cases h); (focus (cases h; exact ma_cs_cons ma_cv_i (ma_cs_tl (ma_cs_tl hc)))))
    | (split at h; (focus cases h); (focus (cases h; exact ma_cs_cons (ma_cs_hd hc) hc)))
    | (split at h; (focus cases h); (focus (cases h; exact ma_cs_tl hc)))
    | (split at h; (focus cases h); (focus (cases h; exact ma_cs_cons (ma_cs_hd hc) (ma_cs_cons (ma_cs_hd (ma_cs_tl hc)) hc))))
theorem ma_st_cL {n : Nat} {L : ma_L} {i : Nat} {v : ma_V} (hL : ma_cL n L) (hv : ma_cv n v) : ma_cL n (ma_st L i v) := by
  intro q hq
  rcases List.mem_cons.mp hq with e | e
  · rw [e]; exact hv
  · exact hL q (List.mem_filter.mp e).1
theorem ma_sto_c {N : Nat} {i : Instr} {n nL : Nat} {L L' : ma_L} {st st' : List ma_V} (hL : ma_cL N L) (hc : ma_cs N st) (h : ma_sto i n nL L st = some (L', st')) : ma_cL N L' ∧ ma_cs N st' := by
  unfold ma_sto at h
  split at h
  · split at h
    · cases h; exact ⟨ma_st_cL hL ma_cv_i, ma_cs_tl hc⟩
    · cases h
  · split at h
    · cases h; exact ⟨ma_st_cL hL ma_cv_i, ma_cs_tl hc⟩
    · cases h
  · split at h
    · cases h; exact ⟨ma_st_cL hL (ma_cs_hd hc), ma_cs_tl hc⟩
    · cases h
  · split at h
    · cases h; exact ⟨ma_st_cL hL (ma_cs_hd hc), ma_cs_tl hc⟩
    · cases h
  · split at h
    · split at h
      · cases h; exact ⟨ma_st_cL hL ma_cv_i, hc⟩
      · cases h
    · cases h
  · cases h
theorem ma_jmp_cs {N : Nat} {i : Instr} {n pc t : Nat} {st st' : List ma_V} (hc : ma_cs N st) (h : ma_jmp i n pc st = some (t, st')) : ma_cs N st' := by
  have key : ∀ {o : Option Nat} {f : Nat → Nat} {r : List ma_V}, o.map (fun t => (f t, r)) = some (t, st') → r = st' := by
    intro o f r hh
    cases o with
    | none => cases hh
    | some t' => cases hh; rfl
  unfold ma_jmp at h
  split at h
  · cases key (f := fun t => t) h; exact hc
  · cases key h; exact ma_cs_tl hc
  · cases key h; exact ma_cs_tl (ma_cs_tl hc)
  · split at h
    · cases key (f := fun t => t) h; exact ma_cs_tl hc
    · cases h; exact ma_cs_tl hc
  · split at h
    · cases h; exact ma_cs_tl hc
    · cases key (f := fun t => t) h; exact ma_cs_tl hc
  · split at h
    · cases key (f := fun t => t) h; exact ma_cs_tl hc
    · split at h
      · cases key (f := fun t => t) h; exact ma_cs_tl hc
      · cases h
  · split at h
    · cases key (f := fun t => t) h; exact ma_cs_tl hc
    · cases h
  · cases h
/-- behind an instruction on cells that are there: as many cells, references inside -/
theorem ma_hp_c {o n : Nat} {ini : Bool} {i : Instr} {st st' : List ma_V} {S S' : ma_S} (hh : ma_ch S) (hc : ma_cs (mN S) st) (h : ma_hp o ini i n st S = some (st', S')) : ma_ch S' ∧ ma_cs (mN S') st' ∧ mN S' = mN S ∧ mC S' = mC S ∧ mZ S' = mZ S := by
  have put : ∀ (c k : Nat) (v : ma_V) (r : List ma_V), ma_cv (mN S) v → ma_cs (mN S) r → ma_ch (ma_put S c k v) ∧ ma_cs (mN (ma_put S c k v)) r ∧ mN (ma_put S c k v) = mN S ∧ mC (ma_put S c k v) = mC S ∧ mZ (ma_put S c k v) = mZ S := by
    intro c k v r hv hr
    obtain ⟨e1, e2, e3, e4⟩ := ma_put_n S c k v
    exact ⟨ma_put_ch hh hv, by rw [e1]; exact hr, e1, e2, e3⟩
  unfold ma_hp at h
  split at h
  · split at h
    · next x cx r hcc =>
      cases hf : ma_fld o x (mH S cx).1 with
      | none => rw [hf] at h; cases h
      | some kf => rw [hf] at h; cases h; exact ⟨hh, ma_cs_cons (ma_rd_cv hh _ _ _) (ma_cs_tl hc), rfl, rfl, rfl⟩
    · cases h
  · split at h
    · split at h
      · split at h
        · cases h; exact put _ _ _ _ (ma_cs_hd hc) (ma_cs_tl (ma_cs_tl hc))
        · cases h
      · cases h
    · cases h
  · split at h
    · cases h; exact ⟨hh, ma_cs_cons ma_cv_i (ma_cs_tl (ma_cs_tl hc)), rfl, rfl, rfl⟩
    · cases h
  · split at h
    · cases h; exact ⟨hh, ma_cs_cons ma_cv_i (ma_cs_tl (ma_cs_tl hc)), rfl, rfl, rfl⟩
    · cases h
  · split at h
    · cases h; exact ⟨hh, ma_cs_cons ma_cv_l (ma_cs_tl (ma_cs_tl hc)), rfl, rfl, rfl⟩
    · cases h
  · split at h
    · cases h
      exact ⟨hh, ma_cs_cons (fun b hb => hh.1 _ _ _ (Sum.inr.inj (Sum.inr.inj hb))) (ma_cs_tl (ma_cs_tl hc)), rfl, rfl, rfl⟩
    · cases h
  · split at h
    · cases h; exact put _ _ _ _ ma_cv_i (ma_cs_tl (ma_cs_tl (ma_cs_tl hc)))
    · cases h
  · split at h
    · split at h
      · cases h; exact put _ _ _ _ ma_cv_i (ma_cs_tl (ma_cs_tl (ma_cs_tl hc)))
      · split at h
        · cases h; exact put _ _ _ _ ma_cv_i (ma_cs_tl (ma_cs_tl (ma_cs_tl hc)))
        · cases h
    · cases h
  · split at h
    · cases h; exact put _ _ _ _ ma_cv_l (ma_cs_tl (ma_cs_tl (ma_cs_tl hc)))
    · cases h
  · split at h
    · split at h
      · cases h; exact put _ _ _ _ ma_cv_n (ma_cs_tl (ma_cs_tl (ma_cs_tl hc)))
      · split at h
        · cases h; exact put _ _ _ _ (ma_cs_hd hc) (ma_cs_tl (ma_cs_tl (ma_cs_tl hc)))
        · cases h
    · cases h
  · split at h
    · cases h; exact ⟨hh, ma_cs_cons ma_cv_i (ma_cs_tl hc), rfl, rfl, rfl⟩
    · cases h
  · cases h

/-! new cells -/
def ma_nwh : List ((Nat × Nat × Nat) × Nat × Nat × Nat) := [((11, 23, 7), 38, 39, 2), ((11, 30, 10), 105, 106, 3), ((11, 41, 8), 136, 137, 5), ((11, 46, 5), 179, 180, 6), ((11, 49, 3), 194, 195, 7), ((11, 52, 1), 212, 213, 8), ((11, 55, 2), 245, 246, 9), ((11, 58, 6), 267, 268, 10), ((11, 61, 4), 293, 294, 11), ((11, 128, 9), 1011, 1012, 26), ((2, 9, 9), 251, 1012, 26), ((6, 9, 10), 273, 106, 3), ((7, 9, 9), 44, 1012, 26), ((14, 8, 11), 30, 31, 1), ((14, 86, 12), 1507, 1508, 12)]
def ma_nwc (q : (Nat × Nat × Nat) × Nat × Nat × Nat) : Bool := match vwCl[q.1.2.2]? with
  | some (C, _, N) => decide (1 ≤ q.1.2.2) && decide (q.1.2.2 ≤ 12) && decide (N = ma_fn q.1.2.2) && (decide (tables_1[q.2.1]? = some (.classLink (ma_cn q.1.1) q.1.2.1 C)) && goodWord (.classLink (ma_cn q.1.1) q.1.2.1 C)) && (decide (tables_1[q.2.2.1]? = some (.instantiable C N)) && goodWord (.instantiable C N)) && (decide (tables_1[q.2.2.2]? = some (.initialized C)) && goodWord (.initialized C))
  | none => false
theorem ma_nwh_ok : ∀ q ∈ ma_nwh, ma_nwc q = true := List.all_eq_true.mp (by decide +kernel)
def ma_nwt (o i : Nat) : Option Nat := (ma_nwh.find? (fun q => q.1.1 == o && q.1.2.1 == i)).map (fun q => q.1.2.2)
theorem ma_nwt_spec {o i t : Nat} (h : ma_nwt o i = some t) : 1 ≤ t ∧ t ≤ 12 ∧ ∃ (C : String) (T : u_T), vwCl[t]? = some (C, T, ma_fn t) ∧ Cond.classLink (ma_cn o) i C ∈ ma_TB ∧ Cond.instantiable C (ma_fn t) ∈ ma_TB ∧ Cond.initialized C ∈ ma_TB := by
  unfold ma_nwt at h
  cases hf : ma_nwh.find? (fun q => q.1.1 == o && q.1.2.1 == i) with
  | none => rw [hf] at h; cases h
  | some q =>
    rw [hf] at h
    have hk : q.1.2.2 = t := Option.some.inj h
    have h1 := List.find?_some hf
    simp only [Bool.and_eq_true, beq_iff_eq] at h1
    have h2 := ma_nwh_ok q (List.mem_of_find?_eq_some hf)
    unfold ma_nwc at h2
    rw [hk, h1.1, h1.2] at h2
    split at h2
    · next C T N hc =>
      simp only [Bool.and_eq_true] at h2
      obtain ⟨⟨⟨⟨⟨a1, a2⟩, a3⟩, a4, a5⟩, a6, a7⟩, a8, a9⟩ := h2
      have a3 := of_decide_eq_true a3
      subst a3
      exact ⟨of_decide_eq_true a1, of_decide_eq_true a2, C, T, hc, ma_TB_in a4 a5, ma_TB_in a6 a7, ma_TB_in a8 a9⟩
    · cases h2
/-- rows of references: the class of what they hold -/
def ma_anh : List ((Nat × Nat × Nat) × Nat) := [((11, 39, 25), 134), ((11, 128, 24), 1011), ((2, 9, 24), 251), ((7, 9, 24), 44)]
def ma_anC (t : Nat) : String := if t = 24 then RX9 else RX1
def ma_anc (q : (Nat × Nat × Nat) × Nat) : Bool := (decide (q.1.2.2 = 24) || decide (q.1.2.2 = 25)) && decide (tables_1[q.2]? = some (.classLink (ma_cn q.1.1) q.1.2.1 (ma_anC q.1.2.2))) && goodWord (.classLink (ma_cn q.1.1) q.1.2.1 (ma_anC q.1.2.2))
theorem ma_anh_ok : ∀ q ∈ ma_anh, ma_anc q = true := List.all_eq_true.mp (by decide +kernel)
def ma_ant (o i : Nat) : Option Nat := (ma_anh.find? (fun q => q.1.1 == o && q.1.2.1 == i)).map (fun q => q.1.2.2)
theorem ma_ant_spec {o i t : Nat} (h : ma_ant o i = some t) : (t = 24 ∨ t = 25) ∧ Cond.classLink (ma_cn o) i (ma_anC t) ∈ ma_TB := by
  unfold ma_ant at h
  cases hf : ma_anh.find? (fun q => q.1.1 == o && q.1.2.1 == i) with
  | none => rw [hf] at h; cases h
  | some q =>
    rw [hf] at h
    have hk : q.1.2.2 = t := Option.some.inj h
    have h1 := List.find?_some hf
    simp only [Bool.and_eq_true, beq_iff_eq] at h1
    have h2 := ma_anh_ok q (List.mem_of_find?_eq_some hf)
    unfold ma_anc at h2
    rw [hk, h1.1, h1.2] at h2
    simp only [Bool.and_eq_true, Bool.or_eq_true] at h2
    exact ⟨h2.1.1.imp of_decide_eq_true of_decide_eq_true, ma_TB_in h2.1.2 h2.2⟩
def ma_at (a : ArrayType) : Option Nat := match a with
  | .int => some 20
  | .byte => some 21
  | .boolean => some 22
  | .long => some 23
  | _ => none
def ma_al (o : Nat) (i : Instr) (n : Nat) (st : List ma_V) (S : ma_S) : Option (List ma_V × ma_S) := match i, n, st with
  | .new x, 3, r => (ma_nwt o x).map (fun t => (.inr (.inr (some (mN S))) :: r, ma_new S t (ma_fn t)))
  | .newarray a, 2, .inl k :: r => if decide (0 ≤ k) && decide (k.toNatClampNeg ≤ 1000000) then (ma_at a).map (fun t => (.inr (.inr (some (mN S))) :: r, ma_new S t k.toNatClampNeg)) else none
  | .anewarray x, 3, .inl k :: r => if decide (0 ≤ k) && decide (k.toNatClampNeg ≤ 1000000) then (ma_ant o x).map (fun t => (.inr (.inr (some (mN S))) :: r, ma_new S t k.toNatClampNeg)) else none
  | _, _, _ => none
/-- no type of the world's fields is one with a point -/
def ma_nf (ty : FieldType) : Bool := match ty with
  | .float => false
  | .double => false
  | _ => true
theorem ma_nf_all : (List.range 13).all (fun t => (List.range (ma_fn t)).all (fun k => ma_nf (ma_ft t k))) = true := by decide +kernel
theorem ma_new_rd (S : ma_S) (t n k : Nat) (ty : FieldType) (ad : Nat → Nat) (h : ma_nf ty = true) : ma_tv ad (ma_rd (ma_new S t n) (mN S) k ty) = defaultValue ty := by
  cases ty <;> first | (cases h; done) | (simp [ma_rd, ma_new, ma_uc, mI, mL, mR, mN, ma_tv, va_rf, defaultValue]; done)
theorem ma_new_fs (S : ma_S) {t n : Nat} (ht : t < 13) (ad ad' : Nat → Nat) : ma_fs ad' (ma_new S t n) (mN S) t = ma_fs ad (ma_new S t n) (mN S) t ∧ ∀ j, j < ma_fn t → defaultValue (ma_ft t j) = vp_V (ma_fs ad (ma_new S t n) (mN S) t) j := by
  have hall := List.all_eq_true.mp ma_nf_all t (List.mem_range.mpr ht)
  have hnf : ∀ k, k < ma_fn t → ma_nf (ma_ft t k) = true := fun k hk => List.all_eq_true.mp hall k (List.mem_range.mpr hk)
  refine ⟨?_, fun j hj => ?_⟩
  · unfold ma_fs
    apply List.map_congr_left
    intro k hk
    rw [ma_new_rd S t n k _ ad' (hnf k (List.mem_range.mp hk)), ma_new_rd S t n k _ ad (hnf k (List.mem_range.mp hk))]
  · unfold vp_V ma_fs
    rw [List.getD_eq_getElem?_getD, List.getElem?_map, List.getElem?_range hj]
    show _ = ma_tv ad (ma_rd (ma_new S t n) (mN S) j (ma_ft t j))
    rw [ma_new_rd S t n j _ ad (hnf j hj)]
theorem ma_new_H (S : ma_S) (t n : Nat) : mH (ma_new S t n) (mN S) = (t, n) := if_pos rfl
section MA4
variable {p : Program} {l : Launch} {e : Env} {R : Room} {s : State} {m : MethodId} {args : Array Value} {below : List Frame} {meth : Method} {c : Code} {H H0 : Heap} {locs : List Loc} {cells slots : Nat} {Q : State → Prop} {cc : ByteArray} {pc : Nat} {ls : Array Slot} {ad : Nat → Nat} {kA : Nat → ClassId} {D : va_G} {A : Nat → Prop}
theorem ma_al_ok (hx : p.tables.exec = Jvm.exec) (hb : c.code = cc) {o n : Nat} {i : Instr} {st st' : List ma_V} {S S' : ma_S} (hown : s.vm.findClass (ma_cn o) = some m.cls) (hts : ∀ w ∈ ma_TB, w.before args s = true) (hK : va_K D vwCl (ma_tys kA) s) (hO : va_AO RX9 s ∧ va_AO RX1 s) (hA : ∀ q, H0.size ≤ q → A q)
    (hh : ma_ch S) (hc : ma_cs (mN S) st) (hP : va_P D vwCl (ma_wl kA ad S) H) (hD : va_D A (ma_wl kA ad S)) (hS : va_S A H0 H locs) (hd : decode cc pc = .ok (i, n)) (h : ma_al o i n st S = some (st', S')) (hr1 : cells + (mC S' - mC S) ≤ R.cells) (hr2 : slots + (mZ S' - mZ S) ≤ R.slots)
    (k : ∀ (q : Nat) (H1 : Heap), va_P D vwCl (ma_wl kA (va_up ad (mN S) q) S') H1 → va_D A (ma_wl kA (va_up ad (mN S) q) S') → va_S A H0 H1 locs → W p l e R s m args below meth c H1 locs (cells + (mC S' - mC S)) (slots + (mZ S' - mZ S)) Q (F0 m (pc + n) ls (ma_ts (va_up ad (mN S) q) st'))) :
    W p l e R s m args below meth c H locs cells slots Q (F0 m pc ls (ma_ts ad st)) ∧ ma_ch S' ∧ ma_cs (mN S') st' ∧ mN S' = mN S + 1 ∧ mC S' = mC S + 1 ∧ mZ S ≤ mZ S' := by
  have fin : ∀ (t N : Nat) (r : List ma_V), ma_cs (mN S) r → ma_ch (ma_new S t N) ∧ ma_cs (mN (ma_new S t N)) (.inr (.inr (some (mN S))) :: r) ∧ mN (ma_new S t N) = mN S + 1 ∧ mC (ma_new S t N) = mC S + 1 ∧ mZ S ≤ mZ (ma_new S t N) := by
    intro t N r hr
    exact ⟨ma_new_ch hh t N, ma_cs_cons (fun b hb => by cases hb; exact Nat.lt_succ_self _) (fun v hv => (hr v hv).mono (Nat.le_succ _)), rfl, rfl, Nat.le_add_right _ _⟩
  have e1 : ∀ t N : Nat, mC (ma_new S t N) - mC S = 1 := fun t N => by show S.2.1 + 1 - S.2.1 = 1; omega
  have e2 : ∀ t N : Nat, mZ (ma_new S t N) - mZ S = N := fun t N => by show S.2.2.1 + N - S.2.2.1 = N; omega
  have tsr : ∀ (q : Nat) (r : List ma_V), ma_cs (mN S) r → ma_ts (va_up ad (mN S) q) (.inr (.inr (some (mN S))) :: r) = .ref q :: ma_ts ad r := by
    intro q r hr
    show Value.ref (va_up ad (mN S) q (mN S)) :: ma_ts (va_up ad (mN S) q) r = _
    rw [va_up_self, ma_ts_ad hr (fun b hb => va_up_ne ad q (by omega))]
  unfold ma_al at h
  split at h
  · next r x =>
    cases ht : ma_nwt o x with
    | none => rw [ht] at h; cases h
    | some t =>
      rw [ht] at h
      cases h
      obtain ⟨t1, t2, C, T, hcl, w1, w2, w3⟩ := ma_nwt_spec ht
      obtain ⟨C9, T9, hcl9, hw, hty, hnm⟩ := ma_clok_all t1 t2
      cases hcl.symm.trans hcl9
      rw [e1] at hr1
      rw [e2] at hr2
      simp only [e1, e2] at k
      refine ⟨?_, fin t (ma_fn t) st hc⟩
      obtain ⟨f1, f2⟩ := ma_new_fs S (t := t) (n := ma_fn t) (by omega) ad ad
      refine va_new (c0 := c) (ci := t) (fs := ma_fs ad (ma_new S t (ma_fn t)) (mN S) t) hx hb hts hw (ma_ft t) hty hown (hts _ w1) (hts _ w2) (hts _ w3) hK hP hD hS hA hcl f2 hr1 hr2 hd (fun q H1 a1 a2 a3 => ?_)
      have hE : ma_wl kA ad S ++ [(q, .inr (t, ma_fs ad (ma_new S t (ma_fn t)) (mN S) t))] = ma_wl kA (va_up ad (mN S) q) (ma_new S t (ma_fn t)) := by
        rw [ma_wl_new hh, ma_E_obj (by rw [ma_new_H]; show t < 20; omega), ma_new_H, (ma_new_fs S (t := t) (n := ma_fn t) (by omega) ad (va_up ad (mN S) q)).1]
      have := k q H1 (hE ▸ a1) (hE ▸ a2) a3
      rw [tsr q st hc] at this
      exact this
  · next a kx r =>
    split at h
    · next hk =>
      simp only [Bool.and_eq_true, decide_eq_true_eq] at hk
      have hneg : ¬ kx < 0 := fun z => absurd hk.1 (Int32.not_le.mpr z)
      cases ht : ma_at a with
      | none => rw [ht] at h; cases h
      | some t =>
        rw [ht] at h
        cases h
        rw [e1] at hr1
        rw [e2] at hr2
        simp only [e1, e2] at k
        refine ⟨?_, fin t kx.toNatClampNeg r (ma_cs_tl hc)⟩
        have go : ∀ (t0 : Nat) (ty : FieldType) (a0 : vp_A), newarray.typeOf a = ty → Cond.arrayClass ty ∈ ma_TB → (ma_tys kA)[t0]? = some (kA t, ty) → (∀ cA cA' : ClassId, va_RA s cA ty → va_RA s cA' ty → cA = cA') → (∀ cA : ClassId, vp_cell cA a0 = arrV cA kx.toNatClampNeg (fun _ => defaultValue ty)) → kx.toNatClampNeg * componentBytes ty ≤ 536870912 → (∀ q, ma_E kA (va_up ad (mN S) q) (ma_new S t kx.toNatClampNeg) (mN S) = .inl (kA t, a0)) → W p l e R s m args below meth c H locs cells slots Q (F0 m pc ls (ma_ts ad (.inl kx :: r))) := by
          intro t0 ty a0 hty hw ht0 huni ha0 hby hE
          refine va_newa hx hb (hty ▸ hts _ hw) hty hK hP hD hS hA ha0 hneg rfl hby hr1 hr2 hd (fun q cA H1 b1 b2 b3 b4 => ?_)
          have hcA : cA = kA t := huni cA (kA t) (b1.2 (ma_tys kA).length (cA, ty) (by rw [List.getElem?_append_right (Nat.le_refl _), Nat.sub_self]; rfl)).2 (hK.2 t0 _ ht0).2
          subst hcA
          have hE : ma_wl kA ad S ++ [(q, .inl (kA t, a0))] = ma_wl kA (va_up ad (mN S) q) (ma_new S t kx.toNatClampNeg) := by
            rw [ma_wl_new hh, hE]
          have := k q H1 (hE ▸ b2) (hE ▸ b3) b4
          rw [tsr q r (ma_cs_tl hc)] at this
          exact this
        cases a <;> simp only [ma_at, reduceCtorEq, Option.some.injEq] at ht
        · subst ht
          exact go 2 .boolean (kx.toNatClampNeg, .inl (fun _ => 0)) rfl (ma_TB_in (j := 1770) (by decide +kernel) rfl) rfl (fun _ _ h1 h2 => Option.some.inj (h1.symm.trans h2)) (fun _ => rfl) (by show _ * 1 ≤ _; omega) (fun q => by rw [ma_E_int (t := 22) (by rw [ma_new_H]) (by omega) (by omega), ma_new_H]; show Sum.inl (kA 22, _, Sum.inl (ma_uc (mI S) S.1 (fun _ => 0) (mN S))) = _; rw [show ma_uc (mI S) S.1 (fun _ => 0) (mN S) = (fun _ => 0) from if_pos rfl])
        · subst ht
          exact go 1 .byte (kx.toNatClampNeg, .inl (fun _ => 0)) rfl (ma_TB_in (j := 103) (by decide +kernel) rfl) rfl (fun _ _ h1 h2 => Option.some.inj (h1.symm.trans h2)) (fun _ => rfl) (by show _ * 1 ≤ _; omega) (fun q => by rw [ma_E_int (t := 21) (by rw [ma_new_H]) (by omega) (by omega), ma_new_H]; show Sum.inl (kA 21, _, Sum.inl (ma_uc (mI S) S.1 (fun _ => 0) (mN S))) = _; rw [show ma_uc (mI S) S.1 (fun _ => 0) (mN S) = (fun _ => 0) from if_pos rfl])
        · subst ht
          exact go 0 .int (kx.toNatClampNeg, .inl (fun _ => 0)) rfl (ma_TB_in (j := 104) (by decide +kernel) rfl) rfl (fun _ _ h1 h2 => Option.some.inj (h1.symm.trans h2)) (fun _ => rfl) (by show _ * 4 ≤ _; omega) (fun q => by rw [ma_E_int (t := 20) (by rw [ma_new_H]) (by omega) (by omega), ma_new_H]; show Sum.inl (kA 20, _, Sum.inl (ma_uc (mI S) S.1 (fun _ => 0) (mN S))) = _; rw [show ma_uc (mI S) S.1 (fun _ => 0) (mN S) = (fun _ => 0) from if_pos rfl])
        · subst ht
          exact go 3 .long (kx.toNatClampNeg, .inr (.inl (fun _ => 0))) rfl (ma_TB_in (j := 2155) (by decide +kernel) rfl) rfl (fun _ _ h1 h2 => Option.some.inj (h1.symm.trans h2)) (fun _ => rfl) (by show _ * 8 ≤ _; omega) (fun q => by rw [ma_E_long (by rw [ma_new_H]), ma_new_H]; show Sum.inl (kA 23, _, Sum.inr (Sum.inl (ma_uc (mL S) S.1 (fun _ => 0) (mN S)))) = _; rw [show ma_uc (mL S) S.1 (fun _ => 0) (mN S) = (fun _ => 0) from if_pos rfl])
    · cases h
  · next x kx r =>
    split at h
    · next hk =>
      simp only [Bool.and_eq_true, decide_eq_true_eq] at hk
      have hneg : ¬ kx < 0 := fun z => absurd hk.1 (Int32.not_le.mpr z)
      cases ht : ma_ant o x with
      | none => rw [ht] at h; cases h
      | some t =>
        rw [ht] at h
        cases h
        rw [e1] at hr1
        rw [e2] at hr2
        simp only [e1, e2] at k
        refine ⟨?_, fin t kx.toNatClampNeg r (ma_cs_tl hc)⟩
        obtain ⟨ht2, hw⟩ := ma_ant_spec ht
        have hAO : va_AO (ma_anC t) s := by
          rcases ht2 with rfl | rfl
          · exact hO.1
          · exact hO.2
        obtain ⟨t0, ht0⟩ : ∃ t0, (ma_tys kA)[t0]? = some (kA t, FieldType.object (ma_anC t)) := by
          rcases ht2 with rfl | rfl
          · exact ⟨4, rfl⟩
          · exact ⟨5, rfl⟩
        refine va_newq hx hb hown (hts _ hw) hAO hK hP hD hS hA hneg rfl (by omega) hr1 hr2 hd (fun q cA H1 b1 b2 b3 b4 => ?_)
        have hcA : cA = kA t := by
          obtain ⟨_, _, _, _, _, g1⟩ := (b1.2 (ma_tys kA).length (cA, .object (ma_anC t)) (by rw [List.getElem?_append_right (Nat.le_refl _), Nat.sub_self]; rfl)).2
          obtain ⟨_, _, _, _, _, g2⟩ := (hK.2 t0 _ ht0).2
          exact Option.some.inj (g1.symm.trans g2)
        subst hcA
        have hE : ma_wl kA ad S ++ [(q, .inl (kA t, kx.toNatClampNeg, .inr (.inr (.inr (.inr (fun _ => none))))))] = ma_wl kA (va_up ad (mN S) q) (ma_new S t kx.toNatClampNeg) := by
          rw [ma_wl_new hh, ma_E_ref (t := t) (by rw [ma_new_H]) (by omega), ma_new_H]
          show _ = _ ++ [(q, Sum.inl (kA t, _, Sum.inr (Sum.inr (Sum.inr (Sum.inr (fun j => (ma_uc (mR S) S.1 (fun _ => none) (mN S) j).map (va_up ad (mN S) q)))))))]
          rw [show ma_uc (mR S) S.1 (fun _ => none) (mN S) = (fun _ => none) from if_pos rfl]
          rfl
        have := k q H1 (hE ▸ b2) (hE ▸ b3) b4
        rw [tsr q r (ma_cs_tl hc)] at this
        exact this
    · cases h
  · cases h
end MA4
end
section
/-! THE SMALL MACHINE, part 5: constants, class tests, rows of collectors; what the tables say beyond the good words -/
def ma_nw : List Cond := [.castable "java/lang/IndexOutOfBoundsException" "java/lang/IndexOutOfBoundsException", .castable "java/lang/IllegalArgumentException" "java/lang/IllegalArgumentException", .castable "java/lang/IllegalStateException" "java/lang/IllegalStateException", .castable "java/util/NoSuchElementException" "java/util/NoSuchElementException", .castable "java/lang/ClassCastException" "java/lang/ClassCastException", .castable "java/lang/UnsupportedOperationException" "java/lang/UnsupportedOperationException", .castable "CollectorHouse$Steps" "CollectorHouse$Steps", .castable "CollectorHouse$Counts" "CollectorHouse$Sweep", .castable "CollectorHouse$Steps" "CollectorHouse$Sweep", .castable "CollectorHouse$Sweep" "CollectorHouse$Sweep", .castable "CollectorHouse$Ages" "CollectorHouse$Collector", .castable "CollectorHouse$Counts" "CollectorHouse$Collector", .castable "CollectorHouse$Halves" "CollectorHouse$Collector", .castable "CollectorHouse$Regions" "CollectorHouse$Collector", .castable "CollectorHouse$Slide" "CollectorHouse$Collector", .castable "CollectorHouse$Steps" "CollectorHouse$Collector", .castable "CollectorHouse$Sweep" "CollectorHouse$Collector", .methodLinkNest "CollectorHouse" 25 ⟨"CollectorHouse$Store", "<init>", "()V"⟩ "CollectorHouse", .methodLinkNest "CollectorHouse$Store" 82 ⟨"CollectorHouse", "numberOf", "(LCollectorHouse$Thing;)I"⟩ "CollectorHouse", .declares ⟨"CollectorHouse$Collector", "open", "([I)V"⟩, .declares ⟨"CollectorHouse$Collector", "total", "()I"⟩, .declares ⟨"java/lang/RuntimeException", "<init>", "()V"⟩, .declares ⟨"java/lang/RuntimeException", "<init>", "(Ljava/lang/String;)V"⟩, .declares ⟨"java/lang/Exception", "<init>", "()V"⟩, .declares ⟨"java/lang/Exception", "<init>", "(Ljava/lang/String;)V"⟩, .declares ⟨"java/lang/Throwable", "<init>", "()V"⟩, .declares ⟨"java/lang/Throwable", "<init>", "(Ljava/lang/String;)V"⟩, .declares ⟨"CollectorHouse$Collector", "findRoom", "(I)I"⟩, .declares ⟨"CollectorHouse$Collector", "slideDown", "(I)I"⟩, .declares ⟨"CollectorHouse$Collector", "removeUnreached", "()I"⟩, .declares ⟨"CollectorHouse$Sweep", "fit", "(I)I"⟩, .declares ⟨"CollectorHouse$Collector", "noteMade", "(LCollectorHouse$Thing;)V"⟩, .declares ⟨"CollectorHouse$Collector", "cleanAll", "()I"⟩]
def ma_nc : List (String × String) := [("CollectorHouse$Ages", "CollectorHouse$Steps"), ("CollectorHouse$Ages", "CollectorHouse$Sweep"), ("CollectorHouse$Counts", "CollectorHouse$Steps"), ("CollectorHouse$Halves", "CollectorHouse$Steps"), ("CollectorHouse$Halves", "CollectorHouse$Sweep"), ("CollectorHouse$Regions", "CollectorHouse$Steps"), ("CollectorHouse$Regions", "CollectorHouse$Sweep"), ("CollectorHouse$Slide", "CollectorHouse$Steps"), ("CollectorHouse$Slide", "CollectorHouse$Sweep"), ("CollectorHouse$Sweep", "CollectorHouse$Steps"), ("java/lang/IndexOutOfBoundsException", "java/lang/IllegalArgumentException"), ("java/lang/IndexOutOfBoundsException", "java/lang/IllegalStateException"), ("java/lang/IndexOutOfBoundsException", "java/util/NoSuchElementException"), ("java/lang/IndexOutOfBoundsException", "java/lang/ClassCastException"), ("java/lang/IndexOutOfBoundsException", "java/lang/UnsupportedOperationException"), ("java/lang/IllegalArgumentException", "java/lang/IndexOutOfBoundsException"), ("java/lang/IllegalArgumentException", "java/lang/IllegalStateException"), ("java/lang/IllegalArgumentException", "java/util/NoSuchElementException"), ("java/lang/IllegalArgumentException", "java/lang/ClassCastException"), ("java/lang/IllegalArgumentException", "java/lang/UnsupportedOperationException"), ("java/lang/IllegalStateException", "java/lang/IndexOutOfBoundsException"), ("java/lang/IllegalStateException", "java/lang/IllegalArgumentException"), ("java/lang/IllegalStateException", "java/util/NoSuchElementException"), ("java/lang/IllegalStateException", "java/lang/ClassCastException"), ("java/lang/IllegalStateException", "java/lang/UnsupportedOperationException"), ("java/util/NoSuchElementException", "java/lang/IndexOutOfBoundsException"), ("java/util/NoSuchElementException", "java/lang/IllegalArgumentException"), ("java/util/NoSuchElementException", "java/lang/IllegalStateException"), ("java/util/NoSuchElementException", "java/lang/ClassCastException"), ("java/util/NoSuchElementException", "java/lang/UnsupportedOperationException"), ("java/lang/ClassCastException", "java/lang/IndexOutOfBoundsException"), ("java/lang/ClassCastException", "java/lang/IllegalArgumentException"), ("java/lang/ClassCastException", "java/lang/IllegalStateException"), ("java/lang/ClassCastException", "java/util/NoSuchElementException"), ("java/lang/ClassCastException", "java/lang/UnsupportedOperationException"), ("java/lang/UnsupportedOperationException", "java/lang/IndexOutOfBoundsException"), ("java/lang/UnsupportedOperationException", "java/lang/IllegalArgumentException"), ("java/lang/UnsupportedOperationException", "java/lang/IllegalStateException"), ("java/lang/UnsupportedOperationException", "java/util/NoSuchElementException"), ("java/lang/UnsupportedOperationException", "java/lang/ClassCastException")]
def ma_Nx (s : State) : Prop := (∀ w ∈ ma_nw, va_Nw w s) ∧ (va_AO RX9 s ∧ va_AO RX1 s) ∧ ∀ q ∈ ma_nc, va_Nc q.1 q.2 s
def ma_wf3 (w : Cond) : Bool := match w with
  | .castable _ _ => true
  | .methodLinkNest _ _ _ _ => true
  | .declares _ => true
  | _ => false
theorem ma_nw_f : ∀ w ∈ ma_nw, ma_wf3 w = true := List.all_eq_true.mp (by decide +kernel)
theorem ma_Nx.warm {s U : State} (hW : s.WarmedH U.vm) (h : ma_Nx s) : ma_Nx U := by
  refine ⟨fun w hw => ?_, ⟨va_AO.moved hW.alike h.2.1.1, va_AO.moved hW.alike h.2.1.2⟩, fun q hq => va_Nc.moved hW.alike (h.2.2 q hq)⟩
  have hf := ma_nw_f w hw
  have hz := h.1 w hw
  unfold ma_wf3 at hf
  split at hf
  · exact va_Nw.warmC hW hz
  · exact va_Nw.warmM hW hz
  · exact va_Nw.warmD hW hz
  · cases hf
theorem ma_Nx.calling {s : State} (g : JFrame) (mk : MethodId) (a : Array Value) (h : ma_Nx s) : ma_Nx (s.calling g mk a) := by
  refine ⟨fun w hw => ?_, ⟨va_AO.moved (Vm.Alike.refl s.vm) h.2.1.1, va_AO.moved (Vm.Alike.refl s.vm) h.2.1.2⟩, fun q hq => va_Nc.moved (Vm.Alike.refl s.vm) (h.2.2 q hq)⟩
  have hf := ma_nw_f w hw
  have hz := h.1 w hw
  unfold ma_wf3 at hf
  split at hf
  · exact va_Nw.same rfl rfl hz
  · exact va_Nw.same rfl rfl hz
  · exact va_Nw.same rfl rfl hz
  · cases hf
def ma_lch : List ((Nat × Nat × Int32) × Nat) := [((2, 32, 1000000), 1152), ((12, 55, 186000), 1513)]
theorem ma_lch_ok : ∀ q ∈ ma_lch, (decide (tables_1[q.2]? = some (.constant (ma_cn q.1.1) q.1.2.1 q.1.2.2)) && goodWord (.constant (ma_cn q.1.1) q.1.2.1 q.1.2.2)) = true := List.all_eq_true.mp (by decide +kernel)
def ma_lct (o i : Nat) : Option Int32 := (ma_lch.find? (fun q => q.1.1 == o && q.1.2.1 == i)).map (fun q => q.1.2.2)
theorem ma_lct_spec {o i : Nat} {v : Int32} (h : ma_lct o i = some v) : Cond.constant (ma_cn o) i v ∈ ma_TB := by
  unfold ma_lct at h
  cases hf : ma_lch.find? (fun q => q.1.1 == o && q.1.2.1 == i) with
  | none => rw [hf] at h; cases h
  | some q =>
    rw [hf] at h
    have hk : q.1.2.2 = v := Option.some.inj h
    have h1 := List.find?_some hf
    simp only [Bool.and_eq_true, beq_iff_eq] at h1
    have h2 := ma_lch_ok q (List.mem_of_find?_eq_some hf)
    rw [hk, h1.1, h1.2] at h2
    simp only [Bool.and_eq_true] at h2
    exact ma_TB_in h2.1 h2.2
def ma_l2h : List ((Nat × Nat × Int64) × Nat) := [((11, 117, -1), 1181)]
theorem ma_l2h_ok : ∀ q ∈ ma_l2h, (decide (tables_1[q.2]? = some (.constantLong (ma_cn q.1.1) q.1.2.1 q.1.2.2)) && goodWord (.constantLong (ma_cn q.1.1) q.1.2.1 q.1.2.2)) = true := List.all_eq_true.mp (by decide +kernel)
def ma_l2t (o i : Nat) : Option Int64 := (ma_l2h.find? (fun q => q.1.1 == o && q.1.2.1 == i)).map (fun q => q.1.2.2)
theorem ma_l2t_spec {o i : Nat} {v : Int64} (h : ma_l2t o i = some v) : Cond.constantLong (ma_cn o) i v ∈ ma_TB := by
  unfold ma_l2t at h
  cases hf : ma_l2h.find? (fun q => q.1.1 == o && q.1.2.1 == i) with
  | none => rw [hf] at h; cases h
  | some q =>
    rw [hf] at h
    have hk : q.1.2.2 = v := Option.some.inj h
    have h1 := List.find?_some hf
    simp only [Bool.and_eq_true, beq_iff_eq] at h1
    have h2 := ma_l2h_ok q (List.mem_of_find?_eq_some hf)
    rw [hk, h1.1, h1.2] at h2
    simp only [Bool.and_eq_true] at h2
    exact ma_TB_in h2.1 h2.2
/-- (own class, pool entry, class of the object), is it one?; the class named; the row -/
def ma_cth : List ((Nat × Nat × Nat × Bool) × String × Nat) := [((11, 41, 1, false), "CollectorHouse$Sweep", 136), ((11, 41, 2, true), "CollectorHouse$Sweep", 136), ((11, 41, 3, false), "CollectorHouse$Sweep", 136), ((11, 41, 4, false), "CollectorHouse$Sweep", 136), ((11, 41, 5, false), "CollectorHouse$Sweep", 136), ((11, 41, 6, true), "CollectorHouse$Sweep", 136), ((11, 41, 8, true), "CollectorHouse$Sweep", 136), ((11, 58, 1, false), "CollectorHouse$Steps", 267), ((11, 58, 2, false), "CollectorHouse$Steps", 267), ((11, 58, 3, false), "CollectorHouse$Steps", 267), ((11, 58, 4, false), "CollectorHouse$Steps", 267), ((11, 58, 5, false), "CollectorHouse$Steps", 267), ((11, 58, 6, true), "CollectorHouse$Steps", 267), ((11, 58, 8, false), "CollectorHouse$Steps", 267)]
def ma_ctc (q : (Nat × Nat × Nat × Bool) × String × Nat) : Bool := match vwCl[q.1.2.2.1]? with
  | some (C, _, _) => (decide (tables_1[q.2.2]? = some (.classLink (ma_cn q.1.1) q.1.2.1 q.2.1)) && goodWord (.classLink (ma_cn q.1.1) q.1.2.1 q.2.1)) && (if q.1.2.2.2 then decide (Cond.castable C q.2.1 ∈ ma_nw) else decide ((C, q.2.1) ∈ ma_nc))
  | none => false
theorem ma_cth_ok : ∀ q ∈ ma_cth, ma_ctc q = true := List.all_eq_true.mp (by decide +kernel)
def ma_ctt (o i t : Nat) : Option Bool := (ma_cth.find? (fun q => q.1.1 == o && q.1.2.1 == i && q.1.2.2.1 == t)).map (fun q => q.1.2.2.2)
theorem ma_ctt_spec {o i t : Nat} {b : Bool} {C : String} {T : u_T} {N : Nat} (h : ma_ctt o i t = some b) (hc : vwCl[t]? = some (C, T, N)) : ∃ nm : String, Cond.classLink (ma_cn o) i nm ∈ ma_TB ∧ (if b then Cond.castable C nm ∈ ma_nw else (C, nm) ∈ ma_nc) := by
  unfold ma_ctt at h
  cases hf : ma_cth.find? (fun q => q.1.1 == o && q.1.2.1 == i && q.1.2.2.1 == t) with
  | none => rw [hf] at h; cases h
  | some q =>
    rw [hf] at h
    have hk : q.1.2.2.2 = b := Option.some.inj h
    have h1 := List.find?_some hf
    simp only [Bool.and_eq_true, beq_iff_eq] at h1
    have h2 := ma_cth_ok q (List.mem_of_find?_eq_some hf)
    unfold ma_ctc at h2
    rw [h1.2, hc] at h2
    simp only [h1.1.1, h1.1.2, hk, Bool.and_eq_true] at h2
    refine ⟨q.2.1, ma_TB_in h2.1.1 h2.1.2, ?_⟩
    cases b with
    | true => exact of_decide_eq_true h2.2
    | false => exact of_decide_eq_true h2.2
/-- classes whose objects a row of collectors may hold -/
def ma_co (t : Nat) : Bool := match vwCl[t]? with
  | some (C, _, _) => decide (Cond.castable C RX1 ∈ ma_nw)
  | none => false
def ma_ex (o : Nat) (i : Instr) (n : Nat) (st : List ma_V) (S : ma_S) : Option (List ma_V × ma_S) := match i, n, st with
  | .ldc x, 2, r => (ma_lct o x).map (fun v => (.inl v :: r, S))
  | .ldc2_w x, 3, r => (ma_l2t o x).map (fun v => (.inr (.inl v) :: r, S))
  | .instanceof x, 3, .inr (.inr none) :: r => some (.inl 0 :: r, S)
  | .instanceof x, 3, .inr (.inr (some c)) :: r => if ma_is S c && decide (1 ≤ (mH S c).1) && decide ((mH S c).1 ≤ 12) then (ma_ctt o x (mH S c).1).map (fun b => (.inl (if b then 1 else 0) :: r, S)) else none
  | .checkcast x, 3, .inr (.inr none) :: r => some (.inr (.inr none) :: r, S)
  | .checkcast x, 3, .inr (.inr (some c)) :: r => if ma_is S c && decide (1 ≤ (mH S c).1) && decide ((mH S c).1 ≤ 12) && decide (ma_ctt o x (mH S c).1 = some true) then some (.inr (.inr (some c)) :: r, S) else none
  | .aastore, 1, .inr (.inr (some b)) :: .inl j :: .inr (.inr (some c)) :: r => if ma_is S c && decide ((mH S c).1 = 25) && ma_ix S c j && ma_is S b && decide (1 ≤ (mH S b).1) && decide ((mH S b).1 ≤ 12) && ma_co (mH S b).1 then some (r, ma_put S c j.toNatClampNeg (.inr (.inr (some b)))) else none
  | _, _, _ => none
theorem ma_ex_c {o n : Nat} {i : Instr} {st st' : List ma_V} {S S' : ma_S} (hh : ma_ch S) (hc : ma_cs (mN S) st) (h : ma_ex o i n st S = some (st', S')) : ma_ch S' ∧ ma_cs (mN S') st' ∧ mN S' = mN S ∧ mC S' = mC S ∧ mZ S' = mZ S := by
  have mapv : ∀ {α : Type} {x : Option α} {f : α → List ma_V}, x.map (fun v => (f v, S)) = some (st', S') → (∀ v, ma_cs (mN S) (f v)) → ma_ch S' ∧ ma_cs (mN S') st' ∧ mN S' = mN S ∧ mC S' = mC S ∧ mZ S' = mZ S := by
    intro α x f hx hf
    cases x with
    | none => cases hx
    | some v => cases hx; exact ⟨hh, hf v, rfl, rfl, rfl⟩
  unfold ma_ex at h
  split at h
  · exact mapv h (fun v => ma_cs_cons ma_cv_i hc)
  · exact mapv h (fun v => ma_cs_cons ma_cv_l hc)
  · cases h; exact ⟨hh, ma_cs_cons ma_cv_i (ma_cs_tl hc), rfl, rfl, rfl⟩
  · split at h
    · exact mapv h (fun v => ma_cs_cons ma_cv_i (ma_cs_tl hc))
    · cases h
  · cases h; exact ⟨hh, hc, rfl, rfl, rfl⟩
  · split at h
    · cases h; exact ⟨hh, hc, rfl, rfl, rfl⟩
    · cases h
  · split at h
    · cases h
      exact ⟨ma_put_ch hh (ma_cs_hd hc), ma_cs_tl (ma_cs_tl (ma_cs_tl hc)), rfl, rfl, rfl⟩
    · cases h
  · cases h
section MA5
variable {p : Program} {l : Launch} {e : Env} {R : Room} {s : State} {m : MethodId} {args : Array Value} {below : List Frame} {meth : Method} {c : Code} {H H0 : Heap} {locs : List Loc} {cells slots : Nat} {Q : State → Prop} {cc : ByteArray} {pc : Nat} {ls : Array Slot} {ad : Nat → Nat} {kA : Nat → ClassId} {D : va_G} {A : Nat → Prop}
theorem ma_ex_ok (hx : p.tables.exec = Jvm.exec) (hb : c.code = cc) {o n : Nat} {i : Instr} {st st' : List ma_V} {S S' : ma_S} (hown : s.vm.findClass (ma_cn o) = some m.cls) (hts : ∀ w ∈ ma_TB, w.before args s = true) (hK : va_K D vwCl (ma_tys kA) s) (hN : ma_Nx s)
    (hP : va_P D vwCl (ma_wl kA ad S) H) (hD : va_D A (ma_wl kA ad S)) (hS : va_S A H0 H locs) (hd : decode cc pc = .ok (i, n)) (h : ma_ex o i n st S = some (st', S'))
    (k : ∀ (H1 : Heap) (locs1 : List Loc), va_P D vwCl (ma_wl kA ad S') H1 → va_D A (ma_wl kA ad S') → va_S A H0 H1 locs1 → W p l e R s m args below meth c H1 locs1 cells slots Q (F0 m (pc + n) ls (ma_ts ad st'))) : W p l e R s m args below meth c H locs cells slots Q (F0 m pc ls (ma_ts ad st)) := by
  have is2 : ∀ {c : Nat}, ma_is S c = true → 64 ≤ c ∧ c < mN S := fun hh => by simpa [ma_is] using hh
  unfold ma_ex at h
  split at h
  · next r x =>
    cases hf : ma_lct o x with
    | none => rw [hf] at h; cases h
    | some v => rw [hf] at h; cases h; exact lv_ldc hx hb hown (hts _ (ma_lct_spec hf)) hd (k H locs hP hD hS)
  · next r x =>
    cases hf : ma_l2t o x with
    | none => rw [hf] at h; cases h
    | some v => rw [hf] at h; cases h; exact lv_ldc2 hx hb hown (hts _ (ma_l2t_spec hf)) hd (k H locs hP hD hS)
  · cases h; exact lv_instN hx hb hd (k H locs hP hD hS)
  · next x cx r =>
    split at h
    · next hc =>
      simp only [Bool.and_eq_true, decide_eq_true_eq] at hc
      obtain ⟨⟨hi, t1⟩, t2⟩ := hc
      obtain ⟨i1, i2⟩ := is2 hi
      obtain ⟨C, T, hcl, hw, hty, hnm⟩ := ma_clok_all t1 t2
      cases hf : ma_ctt o x (mH S cx).1 with
      | none => rw [hf] at h; cases h
      | some b =>
        rw [hf] at h
        cases h
        obtain ⟨nm, w1, w2⟩ := ma_ctt_spec hf hcl
        have hr := va_recv (a := ad cx) (fs := ma_fs ad S cx (mH S cx).1) hK hP hcl ((ma_wl_at i1 i2).trans (by rw [ma_E_obj (by omega)]))
        cases b with
        | true => exact va_instY hx hb hown (hts _ w1) (hN.1 _ w2) hr hd (k H locs hP hD hS)
        | false => exact va_instNo hx hb hown (hts _ w1) (hN.2.2 _ w2) hr hd (k H locs hP hD hS)
    · cases h
  · cases h; exact lv_castN hx hb hd (k H locs hP hD hS)
  · next x cx r =>
    split at h
    · next hc =>
      simp only [Bool.and_eq_true, decide_eq_true_eq] at hc
      obtain ⟨⟨⟨hi, t1⟩, t2⟩, hf⟩ := hc
      obtain ⟨i1, i2⟩ := is2 hi
      obtain ⟨C, T, hcl, hw, hty, hnm⟩ := ma_clok_all t1 t2
      cases h
      obtain ⟨nm, w1, w2⟩ := ma_ctt_spec hf hcl
      exact va_castY hx hb hown (hts _ w1) (hN.1 _ w2) (va_recv (a := ad cx) (fs := ma_fs ad S cx (mH S cx).1) hK hP hcl ((ma_wl_at i1 i2).trans (by rw [ma_E_obj (by omega)]))) hd (k H locs hP hD hS)
    · cases h
  · next bx j cx r =>
    split at h
    · next hc =>
      simp only [Bool.and_eq_true, decide_eq_true_eq] at hc
      obtain ⟨⟨⟨⟨⟨⟨hi, t1⟩, t2⟩, hv⟩, v3⟩, v4⟩, v5⟩ := hc
      obtain ⟨i1, i2⟩ := is2 hi
      obtain ⟨v1, v2⟩ := is2 hv
      obtain ⟨C, T, hcl, hw, hty, hnm⟩ := ma_clok_all v3 v4
      have hca : Cond.castable C RX1 ∈ ma_nw := by
        unfold ma_co at v5
        rw [hcl] at v5
        exact of_decide_eq_true v5
      cases h
      have hset : (ma_wl kA ad S).set (cx - 64) (ad cx, .inl (kA 25, (mH S cx).2, .inr (.inr (.inr (.inr (va_up (fun j => (mR S cx j).map ad) j.toNatClampNeg (some (ad bx)))))))) = ma_wl kA ad (ma_put S cx j.toNatClampNeg (.inr (.inr (some bx)))) := by
        refine ma_wl_set i1 i2 rfl ?_ (fun c' hc' => ma_put_o hc')
        rw [ma_E_ref (S := ma_put S cx j.toNatClampNeg (.inr (.inr (some bx)))) (t := 25) t1 (by omega)]
        show Sum.inl (kA 25, (mH S cx).2, Sum.inr (Sum.inr (Sum.inr (Sum.inr (fun i => (ma_u (mR S) cx j.toNatClampNeg (some bx) cx i).map ad))))) = _
        rw [ma_u_eq]
        have : (fun i => (va_up (mR S cx) j.toNatClampNeg (some bx) i).map ad) = va_up (fun j => (mR S cx j).map ad) j.toNatClampNeg (some (ad bx)) := by
          funext i; unfold va_up; split <;> rfl
        rw [this]
      exact va_astqO (r := (C, T, ma_fn (mH S bx).1)) hx hb hK hP hD hS (cx - 64) 5 (bx - 64) (mH S bx).1 ((ma_wl_at i1 i2).trans (by rw [ma_E_ref t1 (by omega)])) rfl (hN.1 _ hca) ((ma_wl_at v1 v2).trans (by rw [ma_E_obj (by omega)])) hcl (ma_ix_in t2) hd (fun H1 locs1 a1 a2 a3 => k H1 locs1 (hset ▸ a1) (hset ▸ a2) a3)
    · cases h
  · cases h
end MA5
end
section
/-! methods by numbers: own class, name, code, locals, answer; calls by numbers -/
theorem ma_T1 {w : Cond} {i : Nat} (hi : tables_1_1[i]? = some w) (hg : goodWord w = true) : w ∈ ma_TB := by
  have h := List.mem_of_getElem? hi
  exact List.mem_filter.mpr ⟨List.mem_append_right _ (List.mem_append_right _ (List.mem_append_left _ h)), hg⟩
theorem ma_T2 {w : Cond} {i : Nat} (hi : tables_1_2[i]? = some w) (hg : goodWord w = true) : w ∈ ma_TB := by
  have h := List.mem_of_getElem? hi
  exact List.mem_filter.mpr ⟨List.mem_append_right _ (List.mem_append_right _ (List.mem_append_right _ (List.mem_append_left _ h))), hg⟩
theorem ma_T3 {w : Cond} {i : Nat} (hi : tables_1_3[i]? = some w) (hg : goodWord w = true) : w ∈ ma_TB := by
  have h := List.mem_of_getElem? hi
  exact List.mem_filter.mpr ⟨List.mem_append_right _ (List.mem_append_right _ (List.mem_append_right _ (List.mem_append_right _ (List.mem_append_left _ h)))), hg⟩
theorem ma_T4 {w : Cond} {i : Nat} (hi : tables_1_4[i]? = some w) (hg : goodWord w = true) : w ∈ ma_TB := by
  have h := List.mem_of_getElem? hi
  exact List.mem_filter.mpr ⟨List.mem_append_right _ (List.mem_append_right _ (List.mem_append_right _ (List.mem_append_right _ (List.mem_append_right _ (List.mem_append_left _ h))))), hg⟩
theorem ma_T5 {w : Cond} {i : Nat} (hi : tables_1_5[i]? = some w) (hg : goodWord w = true) : w ∈ ma_TB := by
  have h := List.mem_of_getElem? hi
  exact List.mem_filter.mpr ⟨List.mem_append_right _ (List.mem_append_right _ (List.mem_append_right _ (List.mem_append_right _ (List.mem_append_right _ (List.mem_append_right _ (List.mem_append_left _ h)))))), hg⟩
theorem ma_T6 {w : Cond} {i : Nat} (hi : tables_1_6[i]? = some w) (hg : goodWord w = true) : w ∈ ma_TB := by
  have h := List.mem_of_getElem? hi
  exact List.mem_filter.mpr ⟨List.mem_append_right _ (List.mem_append_right _ (List.mem_append_right _ (List.mem_append_right _ (List.mem_append_right _ (List.mem_append_right _ (List.mem_append_right _ (List.mem_append_left _ h))))))), hg⟩
theorem ma_T7 {w : Cond} {i : Nat} (hi : tables_1_7[i]? = some w) (hg : goodWord w = true) : w ∈ ma_TB := by
  have h := List.mem_of_getElem? hi
  exact List.mem_filter.mpr ⟨List.mem_append_right _ (List.mem_append_right _ (List.mem_append_right _ (List.mem_append_right _ (List.mem_append_right _ (List.mem_append_right _ (List.mem_append_right _ (List.mem_append_right _ (List.mem_append_left _ h)))))))), hg⟩
theorem ma_T8 {w : Cond} {i : Nat} (hi : tables_1_8[i]? = some w) (hg : goodWord w = true) : w ∈ ma_TB := by
  have h := List.mem_of_getElem? hi
  exact List.mem_filter.mpr ⟨List.mem_append_right _ (List.mem_append_right _ (List.mem_append_right _ (List.mem_append_right _ (List.mem_append_right _ (List.mem_append_right _ (List.mem_append_right _ (List.mem_append_right _ (List.mem_append_right _ (List.mem_append_left _ h))))))))), hg⟩
theorem ma_T9 {w : Cond} {i : Nat} (hi : tables_1_9[i]? = some w) (hg : goodWord w = true) : w ∈ ma_TB := by
  have h := List.mem_of_getElem? hi
  exact List.mem_filter.mpr ⟨List.mem_append_right _ (List.mem_append_right _ (List.mem_append_right _ (List.mem_append_right _ (List.mem_append_right _ (List.mem_append_right _ (List.mem_append_right _ (List.mem_append_right _ (List.mem_append_right _ (List.mem_append_right _ (List.mem_append_left _ h)))))))))), hg⟩
theorem ma_T10 {w : Cond} {i : Nat} (hi : tables_1_10[i]? = some w) (hg : goodWord w = true) : w ∈ ma_TB := by
  have h := List.mem_of_getElem? hi
  exact List.mem_filter.mpr ⟨List.mem_append_right _ (List.mem_append_right _ (List.mem_append_right _ (List.mem_append_right _ (List.mem_append_right _ (List.mem_append_right _ (List.mem_append_right _ (List.mem_append_right _ (List.mem_append_right _ (List.mem_append_right _ (List.mem_append_right _ h)))))))))), hg⟩
def ma_cio (o : Nat) : Prop := Cond.initialized (ma_cn o) ∈ ma_TB ∧ plainName (ma_cn o) = true ∧ ma_cn o ≠ "java/lang/invoke/MethodHandle" ∧ ma_cn o ≠ "java/lang/invoke/VarHandle"
theorem ma_cio1 : ma_cio 1 := ⟨ma_T1 (i := 8) (by decide +kernel) (by decide +kernel), by decide +kernel, by decide +kernel, by decide +kernel⟩
theorem ma_cio2 : ma_cio 2 := ⟨ma_T1 (i := 9) (by decide +kernel) (by decide +kernel), by decide +kernel, by decide +kernel, by decide +kernel⟩
theorem ma_cio3 : ma_cio 3 := ⟨ma_T1 (i := 7) (by decide +kernel) (by decide +kernel), by decide +kernel, by decide +kernel, by decide +kernel⟩
theorem ma_cio4 : ma_cio 4 := ⟨ma_T1 (i := 11) (by decide +kernel) (by decide +kernel), by decide +kernel, by decide +kernel, by decide +kernel⟩
theorem ma_cio5 : ma_cio 5 := ⟨ma_T1 (i := 6) (by decide +kernel) (by decide +kernel), by decide +kernel, by decide +kernel, by decide +kernel⟩
theorem ma_cio6 : ma_cio 6 := ⟨ma_T1 (i := 10) (by decide +kernel) (by decide +kernel), by decide +kernel, by decide +kernel, by decide +kernel⟩
theorem ma_cio7 : ma_cio 7 := ⟨ma_T1 (i := 2) (by decide +kernel) (by decide +kernel), by decide +kernel, by decide +kernel, by decide +kernel⟩
theorem ma_cio8 : ma_cio 8 := ⟨ma_T1 (i := 5) (by decide +kernel) (by decide +kernel), by decide +kernel, by decide +kernel, by decide +kernel⟩
theorem ma_cio9 : ma_cio 9 := ⟨ma_T1 (i := 26) (by decide +kernel) (by decide +kernel), by decide +kernel, by decide +kernel, by decide +kernel⟩
theorem ma_cio10 : ma_cio 10 := ⟨ma_T1 (i := 3) (by decide +kernel) (by decide +kernel), by decide +kernel, by decide +kernel, by decide +kernel⟩
theorem ma_cio11 : ma_cio 11 := ⟨ma_T1 (i := 1) (by decide +kernel) (by decide +kernel), by decide +kernel, by decide +kernel, by decide +kernel⟩
theorem ma_cio12 : ma_cio 12 := ⟨ma_T1 (i := 12) (by decide +kernel) (by decide +kernel), by decide +kernel, by decide +kernel, by decide +kernel⟩
theorem ma_cio13 : ma_cio 13 := ⟨ma_T1 (i := 4) (by decide +kernel) (by decide +kernel), by decide +kernel, by decide +kernel, by decide +kernel⟩
theorem ma_cio15 : ma_cio 15 := ⟨ma_T1 (i := 24) (by decide +kernel) (by decide +kernel), by decide +kernel, by decide +kernel, by decide +kernel⟩
theorem ma_cio17 : ma_cio 17 := ⟨ma_T1 (i := 19) (by decide +kernel) (by decide +kernel), by decide +kernel, by decide +kernel, by decide +kernel⟩
theorem ma_cio18 : ma_cio 18 := ⟨ma_T1 (i := 20) (by decide +kernel) (by decide +kernel), by decide +kernel, by decide +kernel, by decide +kernel⟩
theorem ma_cio19 : ma_cio 19 := ⟨ma_T1 (i := 21) (by decide +kernel) (by decide +kernel), by decide +kernel, by decide +kernel, by decide +kernel⟩
def ma_mok (q : Nat × MethodName × ByteArray × Nat × Option FieldType) : Prop := Cond.code q.2.1 q.2.2.1 q.2.2.2.1 q.2.2.2.2 ∈ ma_TB ∧ q.2.1.cls = ma_cn q.1 ∧ ma_cio q.1
theorem ma_mk0 : ma_mok (1, yX0_init, cX0_init, 3, none) := ⟨ma_T1 (i := 216) rfl rfl, rfl, ma_cio1⟩
theorem ma_mk1 : ma_mok (1, yX0_open, cX0_open, 2, none) := ⟨ma_T3 (i := 1) rfl rfl, rfl, ma_cio1⟩
theorem ma_mk2 : ma_mok (1, yX0_total, cX0_total, 1, (some (FieldType.int))) := ⟨ma_T3 (i := 27) rfl rfl, rfl, ma_cio1⟩
theorem ma_mk3 : ma_mok (1, yX0_findRoom, cX0_findRoom, 2, (some (FieldType.int))) := ⟨ma_T3 (i := 189) rfl rfl, rfl, ma_cio1⟩
theorem ma_mk4 : ma_mok (1, yX0_findOldRoom, cX0_findOldRoom, 2, (some (FieldType.int))) := ⟨ma_T3 (i := 193) rfl rfl, rfl, ma_cio1⟩
theorem ma_mk5 : ma_mok (1, yX0_cleanOld, cX0_cleanOld, 2, (some (FieldType.int))) := ⟨ma_T3 (i := 197) rfl rfl, rfl, ma_cio1⟩
theorem ma_mk6 : ma_mok (1, yX0_findDirty, cX0_findDirty, 4, none) := ⟨ma_T4 (i := 50) rfl rfl, rfl, ma_cio1⟩
theorem ma_mk7 : ma_mok (1, yX0_isYoung, cX0_isYoung, 2, (some (FieldType.boolean))) := ⟨ma_T4 (i := 55) rfl rfl, rfl, ma_cio1⟩
theorem ma_mk8 : ma_mok (1, yX0_noteReference, cX0_noteReference, 5, none) := ⟨ma_T4 (i := 60) rfl rfl, rfl, ma_cio1⟩
theorem ma_mk9 : ma_mok (1, yX0_cardOf, cX0_cardOf, 3, (some (FieldType.int))) := ⟨ma_T4 (i := 64) rfl rfl, rfl, ma_cio1⟩
theorem ma_mk10 : ma_mok (1, yX0_hasYoungRoom, cX0_hasYoungRoom, 2, (some (FieldType.boolean))) := ⟨ma_T4 (i := 68) rfl rfl, rfl, ma_cio1⟩
theorem ma_mk11 : ma_mok (1, yX0_cleanYoung, cX0_cleanYoung, 2, (some (FieldType.int))) := ⟨ma_T4 (i := 72) rfl rfl, rfl, ma_cio1⟩
theorem ma_mk12 : ma_mok (1, yX0_wordsGrowingOld, cX0_wordsGrowingOld, 4, (some (FieldType.int))) := ⟨ma_T4 (i := 76) rfl rfl, rfl, ma_cio1⟩
theorem ma_mk13 : ma_mok (1, yX0_comeFromDirty, cX0_comeFromDirty, 3, none) := ⟨ma_T4 (i := 82) rfl rfl, rfl, ma_cio1⟩
theorem ma_mk14 : ma_mok (1, yX0_comeFromDirtyWords, cX0_comeFromDirtyWords, 4, none) := ⟨ma_T4 (i := 87) rfl rfl, rfl, ma_cio1⟩
theorem ma_mk15 : ma_mok (1, yX0_moveKept, cX0_moveKept, 3, none) := ⟨ma_T4 (i := 93) rfl rfl, rfl, ma_cio1⟩
theorem ma_mk16 : ma_mok (1, yX0_moveOlder, cX0_moveOlder, 2, none) := ⟨ma_T4 (i := 101) rfl rfl, rfl, ma_cio1⟩
theorem ma_mk17 : ma_mok (1, yX0_noteMade, cX0_noteMade, 2, none) := ⟨ma_T5 (i := 133) rfl rfl, rfl, ma_cio1⟩
theorem ma_mk18 : ma_mok (1, yX0_canHold, cX0_canHold, 2, (some (FieldType.boolean))) := ⟨ma_T6 (i := 113) rfl rfl, rfl, ma_cio1⟩
theorem ma_mk19 : ma_mok (1, yX0_cleanAll, cX0_cleanAll, 2, (some (FieldType.int))) := ⟨ma_T6 (i := 172) rfl rfl, rfl, ma_cio1⟩
theorem ma_mk20 : ma_mok (1, yX0_specials, cX0_specials, 3, (some (FieldType.int))) := ⟨ma_T7 (i := 8) rfl rfl, rfl, ma_cio1⟩
theorem ma_mk21 : ma_mok (1, yX0_topPlace, cX0_topPlace, 1, (some (FieldType.int))) := ⟨ma_T7 (i := 23) rfl rfl, rfl, ma_cio1⟩
theorem ma_mk22 : ma_mok (1, yX0_oldTopOrRegion, cX0_oldTopOrRegion, 1, (some (FieldType.int))) := ⟨ma_T7 (i := 53) rfl rfl, rfl, ma_cio1⟩
theorem ma_mk23 : ma_mok (2, yX2_init, cX2_init, 3, none) := ⟨ma_T2 (i := 9) rfl rfl, rfl, ma_cio2⟩
theorem ma_mk24 : ma_mok (2, yX2_noteFewer, cX2_noteFewer, 5, none) := ⟨ma_T5 (i := 186) rfl rfl, rfl, ma_cio2⟩
theorem ma_mk25 : ma_mok (2, yX2_fallIfUncounted, cX2_fallIfUncounted, 2, none) := ⟨ma_T5 (i := 190) rfl rfl, rfl, ma_cio2⟩
theorem ma_mk26 : ma_mok (2, yX2_dropWord, cX2_dropWord, 3, none) := ⟨ma_T5 (i := 197) rfl rfl, rfl, ma_cio2⟩
theorem ma_mk27 : ma_mok (2, yX2_countOf, cX2_countOf, 2, (some (FieldType.int))) := ⟨ma_T6 (i := 200) rfl rfl, rfl, ma_cio2⟩
theorem ma_mk28 : ma_mok (3, yX3_init, cX3_init, 3, none) := ⟨ma_T1 (i := 198) rfl rfl, rfl, ma_cio3⟩
theorem ma_mk29 : ma_mok (3, yX3_open, cX3_open, 2, none) := ⟨ma_T3 (i := 8) rfl rfl, rfl, ma_cio3⟩
theorem ma_mk30 : ma_mok (3, yX3_total, cX3_total, 1, (some (FieldType.int))) := ⟨ma_T3 (i := 33) rfl rfl, rfl, ma_cio3⟩
theorem ma_mk31 : ma_mok (3, yX3_findRoom, cX3_findRoom, 2, (some (FieldType.int))) := ⟨ma_T4 (i := 183) rfl rfl, rfl, ma_cio3⟩
theorem ma_mk32 : ma_mok (3, yX3_hasRoom, cX3_hasRoom, 2, (some (FieldType.boolean))) := ⟨ma_T4 (i := 187) rfl rfl, rfl, ma_cio3⟩
theorem ma_mk33 : ma_mok (3, yX3_cleanAll, cX3_cleanAll, 4, (some (FieldType.int))) := ⟨ma_T4 (i := 191) rfl rfl, rfl, ma_cio3⟩
theorem ma_mk34 : ma_mok (3, yX3_noteMade, cX3_noteMade, 2, none) := ⟨ma_T5 (i := 139) rfl rfl, rfl, ma_cio3⟩
theorem ma_mk35 : ma_mok (3, yX3_canHold, cX3_canHold, 2, (some (FieldType.boolean))) := ⟨ma_T6 (i := 117) rfl rfl, rfl, ma_cio3⟩
theorem ma_mk36 : ma_mok (3, yX3_topPlace, cX3_topPlace, 1, (some (FieldType.int))) := ⟨ma_T7 (i := 27) rfl rfl, rfl, ma_cio3⟩
theorem ma_mk37 : ma_mok (4, yX4_init, cX4_init, 3, none) := ⟨ma_T2 (i := 57) rfl rfl, rfl, ma_cio4⟩
theorem ma_mk38 : ma_mok (4, yX4_open, cX4_open, 2, none) := ⟨ma_T3 (i := 11) rfl rfl, rfl, ma_cio4⟩
theorem ma_mk39 : ma_mok (4, yX4_total, cX4_total, 1, (some (FieldType.int))) := ⟨ma_T3 (i := 36) rfl rfl, rfl, ma_cio4⟩
theorem ma_mk40 : ma_mok (4, yX4_findRoom, cX4_findRoom, 2, (some (FieldType.int))) := ⟨ma_T4 (i := 199) rfl rfl, rfl, ma_cio4⟩
theorem ma_mk41 : ma_mok (4, yX4_fits, cX4_fits, 3, (some (FieldType.boolean))) := ⟨ma_T4 (i := 203) rfl rfl, rfl, ma_cio4⟩
theorem ma_mk42 : ma_mok (4, yX4_specials, cX4_specials, 3, (some (FieldType.int))) := ⟨ma_T4 (i := 207) rfl rfl, rfl, ma_cio4⟩
theorem ma_mk43 : ma_mok (4, yX4_cleanAll, cX4_cleanAll, 4, (some (FieldType.int))) := ⟨ma_T4 (i := 211) rfl rfl, rfl, ma_cio4⟩
theorem ma_mk44 : ma_mok (4, yX4_sumKept, cX4_sumKept, 3, none) := ⟨ma_T4 (i := 218) rfl rfl, rfl, ma_cio4⟩
theorem ma_mk45 : ma_mok (4, yX4_regionOf, cX4_regionOf, 2, (some (FieldType.int))) := ⟨ma_T4 (i := 223) rfl rfl, rfl, ma_cio4⟩
theorem ma_mk46 : ma_mok (4, yX4_emptyWhereNothingIsLeft, cX4_emptyWhereNothingIsLeft, 2, none) := ⟨ma_T4 (i := 227) rfl rfl, rfl, ma_cio4⟩
theorem ma_mk47 : ma_mok (4, yX4_chooseLeaving, cX4_chooseLeaving, 3, none) := ⟨ma_T4 (i := 231) rfl rfl, rfl, ma_cio4⟩
theorem ma_mk48 : ma_mok (4, yX4_fewestLeaving, cX4_fewestLeaving, 3, (some (FieldType.int))) := ⟨ma_T4 (i := 235) rfl rfl, rfl, ma_cio4⟩
theorem ma_mk49 : ma_mok (4, yX4_moveAll, cX4_moveAll, 5, (some (FieldType.boolean))) := ⟨ma_T4 (i := 239) rfl rfl, rfl, ma_cio4⟩
theorem ma_mk50 : ma_mok (4, yX4_topOf, cX4_topOf, 2, (some (FieldType.int))) := ⟨ma_T5 (i := 3) rfl rfl, rfl, ma_cio4⟩
theorem ma_mk51 : ma_mok (4, yX4_moveOut, cX4_moveOut, 3, (some (FieldType.boolean))) := ⟨ma_T5 (i := 8) rfl rfl, rfl, ma_cio4⟩
theorem ma_mk52 : ma_mok (4, yX4_leastEmpty, cX4_leastEmpty, 2, (some (FieldType.int))) := ⟨ma_T5 (i := 12) rfl rfl, rfl, ma_cio4⟩
theorem ma_mk53 : ma_mok (4, yX4_raiseTop, cX4_raiseTop, 3, none) := ⟨ma_T5 (i := 17) rfl rfl, rfl, ma_cio4⟩
theorem ma_mk54 : ma_mok (4, yX4_orElse, cX4_orElse, 2, (some (FieldType.int))) := ⟨ma_T5 (i := 20) rfl rfl, rfl, ma_cio4⟩
theorem ma_mk55 : ma_mok (4, yX4_topPlace, cX4_topPlace, 1, (some (FieldType.int))) := ⟨ma_T5 (i := 24) rfl rfl, rfl, ma_cio4⟩
theorem ma_mk56 : ma_mok (4, yX4_noteMade, cX4_noteMade, 2, none) := ⟨ma_T5 (i := 142) rfl rfl, rfl, ma_cio4⟩
theorem ma_mk57 : ma_mok (4, yX4_oldTopOrRegion, cX4_oldTopOrRegion, 1, (some (FieldType.int))) := ⟨ma_T7 (i := 58) rfl rfl, rfl, ma_cio4⟩
theorem ma_mk58 : ma_mok (5, yX5_init, cX5_init, 3, none) := ⟨ma_T1 (i := 183) rfl rfl, rfl, ma_cio5⟩
theorem ma_mk59 : ma_mok (5, yX5_open, cX5_open, 2, none) := ⟨ma_T3 (i := 16) rfl rfl, rfl, ma_cio5⟩
theorem ma_mk60 : ma_mok (5, yX5_total, cX5_total, 1, (some (FieldType.int))) := ⟨ma_T3 (i := 39) rfl rfl, rfl, ma_cio5⟩
theorem ma_mk61 : ma_mok (5, yX5_findRoom, cX5_findRoom, 2, (some (FieldType.int))) := ⟨ma_T5 (i := 27) rfl rfl, rfl, ma_cio5⟩
theorem ma_mk62 : ma_mok (5, yX5_cleanAll, cX5_cleanAll, 2, (some (FieldType.int))) := ⟨ma_T5 (i := 31) rfl rfl, rfl, ma_cio5⟩
theorem ma_mk63 : ma_mok (5, yX5_noteMade, cX5_noteMade, 2, none) := ⟨ma_T5 (i := 145) rfl rfl, rfl, ma_cio5⟩
theorem ma_mk64 : ma_mok (5, yX5_topPlace, cX5_topPlace, 1, (some (FieldType.int))) := ⟨ma_T7 (i := 31) rfl rfl, rfl, ma_cio5⟩
theorem ma_mk65 : ma_mok (6, yX6_init, cX6_init, 3, none) := ⟨ma_T2 (i := 31) rfl rfl, rfl, ma_cio6⟩
theorem ma_mk66 : ma_mok (6, yX6_open, cX6_open, 2, none) := ⟨ma_T3 (i := 19) rfl rfl, rfl, ma_cio6⟩
theorem ma_mk67 : ma_mok (6, yX6_cleanAll, cX6_cleanAll, 2, (some (FieldType.int))) := ⟨ma_T4 (i := 147) rfl rfl, rfl, ma_cio6⟩
theorem ma_mk68 : ma_mok (6, yX6_begin, cX6_begin, 1, none) := ⟨ma_T4 (i := 151) rfl rfl, rfl, ma_cio6⟩
theorem ma_mk69 : ma_mok (6, yX6_newsCame, cX6_newsCame, 1, (some (FieldType.boolean))) := ⟨ma_T4 (i := 158) rfl rfl, rfl, ma_cio6⟩
theorem ma_mk70 : ma_mok (6, yX6_finish, cX6_finish, 1, (some (FieldType.int))) := ⟨ma_T4 (i := 166) rfl rfl, rfl, ma_cio6⟩
theorem ma_mk71 : ma_mok (6, yX6_findRoom, cX6_findRoom, 4, (some (FieldType.int))) := ⟨ma_T5 (i := 40) rfl rfl, rfl, ma_cio6⟩
theorem ma_mk72 : ma_mok (6, yX6_goOn, cX6_goOn, 3, (some (FieldType.int))) := ⟨ma_T5 (i := 44) rfl rfl, rfl, ma_cio6⟩
theorem ma_mk73 : ma_mok (6, yX6_noteMade, cX6_noteMade, 2, none) := ⟨ma_T5 (i := 148) rfl rfl, rfl, ma_cio6⟩
theorem ma_mk74 : ma_mok (6, yX6_noteChange, cX6_noteChange, 3, none) := ⟨ma_T5 (i := 176) rfl rfl, rfl, ma_cio6⟩
theorem ma_mk75 : ma_mok (6, yX6_noteStrong, cX6_noteStrong, 2, none) := ⟨ma_T6 (i := 97) rfl rfl, rfl, ma_cio6⟩
theorem ma_mk76 : ma_mok (6, yX6_colourOf, cX6_colourOf, 2, (some (FieldType.int))) := ⟨ma_T6 (i := 217) rfl rfl, rfl, ma_cio6⟩
theorem ma_mk77 : ma_mok (6, yX6_specials, cX6_specials, 1, (some (FieldType.int))) := ⟨ma_T7 (i := 15) rfl rfl, rfl, ma_cio6⟩
theorem ma_mk78 : ma_mok (6, yX6_isMarking, cX6_isMarking, 1, (some (FieldType.boolean))) := ⟨ma_T7 (i := 45) rfl rfl, rfl, ma_cio6⟩
theorem ma_mk79 : ma_mok (7, yX7_init, cX7_init, 1, none) := ⟨ma_T1 (i := 42) rfl rfl, rfl, ma_cio7⟩
theorem ma_mk80 : ma_mok (7, yX7_forgetAll, cX7_forgetAll, 2, none) := ⟨ma_T2 (i := 232) rfl rfl, rfl, ma_cio7⟩
theorem ma_mk81 : ma_mok (7, yX7_thingAt, cX7_thingAt, 2, (some (FieldType.object "CollectorHouse$Thing"))) := ⟨ma_T3 (i := 214) rfl rfl, rfl, ma_cio7⟩
theorem ma_mk82 : ma_mok (7, yX7_referenceOf, cX7_referenceOf, 6, (some (FieldType.object "CollectorHouse$Thing"))) := ⟨ma_T3 (i := 230) rfl rfl, rfl, ma_cio7⟩
theorem ma_mk83 : ma_mok (7, yX7_grantWishes, cX7_grantWishes, 4, none) := ⟨ma_T3 (i := 234) rfl rfl, rfl, ma_cio7⟩
theorem ma_mk84 : ma_mok (7, yX7_grant, cX7_grant, 2, none) := ⟨ma_T4 (i := 7) rfl rfl, rfl, ma_cio7⟩
theorem ma_mk85 : ma_mok (7, yX7_clearWeak, cX7_clearWeak, 3, none) := ⟨ma_T4 (i := 11) rfl rfl, rfl, ma_cio7⟩
theorem ma_mk86 : ma_mok (7, yX7_removeOthers, cX7_removeOthers, 5, (some (FieldType.int))) := ⟨ma_T4 (i := 17) rfl rfl, rfl, ma_cio7⟩
theorem ma_mk87 : ma_mok (7, yX7_remove, cX7_remove, 4, none) := ⟨ma_T4 (i := 21) rfl rfl, rfl, ma_cio7⟩
theorem ma_mk88 : ma_mok (7, yX7_freeWords, cX7_freeWords, 4, none) := ⟨ma_T4 (i := 26) rfl rfl, rfl, ma_cio7⟩
theorem ma_mk89 : ma_mok (7, yX7_thingFrom, cX7_thingFrom, 3, (some (FieldType.object "CollectorHouse$Thing"))) := ⟨ma_T4 (i := 36) rfl rfl, rfl, ma_cio7⟩
theorem ma_mk90 : ma_mok (7, yX7_move, cX7_move, 5, none) := ⟨ma_T4 (i := 40) rfl rfl, rfl, ma_cio7⟩
theorem ma_mk91 : ma_mok (7, yX7_add, cX7_add, 4, none) := ⟨ma_T5 (i := 119) rfl rfl, rfl, ma_cio7⟩
theorem ma_mk92 : ma_mok (7, yX7_changeRoot, cX7_changeRoot, 4, (some (FieldType.object "CollectorHouse$Thing"))) := ⟨ma_T5 (i := 159) rfl rfl, rfl, ma_cio7⟩
theorem ma_mk93 : ma_mok (7, yX7_changeCounts, cX7_changeCounts, 2, none) := ⟨ma_T5 (i := 165) rfl rfl, rfl, ma_cio7⟩
theorem ma_mk94 : ma_mok (7, yX7_changeReference, cX7_changeReference, 5, (some (FieldType.object "CollectorHouse$Thing"))) := ⟨ma_T5 (i := 202) rfl rfl, rfl, ma_cio7⟩
theorem ma_mk95 : ma_mok (7, yX7_changeInt, cX7_changeInt, 6, (some (FieldType.int))) := ⟨ma_T5 (i := 206) rfl rfl, rfl, ma_cio7⟩
theorem ma_mk96 : ma_mok (7, yX7_wordOf, cX7_wordOf, 4, (some (FieldType.int))) := ⟨ma_T6 (i := 65) rfl rfl, rfl, ma_cio7⟩
theorem ma_mk97 : ma_mok (7, yX7_changeHolds, cX7_changeHolds, 3, none) := ⟨ma_T6 (i := 141) rfl rfl, rfl, ma_cio7⟩
theorem ma_mk98 : ma_mok (7, yX7_takeWish, cX7_takeWish, 3, (some (FieldType.object "CollectorHouse$Thing"))) := ⟨ma_T6 (i := 159) rfl rfl, rfl, ma_cio7⟩
theorem ma_mk99 : ma_mok (8, yX8_init, cX8_init, 3, none) := ⟨ma_T1 (i := 140) rfl rfl, rfl, ma_cio8⟩
theorem ma_mk100 : ma_mok (8, yX8_open, cX8_open, 2, none) := ⟨ma_T3 (i := 5) rfl rfl, rfl, ma_cio8⟩
theorem ma_mk101 : ma_mok (8, yX8_total, cX8_total, 1, (some (FieldType.int))) := ⟨ma_T3 (i := 30) rfl rfl, rfl, ma_cio8⟩
theorem ma_mk102 : ma_mok (8, yX8_findRoom, cX8_findRoom, 3, (some (FieldType.int))) := ⟨ma_T4 (i := 105) rfl rfl, rfl, ma_cio8⟩
theorem ma_mk103 : ma_mok (8, yX8_fit, cX8_fit, 2, (some (FieldType.int))) := ⟨ma_T4 (i := 112) rfl rfl, rfl, ma_cio8⟩
theorem ma_mk104 : ma_mok (8, yX8_fitFirst, cX8_fitFirst, 7, (some (FieldType.int))) := ⟨ma_T4 (i := 116) rfl rfl, rfl, ma_cio8⟩
theorem ma_mk105 : ma_mok (8, yX8_freeFrom, cX8_freeFrom, 4, (some (FieldType.int))) := ⟨ma_T4 (i := 123) rfl rfl, rfl, ma_cio8⟩
theorem ma_mk106 : ma_mok (8, yX8_freeEnd, cX8_freeEnd, 3, (some (FieldType.int))) := ⟨ma_T4 (i := 131) rfl rfl, rfl, ma_cio8⟩
theorem ma_mk107 : ma_mok (8, yX8_fitNext, cX8_fitNext, 3, (some (FieldType.int))) := ⟨ma_T4 (i := 135) rfl rfl, rfl, ma_cio8⟩
theorem ma_mk108 : ma_mok (8, yX8_fitByLength, cX8_fitByLength, 9, (some (FieldType.int))) := ⟨ma_T4 (i := 139) rfl rfl, rfl, ma_cio8⟩
theorem ma_mk109 : ma_mok (8, yX8_cleanAll, cX8_cleanAll, 1, (some (FieldType.int))) := ⟨ma_T4 (i := 169) rfl rfl, rfl, ma_cio8⟩
theorem ma_mk110 : ma_mok (8, yX8_noteMade, cX8_noteMade, 2, none) := ⟨ma_T5 (i := 136) rfl rfl, rfl, ma_cio8⟩
theorem ma_mk111 : ma_mok (8, yX8_blockPlace, cX8_blockPlace, 4, (some (FieldType.int))) := ⟨ma_T6 (i := 234) rfl rfl, rfl, ma_cio8⟩
theorem ma_mk112 : ma_mok (9, yX9_init, cX9_init, 7, none) := ⟨ma_T5 (i := 55) rfl rfl, rfl, ma_cio9⟩
theorem ma_mk113 : ma_mok (9, yX9_isReference, cX9_isReference, 2, (some (FieldType.boolean))) := ⟨ma_T5 (i := 123) rfl rfl, rfl, ma_cio9⟩
theorem ma_mk114 : ma_mok (9, yX9_hasWord, cX9_hasWord, 2, (some (FieldType.boolean))) := ⟨ma_T5 (i := 127) rfl rfl, rfl, ma_cio9⟩
theorem ma_mk115 : ma_mok (10, yX10_init, cX10_init, 2, none) := ⟨ma_T1 (i := 109) rfl rfl, rfl, ma_cio10⟩
theorem ma_mk116 : ma_mok (10, yX10_reachAll, cX10_reachAll, 1, none) := ⟨ma_T3 (i := 201) rfl rfl, rfl, ma_cio10⟩
theorem ma_mk117 : ma_mok (10, yX10_restart, cX10_restart, 2, none) := ⟨ma_T3 (i := 205) rfl rfl, rfl, ma_cio10⟩
theorem ma_mk118 : ma_mok (10, yX10_comeFromRoots, cX10_comeFromRoots, 3, none) := ⟨ma_T3 (i := 210) rfl rfl, rfl, ma_cio10⟩
theorem ma_mk119 : ma_mok (10, yX10_comes, cX10_comes, 2, none) := ⟨ma_T3 (i := 218) rfl rfl, rfl, ma_cio10⟩
theorem ma_mk120 : ma_mok (10, yX10_spread, cX10_spread, 5, (some (FieldType.int))) := ⟨ma_T3 (i := 222) rfl rfl, rfl, ma_cio10⟩
theorem ma_mk121 : ma_mok (10, yX10_blacken, cX10_blacken, 2, none) := ⟨ma_T3 (i := 226) rfl rfl, rfl, ma_cio10⟩
theorem ma_mk122 : ma_mok (10, yX10_keeps, cX10_keeps, 2, (some (FieldType.boolean))) := ⟨ma_T3 (i := 239) rfl rfl, rfl, ma_cio10⟩
theorem ma_mk123 : ma_mok (10, yX10_colourOf, cX10_colourOf, 2, (some (FieldType.int))) := ⟨ma_T4 (i := 3) rfl rfl, rfl, ma_cio10⟩
theorem ma_mk124 : ma_mok (10, yX10_thingInQueue, cX10_thingInQueue, 2, (some (FieldType.object "CollectorHouse$Thing"))) := ⟨ma_T4 (i := 97) rfl rfl, rfl, ma_cio10⟩
theorem ma_mk125 : ma_mok (10, yX10_isEmpty, cX10_isEmpty, 1, (some (FieldType.boolean))) := ⟨ma_T4 (i := 162) rfl rfl, rfl, ma_cio10⟩
theorem ma_mk126 : ma_mok (11, yX11_init, cX11_init, 1, none) := ⟨ma_T1 (i := 34) rfl rfl, rfl, ma_cio11⟩
theorem ma_mk127 : ma_mok (11, yX11_heap, cX11_heap, 2, (some (FieldType.int))) := ⟨ma_T2 (i := 123) rfl rfl, rfl, ma_cio11⟩
theorem ma_mk128 : ma_mok (11, yX11_readPolicy, cX11_readPolicy, 4, (some (FieldType.int))) := ⟨ma_T2 (i := 127) rfl rfl, rfl, ma_cio11⟩
theorem ma_mk129 : ma_mok (11, yX11_nextToken, cX11_nextToken, 2, (some (FieldType.boolean))) := ⟨ma_T2 (i := 131) rfl rfl, rfl, ma_cio11⟩
theorem ma_mk130 : ma_mok (11, yX11_policyToken, cX11_policyToken, 1, (some (FieldType.int))) := ⟨ma_T2 (i := 135) rfl rfl, rfl, ma_cio11⟩
theorem ma_mk131 : ma_mok (11, yX11_tokenIs, cX11_tokenIs, 3, (some (FieldType.boolean))) := ⟨ma_T2 (i := 140) rfl rfl, rfl, ma_cio11⟩
theorem ma_mk132 : ma_mok (11, yX11_partsOf, cX11_partsOf, 1, (some (FieldType.object "java/lang/String"))) := ⟨ma_T2 (i := 197) rfl rfl, rfl, ma_cio11⟩
theorem ma_mk133 : ma_mok (11, yX11_partToken, cX11_partToken, 2, (some (FieldType.int))) := ⟨ma_T2 (i := 207) rfl rfl, rfl, ma_cio11⟩
theorem ma_mk134 : ma_mok (11, yX11_numberToken, cX11_numberToken, 6, (some (FieldType.int))) := ⟨ma_T2 (i := 211) rfl rfl, rfl, ma_cio11⟩
theorem ma_mk135 : ma_mok (11, yX11_formToken, cX11_formToken, 1, (some (FieldType.int))) := ⟨ma_T2 (i := 218) rfl rfl, rfl, ma_cio11⟩
theorem ma_mk136 : ma_mok (11, yX11_barrierToken, cX11_barrierToken, 1, (some (FieldType.int))) := ⟨ma_T2 (i := 226) rfl rfl, rfl, ma_cio11⟩
theorem ma_mk137 : ma_mok (11, yX11_feed, cX11_feed, 6, (some (FieldType.int))) := ⟨ma_T3 (i := 49) rfl rfl, rfl, ma_cio11⟩
theorem ma_mk138 : ma_mok (11, yX11_addBytes, cX11_addBytes, 3, none) := ⟨ma_T3 (i := 119) rfl rfl, rfl, ma_cio11⟩
theorem ma_mk139 : ma_mok (11, yX11_end, cX11_end, 2, (some (FieldType.int))) := ⟨ma_T3 (i := 127) rfl rfl, rfl, ma_cio11⟩
theorem ma_mk140 : ma_mok (11, yX11_kind, cX11_kind, 3, (some (FieldType.int))) := ⟨ma_T3 (i := 150) rfl rfl, rfl, ma_cio11⟩
theorem ma_mk141 : ma_mok (11, yX11_make, cX11_make, 3, (some (FieldType.int))) := ⟨ma_T3 (i := 172) rfl rfl, rfl, ma_cio11⟩
theorem ma_mk142 : ma_mok (11, yX11_isSlot, cX11_isSlot, 1, (some (FieldType.boolean))) := ⟨ma_T3 (i := 175) rfl rfl, rfl, ma_cio11⟩
theorem ma_mk143 : ma_mok (11, yX11_addObject, cX11_addObject, 9, (some (FieldType.int))) := ⟨ma_T3 (i := 179) rfl rfl, rfl, ma_cio11⟩
theorem ma_mk144 : ma_mok (11, yX11_needCollector, cX11_needCollector, 1, (some (FieldType.object "CollectorHouse$Collector"))) := ⟨ma_T3 (i := 183) rfl rfl, rfl, ma_cio11⟩
theorem ma_mk145 : ma_mok (11, yX11_changeRoot, cX11_changeRoot, 5, (some (FieldType.object "CollectorHouse$Thing"))) := ⟨ma_T5 (i := 155) rfl rfl, rfl, ma_cio11⟩
theorem ma_mk146 : ma_mok (11, yX11_numberOf, cX11_numberOf, 1, (some (FieldType.int))) := ⟨ma_T5 (i := 162) rfl rfl, rfl, ma_cio11⟩
theorem ma_mk147 : ma_mok (11, yX11_row, cX11_row, 4, (some (FieldType.int))) := ⟨ma_T5 (i := 220) rfl rfl, rfl, ma_cio11⟩
theorem ma_mk148 : ma_mok (11, yX11_put, cX11_put, 5, (some (FieldType.int))) := ⟨ma_T5 (i := 230) rfl rfl, rfl, ma_cio11⟩
theorem ma_mk149 : ma_mok (11, yX11_needReached, cX11_needReached, 3, (some (FieldType.object "CollectorHouse$Thing"))) := ⟨ma_T5 (i := 234) rfl rfl, rfl, ma_cio11⟩
theorem ma_mk150 : ma_mok (11, yX11_link, cX11_link, 8, (some (FieldType.int))) := ⟨ma_T6 (i := 37) rfl rfl, rfl, ma_cio11⟩
theorem ma_mk151 : ma_mok (11, yX11_needReachedOrNothing, cX11_needReachedOrNothing, 2, (some (FieldType.object "CollectorHouse$Thing"))) := ⟨ma_T6 (i := 41) rfl rfl, rfl, ma_cio11⟩
theorem ma_mk152 : ma_mok (11, yX11_get, cX11_get, 4, (some (FieldType.int))) := ⟨ma_T6 (i := 61) rfl rfl, rfl, ma_cio11⟩
theorem ma_mk153 : ma_mok (11, yX11_root, cX11_root, 5, (some (FieldType.int))) := ⟨ma_T6 (i := 72) rfl rfl, rfl, ma_cio11⟩
theorem ma_mk154 : ma_mok (11, yX11_weak, cX11_weak, 5, (some (FieldType.int))) := ⟨ma_T6 (i := 79) rfl rfl, rfl, ma_cio11⟩
theorem ma_mk155 : ma_mok (11, yX11_strong, cX11_strong, 5, (some (FieldType.int))) := ⟨ma_T6 (i := 86) rfl rfl, rfl, ma_cio11⟩
theorem ma_mk156 : ma_mok (11, yX11_hold, cX11_hold, 5, (some (FieldType.int))) := ⟨ma_T6 (i := 107) rfl rfl, rfl, ma_cio11⟩
theorem ma_mk157 : ma_mok (11, yX11_wish, cX11_wish, 4, (some (FieldType.int))) := ⟨ma_T6 (i := 148) rfl rfl, rfl, ma_cio11⟩
theorem ma_mk158 : ma_mok (11, yX11_granted, cX11_granted, 4, (some (FieldType.int))) := ⟨ma_T6 (i := 155) rfl rfl, rfl, ma_cio11⟩
theorem ma_mk159 : ma_mok (11, yX11_clean, cX11_clean, 1, (some (FieldType.int))) := ⟨ma_T6 (i := 166) rfl rfl, rfl, ma_cio11⟩
theorem ma_mk160 : ma_mok (11, yX11_step, cX11_step, 4, (some (FieldType.int))) := ⟨ma_T6 (i := 185) rfl rfl, rfl, ma_cio11⟩
theorem ma_mk161 : ma_mok (11, yX11_about, cX11_about, 5, (some (FieldType.int))) := ⟨ma_T6 (i := 193) rfl rfl, rfl, ma_cio11⟩
theorem ma_mk162 : ma_mok (11, yX11_block, cX11_block, 5, (some (FieldType.int))) := ⟨ma_T6 (i := 227) rfl rfl, rfl, ma_cio11⟩
theorem ma_mk163 : ma_mok (11, yX11_count, cX11_count, 3, (some (FieldType.int))) := ⟨ma_T7 (i := 2) rfl rfl, rfl, ma_cio11⟩
theorem ma_mk164 : ma_mok (12, yX12_thrown, cX12_thrown, 1, (some (FieldType.int))) := ⟨ma_T7 (i := 66) rfl rfl, rfl, ma_cio12⟩
theorem ma_mk165 : ma_mok (12, yX12_init, cX12_init, 1, none) := ⟨ma_T7 (i := 71) rfl rfl, rfl, ma_cio12⟩
theorem ma_mk166 : ma_mok (12, yX12_feed, cX12_feed, 6, (some (FieldType.int))) := ⟨ma_T8 (i := 94) rfl rfl, rfl, ma_cio12⟩
theorem ma_mk167 : ma_mok (12, yX12_fails, cX12_fails, 2, (some (FieldType.boolean))) := ⟨ma_T8 (i := 98) rfl rfl, rfl, ma_cio12⟩
theorem ma_mk168 : ma_mok (12, yX12_four, cX12_four, 3, none) := ⟨ma_T8 (i := 102) rfl rfl, rfl, ma_cio12⟩
theorem ma_mk169 : ma_mok (12, yX12_end, cX12_end, 2, (some (FieldType.int))) := ⟨ma_T8 (i := 106) rfl rfl, rfl, ma_cio12⟩
theorem ma_mk170 : ma_mok (12, yX12_kind, cX12_kind, 4, (some (FieldType.int))) := ⟨ma_T8 (i := 110) rfl rfl, rfl, ma_cio12⟩
theorem ma_mk171 : ma_mok (12, yX12_heap, cX12_heap, 2, (some (FieldType.int))) := ⟨ma_T8 (i := 114) rfl rfl, rfl, ma_cio12⟩
theorem ma_mk172 : ma_mok (12, yX12_readPolicy, cX12_readPolicy, 1, (some (FieldType.boolean))) := ⟨ma_T8 (i := 118) rfl rfl, rfl, ma_cio12⟩
theorem ma_mk173 : ma_mok (12, yX12_token, cX12_token, 1, (some (FieldType.boolean))) := ⟨ma_T8 (i := 122) rfl rfl, rfl, ma_cio12⟩
theorem ma_mk174 : ma_mok (12, yX12_wrong, cX12_wrong, 2, (some (FieldType.boolean))) := ⟨ma_T8 (i := 126) rfl rfl, rfl, ma_cio12⟩
theorem ma_mk175 : ma_mok (12, yX12_is, cX12_is, 9, (some (FieldType.boolean))) := ⟨ma_T8 (i := 130) rfl rfl, rfl, ma_cio12⟩
theorem ma_mk176 : ma_mok (12, yX12_byteIs, cX12_byteIs, 3, (some (FieldType.boolean))) := ⟨ma_T8 (i := 134) rfl rfl, rfl, ma_cio12⟩
theorem ma_mk177 : ma_mok (12, yX12_number, cX12_number, 7, (some (FieldType.boolean))) := ⟨ma_T8 (i := 138) rfl rfl, rfl, ma_cio12⟩
theorem ma_mk178 : ma_mok (12, yX12_roomHere, cX12_roomHere, 1, (some (FieldType.boolean))) := ⟨ma_T8 (i := 142) rfl rfl, rfl, ma_cio12⟩
theorem ma_mk179 : ma_mok (12, yX12_form, cX12_form, 1, (some (FieldType.boolean))) := ⟨ma_T8 (i := 146) rfl rfl, rfl, ma_cio12⟩
theorem ma_mk180 : ma_mok (12, yX12_empty, cX12_empty, 2, none) := ⟨ma_T8 (i := 150) rfl rfl, rfl, ma_cio12⟩
theorem ma_mk181 : ma_mok (12, yX12_make, cX12_make, 3, (some (FieldType.int))) := ⟨ma_T8 (i := 154) rfl rfl, rfl, ma_cio12⟩
theorem ma_mk182 : ma_mok (12, yX12_isNamed, cX12_isNamed, 2, (some (FieldType.boolean))) := ⟨ma_T8 (i := 158) rfl rfl, rfl, ma_cio12⟩
theorem ma_mk183 : ma_mok (12, yX12_fresh, cX12_fresh, 7, (some (FieldType.int))) := ⟨ma_T8 (i := 162) rfl rfl, rfl, ma_cio12⟩
theorem ma_mk184 : ma_mok (12, yX12_findRoom, cX12_findRoom, 4, (some (FieldType.int))) := ⟨ma_T8 (i := 166) rfl rfl, rfl, ma_cio12⟩
theorem ma_mk185 : ma_mok (12, yX12_findInHalf, cX12_findInHalf, 4, (some (FieldType.int))) := ⟨ma_T8 (i := 170) rfl rfl, rfl, ma_cio12⟩
theorem ma_mk186 : ma_mok (12, yX12_cleanSlide, cX12_cleanSlide, 2, (some (FieldType.int))) := ⟨ma_T8 (i := 174) rfl rfl, rfl, ma_cio12⟩
theorem ma_mk187 : ma_mok (12, yX12_sweep, cX12_sweep, 1, (some (FieldType.int))) := ⟨ma_T8 (i := 178) rfl rfl, rfl, ma_cio12⟩
theorem ma_mk188 : ma_mok (12, yX12_keepReached, cX12_keepReached, 2, none) := ⟨ma_T8 (i := 182) rfl rfl, rfl, ma_cio12⟩
theorem ma_mk189 : ma_mok (12, yX12_keepNone, cX12_keepNone, 2, none) := ⟨ma_T8 (i := 186) rfl rfl, rfl, ma_cio12⟩
theorem ma_mk190 : ma_mok (12, yX12_keep, cX12_keep, 2, none) := ⟨ma_T8 (i := 190) rfl rfl, rfl, ma_cio12⟩
theorem ma_mk191 : ma_mok (12, yX12_keepAll, cX12_keepAll, 3, none) := ⟨ma_T8 (i := 194) rfl rfl, rfl, ma_cio12⟩
theorem ma_mk192 : ma_mok (12, yX12_reference, cX12_reference, 3, (some (FieldType.int))) := ⟨ma_T8 (i := 198) rfl rfl, rfl, ma_cio12⟩
theorem ma_mk193 : ma_mok (12, yX12_isReference, cX12_isReference, 3, (some (FieldType.boolean))) := ⟨ma_T8 (i := 202) rfl rfl, rfl, ma_cio12⟩
theorem ma_mk194 : ma_mok (12, yX12_grantAll, cX12_grantAll, 3, none) := ⟨ma_T8 (i := 206) rfl rfl, rfl, ma_cio12⟩
theorem ma_mk195 : ma_mok (12, yX12_wisher, cX12_wisher, 5, (some (FieldType.int))) := ⟨ma_T8 (i := 210) rfl rfl, rfl, ma_cio12⟩
theorem ma_mk196 : ma_mok (12, yX12_isOld, cX12_isOld, 2, (some (FieldType.boolean))) := ⟨ma_T8 (i := 214) rfl rfl, rfl, ma_cio12⟩
theorem ma_mk197 : ma_mok (12, yX12_toWishes, cX12_toWishes, 2, none) := ⟨ma_T8 (i := 218) rfl rfl, rfl, ma_cio12⟩
theorem ma_mk198 : ma_mok (12, yX12_unweak, cX12_unweak, 3, none) := ⟨ma_T8 (i := 222) rfl rfl, rfl, ma_cio12⟩
theorem ma_mk199 : ma_mok (12, yX12_unweakRest, cX12_unweakRest, 2, none) := ⟨ma_T8 (i := 226) rfl rfl, rfl, ma_cio12⟩
theorem ma_mk200 : ma_mok (12, yX12_removeRest, cX12_removeRest, 4, (some (FieldType.int))) := ⟨ma_T8 (i := 230) rfl rfl, rfl, ma_cio12⟩
theorem ma_mk201 : ma_mok (12, yX12_sizeOf, cX12_sizeOf, 2, (some (FieldType.int))) := ⟨ma_T8 (i := 234) rfl rfl, rfl, ma_cio12⟩
theorem ma_mk202 : ma_mok (12, yX12_uncountKept, cX12_uncountKept, 2, none) := ⟨ma_T8 (i := 238) rfl rfl, rfl, ma_cio12⟩
theorem ma_mk203 : ma_mok (12, yX12_remove, cX12_remove, 2, none) := ⟨ma_T9 (i := 2) rfl rfl, rfl, ma_cio12⟩
theorem ma_mk204 : ma_mok (12, yX12_slide, cX12_slide, 6, (some (FieldType.int))) := ⟨ma_T9 (i := 6) rfl rfl, rfl, ma_cio12⟩
theorem ma_mk205 : ma_mok (12, yX12_move, cX12_move, 3, none) := ⟨ma_T9 (i := 10) rfl rfl, rfl, ma_cio12⟩
theorem ma_mk206 : ma_mok (12, yX12_cleanHalves, cX12_cleanHalves, 2, (some (FieldType.int))) := ⟨ma_T9 (i := 14) rfl rfl, rfl, ma_cio12⟩
theorem ma_mk207 : ma_mok (12, yX12_come, cX12_come, 2, none) := ⟨ma_T9 (i := 18) rfl rfl, rfl, ma_cio12⟩
theorem ma_mk208 : ma_mok (12, yX12_comeAll, cX12_comeAll, 3, none) := ⟨ma_T9 (i := 22) rfl rfl, rfl, ma_cio12⟩
theorem ma_mk209 : ma_mok (12, yX12_comeWishers, cX12_comeWishers, 4, none) := ⟨ma_T9 (i := 26) rfl rfl, rfl, ma_cio12⟩
theorem ma_mk210 : ma_mok (12, yX12_findInYoung, cX12_findInYoung, 4, (some (FieldType.int))) := ⟨ma_T9 (i := 30) rfl rfl, rfl, ma_cio12⟩
theorem ma_mk211 : ma_mok (12, yX12_major, cX12_major, 2, (some (FieldType.int))) := ⟨ma_T9 (i := 34) rfl rfl, rfl, ma_cio12⟩
theorem ma_mk212 : ma_mok (12, yX12_findDirty, cX12_findDirty, 4, none) := ⟨ma_T9 (i := 38) rfl rfl, rfl, ma_cio12⟩
theorem ma_mk213 : ma_mok (12, yX12_cardOf, cX12_cardOf, 3, (some (FieldType.int))) := ⟨ma_T9 (i := 42) rfl rfl, rfl, ma_cio12⟩
theorem ma_mk214 : ma_mok (12, yX12_minor, cX12_minor, 4, (some (FieldType.int))) := ⟨ma_T9 (i := 46) rfl rfl, rfl, ma_cio12⟩
theorem ma_mk215 : ma_mok (12, yX12_isOldFull, cX12_isOldFull, 3, (some (FieldType.boolean))) := ⟨ma_T9 (i := 50) rfl rfl, rfl, ma_cio12⟩
theorem ma_mk216 : ma_mok (12, yX12_comeDirty, cX12_comeDirty, 5, none) := ⟨ma_T9 (i := 54) rfl rfl, rfl, ma_cio12⟩
theorem ma_mk217 : ma_mok (12, yX12_findInSteps, cX12_findInSteps, 5, (some (FieldType.int))) := ⟨ma_T9 (i := 58) rfl rfl, rfl, ma_cio12⟩
theorem ma_mk218 : ma_mok (12, yX12_freeWords, cX12_freeWords, 1, (some (FieldType.int))) := ⟨ma_T9 (i := 62) rfl rfl, rfl, ma_cio12⟩
theorem ma_mk219 : ma_mok (12, yX12_beginMarking, cX12_beginMarking, 2, none) := ⟨ma_T9 (i := 66) rfl rfl, rfl, ma_cio12⟩
theorem ma_mk220 : ma_mok (12, yX12_greyRoots, cX12_greyRoots, 4, none) := ⟨ma_T9 (i := 70) rfl rfl, rfl, ma_cio12⟩
theorem ma_mk221 : ma_mok (12, yX12_toGrey, cX12_toGrey, 2, none) := ⟨ma_T9 (i := 74) rfl rfl, rfl, ma_cio12⟩
theorem ma_mk222 : ma_mok (12, yX12_steps, cX12_steps, 5, (some (FieldType.int))) := ⟨ma_T9 (i := 78) rfl rfl, rfl, ma_cio12⟩
theorem ma_mk223 : ma_mok (12, yX12_lookEmpty, cX12_lookEmpty, 2, (some (FieldType.int))) := ⟨ma_T9 (i := 82) rfl rfl, rfl, ma_cio12⟩
theorem ma_mk224 : ma_mok (12, yX12_find, cX12_find, 5, (some (FieldType.int))) := ⟨ma_T9 (i := 86) rfl rfl, rfl, ma_cio12⟩
theorem ma_mk225 : ma_mok (12, yX12_firstFit, cX12_firstFit, 5, (some (FieldType.int))) := ⟨ma_T9 (i := 90) rfl rfl, rfl, ma_cio12⟩
theorem ma_mk226 : ma_mok (12, yX12_blockFrom, cX12_blockFrom, 5, (some (FieldType.int))) := ⟨ma_T9 (i := 94) rfl rfl, rfl, ma_cio12⟩
theorem ma_mk227 : ma_mok (12, yX12_startOf, cX12_startOf, 3, (some (FieldType.int))) := ⟨ma_T9 (i := 98) rfl rfl, rfl, ma_cio12⟩
theorem ma_mk228 : ma_mok (12, yX12_firstFitAhead, cX12_firstFitAhead, 4, (some (FieldType.int))) := ⟨ma_T9 (i := 102) rfl rfl, rfl, ma_cio12⟩
theorem ma_mk229 : ma_mok (12, yX12_whole, cX12_whole, 1, (some (FieldType.int))) := ⟨ma_T9 (i := 106) rfl rfl, rfl, ma_cio12⟩
theorem ma_mk230 : ma_mok (12, yX12_finish, cX12_finish, 3, (some (FieldType.int))) := ⟨ma_T9 (i := 110) rfl rfl, rfl, ma_cio12⟩
theorem ma_mk231 : ma_mok (12, yX12_findInRegions, cX12_findInRegions, 4, (some (FieldType.int))) := ⟨ma_T9 (i := 114) rfl rfl, rfl, ma_cio12⟩
theorem ma_mk232 : ma_mok (12, yX12_findInRegion, cX12_findInRegion, 3, (some (FieldType.int))) := ⟨ma_T9 (i := 118) rfl rfl, rfl, ma_cio12⟩
theorem ma_mk233 : ma_mok (12, yX12_emptyRegions, cX12_emptyRegions, 3, (some (FieldType.int))) := ⟨ma_T9 (i := 122) rfl rfl, rfl, ma_cio12⟩
theorem ma_mk234 : ma_mok (12, yX12_leastEmpty, cX12_leastEmpty, 2, (some (FieldType.int))) := ⟨ma_T9 (i := 126) rfl rfl, rfl, ma_cio12⟩
theorem ma_mk235 : ma_mok (12, yX12_cleanRegions, cX12_cleanRegions, 10, (some (FieldType.int))) := ⟨ma_T9 (i := 130) rfl rfl, rfl, ma_cio12⟩
theorem ma_mk236 : ma_mok (12, yX12_sparse, cX12_sparse, 3, (some (FieldType.int))) := ⟨ma_T9 (i := 134) rfl rfl, rfl, ma_cio12⟩
theorem ma_mk237 : ma_mok (12, yX12_findByForm, cX12_findByForm, 4, (some (FieldType.int))) := ⟨ma_T9 (i := 138) rfl rfl, rfl, ma_cio12⟩
theorem ma_mk238 : ma_mok (12, yX12_setRoot, cX12_setRoot, 4, none) := ⟨ma_T9 (i := 142) rfl rfl, rfl, ma_cio12⟩
theorem ma_mk239 : ma_mok (12, yX12_more, cX12_more, 2, none) := ⟨ma_T9 (i := 146) rfl rfl, rfl, ma_cio12⟩
theorem ma_mk240 : ma_mok (12, yX12_changes, cX12_changes, 3, none) := ⟨ma_T9 (i := 150) rfl rfl, rfl, ma_cio12⟩
theorem ma_mk241 : ma_mok (12, yX12_less, cX12_less, 5, none) := ⟨ma_T9 (i := 154) rfl rfl, rfl, ma_cio12⟩
theorem ma_mk242 : ma_mok (12, yX12_fall, cX12_fall, 2, none) := ⟨ma_T9 (i := 158) rfl rfl, rfl, ma_cio12⟩
theorem ma_mk243 : ma_mok (12, yX12_row, cX12_row, 4, (some (FieldType.int))) := ⟨ma_T9 (i := 162) rfl rfl, rfl, ma_cio12⟩
theorem ma_mk244 : ma_mok (12, yX12_put, cX12_put, 6, (some (FieldType.int))) := ⟨ma_T9 (i := 166) rfl rfl, rfl, ma_cio12⟩
theorem ma_mk245 : ma_mok (12, yX12_reached, cX12_reached, 3, (some (FieldType.int))) := ⟨ma_T9 (i := 170) rfl rfl, rfl, ma_cio12⟩
theorem ma_mk246 : ma_mok (12, yX12_placeOf, cX12_placeOf, 3, (some (FieldType.int))) := ⟨ma_T9 (i := 174) rfl rfl, rfl, ma_cio12⟩
theorem ma_mk247 : ma_mok (12, yX12_link, cX12_link, 9, (some (FieldType.int))) := ⟨ma_T9 (i := 178) rfl rfl, rfl, ma_cio12⟩
theorem ma_mk248 : ma_mok (12, yX12_numberOf, cX12_numberOf, 2, (some (FieldType.int))) := ⟨ma_T9 (i := 182) rfl rfl, rfl, ma_cio12⟩
theorem ma_mk249 : ma_mok (12, yX12_get, cX12_get, 4, (some (FieldType.int))) := ⟨ma_T9 (i := 186) rfl rfl, rfl, ma_cio12⟩
theorem ma_mk250 : ma_mok (12, yX12_root, cX12_root, 5, (some (FieldType.int))) := ⟨ma_T9 (i := 190) rfl rfl, rfl, ma_cio12⟩
theorem ma_mk251 : ma_mok (12, yX12_weak, cX12_weak, 5, (some (FieldType.int))) := ⟨ma_T9 (i := 194) rfl rfl, rfl, ma_cio12⟩
theorem ma_mk252 : ma_mok (12, yX12_strong, cX12_strong, 4, (some (FieldType.int))) := ⟨ma_T9 (i := 198) rfl rfl, rfl, ma_cio12⟩
theorem ma_mk253 : ma_mok (12, yX12_hold, cX12_hold, 5, (some (FieldType.int))) := ⟨ma_T9 (i := 202) rfl rfl, rfl, ma_cio12⟩
theorem ma_mk254 : ma_mok (12, yX12_wish, cX12_wish, 4, (some (FieldType.int))) := ⟨ma_T9 (i := 206) rfl rfl, rfl, ma_cio12⟩
theorem ma_mk255 : ma_mok (12, yX12_granted, cX12_granted, 4, (some (FieldType.int))) := ⟨ma_T9 (i := 210) rfl rfl, rfl, ma_cio12⟩
theorem ma_mk256 : ma_mok (12, yX12_clean, cX12_clean, 2, (some (FieldType.int))) := ⟨ma_T9 (i := 214) rfl rfl, rfl, ma_cio12⟩
theorem ma_mk257 : ma_mok (12, yX12_step, cX12_step, 4, (some (FieldType.int))) := ⟨ma_T9 (i := 218) rfl rfl, rfl, ma_cio12⟩
theorem ma_mk258 : ma_mok (12, yX12_about, cX12_about, 4, (some (FieldType.int))) := ⟨ma_T9 (i := 222) rfl rfl, rfl, ma_cio12⟩
theorem ma_mk259 : ma_mok (12, yX12_block, cX12_block, 6, (some (FieldType.int))) := ⟨ma_T9 (i := 226) rfl rfl, rfl, ma_cio12⟩
theorem ma_mk260 : ma_mok (12, yX12_count, cX12_count, 2, (some (FieldType.int))) := ⟨ma_T9 (i := 230) rfl rfl, rfl, ma_cio12⟩
theorem ma_mk261 : ma_mok (12, yX12_dirtyCards, cX12_dirtyCards, 3, (some (FieldType.int))) := ⟨ma_T9 (i := 234) rfl rfl, rfl, ma_cio12⟩
theorem ma_mk262 : ma_mok (13, yX1_init, cX1_init, 3, none) := ⟨ma_T1 (i := 143) rfl rfl, rfl, ma_cio13⟩
theorem ma_mk263 : ma_mok (13, yX1_slideDown, cX1_slideDown, 5, (some (FieldType.int))) := ⟨ma_T4 (i := 32) rfl rfl, rfl, ma_cio13⟩
theorem ma_mk264 : ma_mok (13, yX1_removeUnreached, cX1_removeUnreached, 1, (some (FieldType.int))) := ⟨ma_T4 (i := 177) rfl rfl, rfl, ma_cio13⟩
theorem ma_mk265 : ma_mok (13, yX1_noteChange, cX1_noteChange, 3, none) := ⟨ma_T5 (i := 179) rfl rfl, rfl, ma_cio13⟩
theorem ma_mk266 : ma_mok (13, yX1_noteFewer, cX1_noteFewer, 2, none) := ⟨ma_T5 (i := 213) rfl rfl, rfl, ma_cio13⟩
theorem ma_mk267 : ma_mok (13, yX1_noteReference, cX1_noteReference, 4, none) := ⟨ma_T6 (i := 53) rfl rfl, rfl, ma_cio13⟩
theorem ma_mk268 : ma_mok (13, yX1_noteStrong, cX1_noteStrong, 2, none) := ⟨ma_T6 (i := 99) rfl rfl, rfl, ma_cio13⟩
theorem ma_mk269 : ma_mok (13, yX1_canHold, cX1_canHold, 2, (some (FieldType.boolean))) := ⟨ma_T6 (i := 122) rfl rfl, rfl, ma_cio13⟩
theorem ma_mk270 : ma_mok (13, yX1_countOf, cX1_countOf, 2, (some (FieldType.int))) := ⟨ma_T6 (i := 206) rfl rfl, rfl, ma_cio13⟩
theorem ma_mk271 : ma_mok (13, yX1_colourOf, cX1_colourOf, 2, (some (FieldType.int))) := ⟨ma_T6 (i := 220) rfl rfl, rfl, ma_cio13⟩
theorem ma_mk272 : ma_mok (13, yX1_specials, cX1_specials, 1, (some (FieldType.int))) := ⟨ma_T7 (i := 17) rfl rfl, rfl, ma_cio13⟩
theorem ma_mk273 : ma_mok (13, yX1_topPlace, cX1_topPlace, 1, (some (FieldType.int))) := ⟨ma_T7 (i := 34) rfl rfl, rfl, ma_cio13⟩
theorem ma_mk274 : ma_mok (13, yX1_isMarking, cX1_isMarking, 1, (some (FieldType.boolean))) := ⟨ma_T7 (i := 47) rfl rfl, rfl, ma_cio13⟩
theorem ma_mk275 : ma_mok (13, yX1_oldTopOrRegion, cX1_oldTopOrRegion, 1, (some (FieldType.int))) := ⟨ma_T7 (i := 62) rfl rfl, rfl, ma_cio13⟩
theorem ma_mk276 : ma_mok (15, yJ7_fill_53178, cJ7_fill_53178, 4, none) := ⟨ma_T2 (i := 235) rfl rfl, rfl, ma_cio15⟩
theorem ma_mk277 : ma_mok (17, yJ0_length_8abf5, cJ0_length_8abf5, 1, (some (FieldType.int))) := ⟨ma_T2 (i := 144) rfl rfl, rfl, ma_cio17⟩
theorem ma_mk278 : ma_mok (17, yJ0_coder_7d493, cJ0_coder_7d493, 1, (some (FieldType.byte))) := ⟨ma_T2 (i := 148) rfl rfl, rfl, ma_cio17⟩
theorem ma_mk279 : ma_mok (17, yJ0_charAt_5068e, cJ0_charAt_5068e, 2, (some (FieldType.char))) := ⟨ma_T2 (i := 154) rfl rfl, rfl, ma_cio17⟩
theorem ma_mk280 : ma_mok (17, yJ0_isLatin1_aae02, cJ0_isLatin1_aae02, 1, (some (FieldType.boolean))) := ⟨ma_T2 (i := 158) rfl rfl, rfl, ma_cio17⟩
theorem ma_mk281 : ma_mok (17, yJ0_checkIndex_df160, cJ0_checkIndex_df160, 2, none) := ⟨ma_T2 (i := 164) rfl rfl, rfl, ma_cio17⟩
theorem ma_mk282 : ma_mok (18, yJ1_charAt_3b067, cJ1_charAt_3b067, 2, (some (FieldType.char))) := ⟨ma_T2 (i := 161) rfl rfl, rfl, ma_cio18⟩
theorem ma_mk283 : ma_mok (19, yJ3_checkIndex_8e157, cJ3_checkIndex_8e157, 3, (some (FieldType.int))) := ⟨ma_T2 (i := 169) rfl rfl, rfl, ma_cio19⟩
def ma_mdh_0 : List (Nat × MethodName × ByteArray × Nat × Option FieldType) := [(1, yX0_init, cX0_init, 3, none), (1, yX0_open, cX0_open, 2, none), (1, yX0_total, cX0_total, 1, (some (FieldType.int))), (1, yX0_findRoom, cX0_findRoom, 2, (some (FieldType.int))), (1, yX0_findOldRoom, cX0_findOldRoom, 2, (some (FieldType.int))), (1, yX0_cleanOld, cX0_cleanOld, 2, (some (FieldType.int))), (1, yX0_findDirty, cX0_findDirty, 4, none), (1, yX0_isYoung, cX0_isYoung, 2, (some (FieldType.boolean))), (1, yX0_noteReference, cX0_noteReference, 5, none), (1, yX0_cardOf, cX0_cardOf, 3, (some (FieldType.int))), (1, yX0_hasYoungRoom, cX0_hasYoungRoom, 2, (some (FieldType.boolean))), (1, yX0_cleanYoung, cX0_cleanYoung, 2, (some (FieldType.int))), (1, yX0_wordsGrowingOld, cX0_wordsGrowingOld, 4, (some (FieldType.int))), (1, yX0_comeFromDirty, cX0_comeFromDirty, 3, none), (1, yX0_comeFromDirtyWords, cX0_comeFromDirtyWords, 4, none), (1, yX0_moveKept, cX0_moveKept, 3, none), (1, yX0_moveOlder, cX0_moveOlder, 2, none), (1, yX0_noteMade, cX0_noteMade, 2, none), (1, yX0_canHold, cX0_canHold, 2, (some (FieldType.boolean))), (1, yX0_cleanAll, cX0_cleanAll, 2, (some (FieldType.int)))]
theorem ma_mdh_ok0 : ∀ q ∈ ma_mdh_0, ma_mok q := List.forall_mem_cons.mpr ⟨ma_mk0, List.forall_mem_cons.mpr ⟨ma_mk1, List.forall_mem_cons.mpr ⟨ma_mk2, List.forall_mem_cons.mpr ⟨ma_mk3, List.forall_mem_cons.mpr ⟨ma_mk4, List.forall_mem_cons.mpr ⟨ma_mk5, List.forall_mem_cons.mpr ⟨ma_mk6, List.forall_mem_cons.mpr ⟨ma_mk7, List.forall_mem_cons.mpr ⟨ma_mk8, List.forall_mem_cons.mpr ⟨ma_mk9, List.forall_mem_cons.mpr ⟨ma_mk10, List.forall_mem_cons.mpr ⟨ma_mk11, List.forall_mem_cons.mpr ⟨ma_mk12, List.forall_mem_cons.mpr ⟨ma_mk13, List.forall_mem_cons.mpr ⟨ma_mk14, List.forall_mem_cons.mpr ⟨ma_mk15, List.forall_mem_cons.mpr ⟨ma_mk16, List.forall_mem_cons.mpr ⟨ma_mk17, List.forall_mem_cons.mpr ⟨ma_mk18, List.forall_mem_cons.mpr ⟨ma_mk19, List.forall_mem_nil _⟩⟩⟩⟩⟩⟩⟩⟩⟩⟩⟩⟩⟩⟩⟩⟩⟩⟩⟩⟩
def ma_mdh_1 : List (Nat × MethodName × ByteArray × Nat × Option FieldType) := [(1, yX0_specials, cX0_specials, 3, (some (FieldType.int))), (1, yX0_topPlace, cX0_topPlace, 1, (some (FieldType.int))), (1, yX0_oldTopOrRegion, cX0_oldTopOrRegion, 1, (some (FieldType.int))), (2, yX2_init, cX2_init, 3, none), (2, yX2_noteFewer, cX2_noteFewer, 5, none), (2, yX2_fallIfUncounted, cX2_fallIfUncounted, 2, none), (2, yX2_dropWord, cX2_dropWord, 3, none), (2, yX2_countOf, cX2_countOf, 2, (some (FieldType.int))), (3, yX3_init, cX3_init, 3, none), (3, yX3_open, cX3_open, 2, none), (3, yX3_total, cX3_total, 1, (some (FieldType.int))), (3, yX3_findRoom, cX3_findRoom, 2, (some (FieldType.int))), (3, yX3_hasRoom, cX3_hasRoom, 2, (some (FieldType.boolean))), (3, yX3_cleanAll, cX3_cleanAll, 4, (some (FieldType.int))), (3, yX3_noteMade, cX3_noteMade, 2, none), (3, yX3_canHold, cX3_canHold, 2, (some (FieldType.boolean))), (3, yX3_topPlace, cX3_topPlace, 1, (some (FieldType.int))), (4, yX4_init, cX4_init, 3, none), (4, yX4_open, cX4_open, 2, none), (4, yX4_total, cX4_total, 1, (some (FieldType.int)))]
theorem ma_mdh_ok1 : ∀ q ∈ ma_mdh_1, ma_mok q := List.forall_mem_cons.mpr ⟨ma_mk20, List.forall_mem_cons.mpr ⟨ma_mk21, List.forall_mem_cons.mpr ⟨ma_mk22, List.forall_mem_cons.mpr ⟨ma_mk23, List.forall_mem_cons.mpr ⟨ma_mk24, List.forall_mem_cons.mpr ⟨ma_mk25, List.forall_mem_cons.mpr ⟨ma_mk26, List.forall_mem_cons.mpr ⟨ma_mk27, List.forall_mem_cons.mpr ⟨ma_mk28, List.forall_mem_cons.mpr ⟨ma_mk29, List.forall_mem_cons.mpr ⟨ma_mk30, List.forall_mem_cons.mpr ⟨ma_mk31, List.forall_mem_cons.mpr ⟨ma_mk32, List.forall_mem_cons.mpr ⟨ma_mk33, List.forall_mem_cons.mpr ⟨ma_mk34, List.forall_mem_cons.mpr ⟨ma_mk35, List.forall_mem_cons.mpr ⟨ma_mk36, List.forall_mem_cons.mpr ⟨ma_mk37, List.forall_mem_cons.mpr ⟨ma_mk38, List.forall_mem_cons.mpr ⟨ma_mk39, List.forall_mem_nil _⟩⟩⟩⟩⟩⟩⟩⟩⟩⟩⟩⟩⟩⟩⟩⟩⟩⟩⟩⟩
def ma_mdh_2 : List (Nat × MethodName × ByteArray × Nat × Option FieldType) := [(4, yX4_findRoom, cX4_findRoom, 2, (some (FieldType.int))), (4, yX4_fits, cX4_fits, 3, (some (FieldType.boolean))), (4, yX4_specials, cX4_specials, 3, (some (FieldType.int))), (4, yX4_cleanAll, cX4_cleanAll, 4, (some (FieldType.int))), (4, yX4_sumKept, cX4_sumKept, 3, none), (4, yX4_regionOf, cX4_regionOf, 2, (some (FieldType.int))), (4, yX4_emptyWhereNothingIsLeft, cX4_emptyWhereNothingIsLeft, 2, none), (4, yX4_chooseLeaving, cX4_chooseLeaving, 3, none), (4, yX4_fewestLeaving, cX4_fewestLeaving, 3, (some (FieldType.int))), (4, yX4_moveAll, cX4_moveAll, 5, (some (FieldType.boolean))), (4, yX4_topOf, cX4_topOf, 2, (some (FieldType.int))), (4, yX4_moveOut, cX4_moveOut, 3, (some (FieldType.boolean))), (4, yX4_leastEmpty, cX4_leastEmpty, 2, (some (FieldType.int))), (4, yX4_raiseTop, cX4_raiseTop, 3, none), (4, yX4_orElse, cX4_orElse, 2, (some (FieldType.int))), (4, yX4_topPlace, cX4_topPlace, 1, (some (FieldType.int))), (4, yX4_noteMade, cX4_noteMade, 2, none), (4, yX4_oldTopOrRegion, cX4_oldTopOrRegion, 1, (some (FieldType.int))), (5, yX5_init, cX5_init, 3, none), (5, yX5_open, cX5_open, 2, none)]
theorem ma_mdh_ok2 : ∀ q ∈ ma_mdh_2, ma_mok q := List.forall_mem_cons.mpr ⟨ma_mk40, List.forall_mem_cons.mpr ⟨ma_mk41, List.forall_mem_cons.mpr ⟨ma_mk42, List.forall_mem_cons.mpr ⟨ma_mk43, List.forall_mem_cons.mpr ⟨ma_mk44, List.forall_mem_cons.mpr ⟨ma_mk45, List.forall_mem_cons.mpr ⟨ma_mk46, List.forall_mem_cons.mpr ⟨ma_mk47, List.forall_mem_cons.mpr ⟨ma_mk48, List.forall_mem_cons.mpr ⟨ma_mk49, List.forall_mem_cons.mpr ⟨ma_mk50, List.forall_mem_cons.mpr ⟨ma_mk51, List.forall_mem_cons.mpr ⟨ma_mk52, List.forall_mem_cons.mpr ⟨ma_mk53, List.forall_mem_cons.mpr ⟨ma_mk54, List.forall_mem_cons.mpr ⟨ma_mk55, List.forall_mem_cons.mpr ⟨ma_mk56, List.forall_mem_cons.mpr ⟨ma_mk57, List.forall_mem_cons.mpr ⟨ma_mk58, List.forall_mem_cons.mpr ⟨ma_mk59, List.forall_mem_nil _⟩⟩⟩⟩⟩⟩⟩⟩⟩⟩⟩⟩⟩⟩⟩⟩⟩⟩⟩⟩
def ma_mdh_3 : List (Nat × MethodName × ByteArray × Nat × Option FieldType) := [(5, yX5_total, cX5_total, 1, (some (FieldType.int))), (5, yX5_findRoom, cX5_findRoom, 2, (some (FieldType.int))), (5, yX5_cleanAll, cX5_cleanAll, 2, (some (FieldType.int))), (5, yX5_noteMade, cX5_noteMade, 2, none), (5, yX5_topPlace, cX5_topPlace, 1, (some (FieldType.int))), (6, yX6_init, cX6_init, 3, none), (6, yX6_open, cX6_open, 2, none), (6, yX6_cleanAll, cX6_cleanAll, 2, (some (FieldType.int))), (6, yX6_begin, cX6_begin, 1, none), (6, yX6_newsCame, cX6_newsCame, 1, (some (FieldType.boolean))), (6, yX6_finish, cX6_finish, 1, (some (FieldType.int))), (6, yX6_findRoom, cX6_findRoom, 4, (some (FieldType.int))), (6, yX6_goOn, cX6_goOn, 3, (some (FieldType.int))), (6, yX6_noteMade, cX6_noteMade, 2, none), (6, yX6_noteChange, cX6_noteChange, 3, none), (6, yX6_noteStrong, cX6_noteStrong, 2, none), (6, yX6_colourOf, cX6_colourOf, 2, (some (FieldType.int))), (6, yX6_specials, cX6_specials, 1, (some (FieldType.int))), (6, yX6_isMarking, cX6_isMarking, 1, (some (FieldType.boolean))), (7, yX7_init, cX7_init, 1, none)]
theorem ma_mdh_ok3 : ∀ q ∈ ma_mdh_3, ma_mok q := List.forall_mem_cons.mpr ⟨ma_mk60, List.forall_mem_cons.mpr ⟨ma_mk61, List.forall_mem_cons.mpr ⟨ma_mk62, List.forall_mem_cons.mpr ⟨ma_mk63, List.forall_mem_cons.mpr ⟨ma_mk64, List.forall_mem_cons.mpr ⟨ma_mk65, List.forall_mem_cons.mpr ⟨ma_mk66, List.forall_mem_cons.mpr ⟨ma_mk67, List.forall_mem_cons.mpr ⟨ma_mk68, List.forall_mem_cons.mpr ⟨ma_mk69, List.forall_mem_cons.mpr ⟨ma_mk70, List.forall_mem_cons.mpr ⟨ma_mk71, List.forall_mem_cons.mpr ⟨ma_mk72, List.forall_mem_cons.mpr ⟨ma_mk73, List.forall_mem_cons.mpr ⟨ma_mk74, List.forall_mem_cons.mpr ⟨ma_mk75, List.forall_mem_cons.mpr ⟨ma_mk76, List.forall_mem_cons.mpr ⟨ma_mk77, List.forall_mem_cons.mpr ⟨ma_mk78, List.forall_mem_cons.mpr ⟨ma_mk79, List.forall_mem_nil _⟩⟩⟩⟩⟩⟩⟩⟩⟩⟩⟩⟩⟩⟩⟩⟩⟩⟩⟩⟩
def ma_mdh_4 : List (Nat × MethodName × ByteArray × Nat × Option FieldType) := [(7, yX7_forgetAll, cX7_forgetAll, 2, none), (7, yX7_thingAt, cX7_thingAt, 2, (some (FieldType.object "CollectorHouse$Thing"))), (7, yX7_referenceOf, cX7_referenceOf, 6, (some (FieldType.object "CollectorHouse$Thing"))), (7, yX7_grantWishes, cX7_grantWishes, 4, none), (7, yX7_grant, cX7_grant, 2, none), (7, yX7_clearWeak, cX7_clearWeak, 3, none), (7, yX7_removeOthers, cX7_removeOthers, 5, (some (FieldType.int))), (7, yX7_remove, cX7_remove, 4, none), (7, yX7_freeWords, cX7_freeWords, 4, none), (7, yX7_thingFrom, cX7_thingFrom, 3, (some (FieldType.object "CollectorHouse$Thing"))), (7, yX7_move, cX7_move, 5, none), (7, yX7_add, cX7_add, 4, none), (7, yX7_changeRoot, cX7_changeRoot, 4, (some (FieldType.object "CollectorHouse$Thing"))), (7, yX7_changeCounts, cX7_changeCounts, 2, none), (7, yX7_changeReference, cX7_changeReference, 5, (some (FieldType.object "CollectorHouse$Thing"))), (7, yX7_changeInt, cX7_changeInt, 6, (some (FieldType.int))), (7, yX7_wordOf, cX7_wordOf, 4, (some (FieldType.int))), (7, yX7_changeHolds, cX7_changeHolds, 3, none), (7, yX7_takeWish, cX7_takeWish, 3, (some (FieldType.object "CollectorHouse$Thing"))), (8, yX8_init, cX8_init, 3, none)]
theorem ma_mdh_ok4 : ∀ q ∈ ma_mdh_4, ma_mok q := List.forall_mem_cons.mpr ⟨ma_mk80, List.forall_mem_cons.mpr ⟨ma_mk81, List.forall_mem_cons.mpr ⟨ma_mk82, List.forall_mem_cons.mpr ⟨ma_mk83, List.forall_mem_cons.mpr ⟨ma_mk84, List.forall_mem_cons.mpr ⟨ma_mk85, List.forall_mem_cons.mpr ⟨ma_mk86, List.forall_mem_cons.mpr ⟨ma_mk87, List.forall_mem_cons.mpr ⟨ma_mk88, List.forall_mem_cons.mpr ⟨ma_mk89, List.forall_mem_cons.mpr ⟨ma_mk90, List.forall_mem_cons.mpr ⟨ma_mk91, List.forall_mem_cons.mpr ⟨ma_mk92, List.forall_mem_cons.mpr ⟨ma_mk93, List.forall_mem_cons.mpr ⟨ma_mk94, List.forall_mem_cons.mpr ⟨ma_mk95, List.forall_mem_cons.mpr ⟨ma_mk96, List.forall_mem_cons.mpr ⟨ma_mk97, List.forall_mem_cons.mpr ⟨ma_mk98, List.forall_mem_cons.mpr ⟨ma_mk99, List.forall_mem_nil _⟩⟩⟩⟩⟩⟩⟩⟩⟩⟩⟩⟩⟩⟩⟩⟩⟩⟩⟩⟩
def ma_mdh_5 : List (Nat × MethodName × ByteArray × Nat × Option FieldType) := [(8, yX8_open, cX8_open, 2, none), (8, yX8_total, cX8_total, 1, (some (FieldType.int))), (8, yX8_findRoom, cX8_findRoom, 3, (some (FieldType.int))), (8, yX8_fit, cX8_fit, 2, (some (FieldType.int))), (8, yX8_fitFirst, cX8_fitFirst, 7, (some (FieldType.int))), (8, yX8_freeFrom, cX8_freeFrom, 4, (some (FieldType.int))), (8, yX8_freeEnd, cX8_freeEnd, 3, (some (FieldType.int))), (8, yX8_fitNext, cX8_fitNext, 3, (some (FieldType.int))), (8, yX8_fitByLength, cX8_fitByLength, 9, (some (FieldType.int))), (8, yX8_cleanAll, cX8_cleanAll, 1, (some (FieldType.int))), (8, yX8_noteMade, cX8_noteMade, 2, none), (8, yX8_blockPlace, cX8_blockPlace, 4, (some (FieldType.int))), (9, yX9_init, cX9_init, 7, none), (9, yX9_isReference, cX9_isReference, 2, (some (FieldType.boolean))), (9, yX9_hasWord, cX9_hasWord, 2, (some (FieldType.boolean))), (10, yX10_init, cX10_init, 2, none), (10, yX10_reachAll, cX10_reachAll, 1, none), (10, yX10_restart, cX10_restart, 2, none), (10, yX10_comeFromRoots, cX10_comeFromRoots, 3, none), (10, yX10_comes, cX10_comes, 2, none)]
theorem ma_mdh_ok5 : ∀ q ∈ ma_mdh_5, ma_mok q := List.forall_mem_cons.mpr ⟨ma_mk100, List.forall_mem_cons.mpr ⟨ma_mk101, List.forall_mem_cons.mpr ⟨ma_mk102, List.forall_mem_cons.mpr ⟨ma_mk103, List.forall_mem_cons.mpr ⟨ma_mk104, List.forall_mem_cons.mpr ⟨ma_mk105, List.forall_mem_cons.mpr ⟨ma_mk106, List.forall_mem_cons.mpr ⟨ma_mk107, List.forall_mem_cons.mpr ⟨ma_mk108, List.forall_mem_cons.mpr ⟨ma_mk109, List.forall_mem_cons.mpr ⟨ma_mk110, List.forall_mem_cons.mpr ⟨ma_mk111, List.forall_mem_cons.mpr ⟨ma_mk112, List.forall_mem_cons.mpr ⟨ma_mk113, List.forall_mem_cons.mpr ⟨ma_mk114, List.forall_mem_cons.mpr ⟨ma_mk115, List.forall_mem_cons.mpr ⟨ma_mk116, List.forall_mem_cons.mpr ⟨ma_mk117, List.forall_mem_cons.mpr ⟨ma_mk118, List.forall_mem_cons.mpr ⟨ma_mk119, List.forall_mem_nil _⟩⟩⟩⟩⟩⟩⟩⟩⟩⟩⟩⟩⟩⟩⟩⟩⟩⟩⟩⟩
def ma_mdh_6 : List (Nat × MethodName × ByteArray × Nat × Option FieldType) := [(10, yX10_spread, cX10_spread, 5, (some (FieldType.int))), (10, yX10_blacken, cX10_blacken, 2, none), (10, yX10_keeps, cX10_keeps, 2, (some (FieldType.boolean))), (10, yX10_colourOf, cX10_colourOf, 2, (some (FieldType.int))), (10, yX10_thingInQueue, cX10_thingInQueue, 2, (some (FieldType.object "CollectorHouse$Thing"))), (10, yX10_isEmpty, cX10_isEmpty, 1, (some (FieldType.boolean))), (11, yX11_init, cX11_init, 1, none), (11, yX11_heap, cX11_heap, 2, (some (FieldType.int))), (11, yX11_readPolicy, cX11_readPolicy, 4, (some (FieldType.int))), (11, yX11_nextToken, cX11_nextToken, 2, (some (FieldType.boolean))), (11, yX11_policyToken, cX11_policyToken, 1, (some (FieldType.int))), (11, yX11_tokenIs, cX11_tokenIs, 3, (some (FieldType.boolean))), (11, yX11_partsOf, cX11_partsOf, 1, (some (FieldType.object "java/lang/String"))), (11, yX11_partToken, cX11_partToken, 2, (some (FieldType.int))), (11, yX11_numberToken, cX11_numberToken, 6, (some (FieldType.int))), (11, yX11_formToken, cX11_formToken, 1, (some (FieldType.int))), (11, yX11_barrierToken, cX11_barrierToken, 1, (some (FieldType.int))), (11, yX11_feed, cX11_feed, 6, (some (FieldType.int))), (11, yX11_addBytes, cX11_addBytes, 3, none), (11, yX11_end, cX11_end, 2, (some (FieldType.int)))]
theorem ma_mdh_ok6 : ∀ q ∈ ma_mdh_6, ma_mok q := List.forall_mem_cons.mpr ⟨ma_mk120, List.forall_mem_cons.mpr ⟨ma_mk121, List.forall_mem_cons.mpr ⟨ma_mk122, List.forall_mem_cons.mpr ⟨ma_mk123, List.forall_mem_cons.mpr ⟨ma_mk124, List.forall_mem_cons.mpr ⟨ma_mk125, List.forall_mem_cons.mpr ⟨ma_mk126, List.forall_mem_cons.mpr ⟨ma_mk127, List.forall_mem_cons.mpr ⟨ma_mk128, List.forall_mem_cons.mpr ⟨ma_mk129, List.forall_mem_cons.mpr ⟨ma_mk130, List.forall_mem_cons.mpr ⟨ma_mk131, List.forall_mem_cons.mpr ⟨ma_mk132, List.forall_mem_cons.mpr ⟨ma_mk133, List.forall_mem_cons.mpr ⟨ma_mk134, List.forall_mem_cons.mpr ⟨ma_mk135, List.forall_mem_cons.mpr ⟨ma_mk136, List.forall_mem_cons.mpr ⟨ma_mk137, List.forall_mem_cons.mpr ⟨ma_mk138, List.forall_mem_cons.mpr ⟨ma_mk139, List.forall_mem_nil _⟩⟩⟩⟩⟩⟩⟩⟩⟩⟩⟩⟩⟩⟩⟩⟩⟩⟩⟩⟩
def ma_mdh_7 : List (Nat × MethodName × ByteArray × Nat × Option FieldType) := [(11, yX11_kind, cX11_kind, 3, (some (FieldType.int))), (11, yX11_make, cX11_make, 3, (some (FieldType.int))), (11, yX11_isSlot, cX11_isSlot, 1, (some (FieldType.boolean))), (11, yX11_addObject, cX11_addObject, 9, (some (FieldType.int))), (11, yX11_needCollector, cX11_needCollector, 1, (some (FieldType.object "CollectorHouse$Collector"))), (11, yX11_changeRoot, cX11_changeRoot, 5, (some (FieldType.object "CollectorHouse$Thing"))), (11, yX11_numberOf, cX11_numberOf, 1, (some (FieldType.int))), (11, yX11_row, cX11_row, 4, (some (FieldType.int))), (11, yX11_put, cX11_put, 5, (some (FieldType.int))), (11, yX11_needReached, cX11_needReached, 3, (some (FieldType.object "CollectorHouse$Thing"))), (11, yX11_link, cX11_link, 8, (some (FieldType.int))), (11, yX11_needReachedOrNothing, cX11_needReachedOrNothing, 2, (some (FieldType.object "CollectorHouse$Thing"))), (11, yX11_get, cX11_get, 4, (some (FieldType.int))), (11, yX11_root, cX11_root, 5, (some (FieldType.int))), (11, yX11_weak, cX11_weak, 5, (some (FieldType.int))), (11, yX11_strong, cX11_strong, 5, (some (FieldType.int))), (11, yX11_hold, cX11_hold, 5, (some (FieldType.int))), (11, yX11_wish, cX11_wish, 4, (some (FieldType.int))), (11, yX11_granted, cX11_granted, 4, (some (FieldType.int))), (11, yX11_clean, cX11_clean, 1, (some (FieldType.int)))]
theorem ma_mdh_ok7 : ∀ q ∈ ma_mdh_7, ma_mok q := List.forall_mem_cons.mpr ⟨ma_mk140, List.forall_mem_cons.mpr ⟨ma_mk141, List.forall_mem_cons.mpr ⟨ma_mk142, List.forall_mem_cons.mpr ⟨ma_mk143, List.forall_mem_cons.mpr ⟨ma_mk144, List.forall_mem_cons.mpr ⟨ma_mk145, List.forall_mem_cons.mpr ⟨ma_mk146, List.forall_mem_cons.mpr ⟨ma_mk147, List.forall_mem_cons.mpr ⟨ma_mk148, List.forall_mem_cons.mpr ⟨ma_mk149, List.forall_mem_cons.mpr ⟨ma_mk150, List.forall_mem_cons.mpr ⟨ma_mk151, List.forall_mem_cons.mpr ⟨ma_mk152, List.forall_mem_cons.mpr ⟨ma_mk153, List.forall_mem_cons.mpr ⟨ma_mk154, List.forall_mem_cons.mpr ⟨ma_mk155, List.forall_mem_cons.mpr ⟨ma_mk156, List.forall_mem_cons.mpr ⟨ma_mk157, List.forall_mem_cons.mpr ⟨ma_mk158, List.forall_mem_cons.mpr ⟨ma_mk159, List.forall_mem_nil _⟩⟩⟩⟩⟩⟩⟩⟩⟩⟩⟩⟩⟩⟩⟩⟩⟩⟩⟩⟩
def ma_mdh_8 : List (Nat × MethodName × ByteArray × Nat × Option FieldType) := [(11, yX11_step, cX11_step, 4, (some (FieldType.int))), (11, yX11_about, cX11_about, 5, (some (FieldType.int))), (11, yX11_block, cX11_block, 5, (some (FieldType.int))), (11, yX11_count, cX11_count, 3, (some (FieldType.int))), (12, yX12_thrown, cX12_thrown, 1, (some (FieldType.int))), (12, yX12_init, cX12_init, 1, none), (12, yX12_feed, cX12_feed, 6, (some (FieldType.int))), (12, yX12_fails, cX12_fails, 2, (some (FieldType.boolean))), (12, yX12_four, cX12_four, 3, none), (12, yX12_end, cX12_end, 2, (some (FieldType.int))), (12, yX12_kind, cX12_kind, 4, (some (FieldType.int))), (12, yX12_heap, cX12_heap, 2, (some (FieldType.int))), (12, yX12_readPolicy, cX12_readPolicy, 1, (some (FieldType.boolean))), (12, yX12_token, cX12_token, 1, (some (FieldType.boolean))), (12, yX12_wrong, cX12_wrong, 2, (some (FieldType.boolean))), (12, yX12_is, cX12_is, 9, (some (FieldType.boolean))), (12, yX12_byteIs, cX12_byteIs, 3, (some (FieldType.boolean))), (12, yX12_number, cX12_number, 7, (some (FieldType.boolean))), (12, yX12_roomHere, cX12_roomHere, 1, (some (FieldType.boolean))), (12, yX12_form, cX12_form, 1, (some (FieldType.boolean)))]
theorem ma_mdh_ok8 : ∀ q ∈ ma_mdh_8, ma_mok q := List.forall_mem_cons.mpr ⟨ma_mk160, List.forall_mem_cons.mpr ⟨ma_mk161, List.forall_mem_cons.mpr ⟨ma_mk162, List.forall_mem_cons.mpr ⟨ma_mk163, List.forall_mem_cons.mpr ⟨ma_mk164, List.forall_mem_cons.mpr ⟨ma_mk165, List.forall_mem_cons.mpr ⟨ma_mk166, List.forall_mem_cons.mpr ⟨ma_mk167, List.forall_mem_cons.mpr ⟨ma_mk168, List.forall_mem_cons.mpr ⟨ma_mk169, List.forall_mem_cons.mpr ⟨ma_mk170, List.forall_mem_cons.mpr ⟨ma_mk171, List.forall_mem_cons.mpr ⟨ma_mk172, List.forall_mem_cons.mpr ⟨ma_mk173, List.forall_mem_cons.mpr ⟨ma_mk174, List.forall_mem_cons.mpr ⟨ma_mk175, List.forall_mem_cons.mpr ⟨ma_mk176, List.forall_mem_cons.mpr ⟨ma_mk177, List.forall_mem_cons.mpr ⟨ma_mk178, List.forall_mem_cons.mpr ⟨ma_mk179, List.forall_mem_nil _⟩⟩⟩⟩⟩⟩⟩⟩⟩⟩⟩⟩⟩⟩⟩⟩⟩⟩⟩⟩
def ma_mdh_9 : List (Nat × MethodName × ByteArray × Nat × Option FieldType) := [(12, yX12_empty, cX12_empty, 2, none), (12, yX12_make, cX12_make, 3, (some (FieldType.int))), (12, yX12_isNamed, cX12_isNamed, 2, (some (FieldType.boolean))), (12, yX12_fresh, cX12_fresh, 7, (some (FieldType.int))), (12, yX12_findRoom, cX12_findRoom, 4, (some (FieldType.int))), (12, yX12_findInHalf, cX12_findInHalf, 4, (some (FieldType.int))), (12, yX12_cleanSlide, cX12_cleanSlide, 2, (some (FieldType.int))), (12, yX12_sweep, cX12_sweep, 1, (some (FieldType.int))), (12, yX12_keepReached, cX12_keepReached, 2, none), (12, yX12_keepNone, cX12_keepNone, 2, none), (12, yX12_keep, cX12_keep, 2, none), (12, yX12_keepAll, cX12_keepAll, 3, none), (12, yX12_reference, cX12_reference, 3, (some (FieldType.int))), (12, yX12_isReference, cX12_isReference, 3, (some (FieldType.boolean))), (12, yX12_grantAll, cX12_grantAll, 3, none), (12, yX12_wisher, cX12_wisher, 5, (some (FieldType.int))), (12, yX12_isOld, cX12_isOld, 2, (some (FieldType.boolean))), (12, yX12_toWishes, cX12_toWishes, 2, none), (12, yX12_unweak, cX12_unweak, 3, none), (12, yX12_unweakRest, cX12_unweakRest, 2, none)]
theorem ma_mdh_ok9 : ∀ q ∈ ma_mdh_9, ma_mok q := List.forall_mem_cons.mpr ⟨ma_mk180, List.forall_mem_cons.mpr ⟨ma_mk181, List.forall_mem_cons.mpr ⟨ma_mk182, List.forall_mem_cons.mpr ⟨ma_mk183, List.forall_mem_cons.mpr ⟨ma_mk184, List.forall_mem_cons.mpr ⟨ma_mk185, List.forall_mem_cons.mpr ⟨ma_mk186, List.forall_mem_cons.mpr ⟨ma_mk187, List.forall_mem_cons.mpr ⟨ma_mk188, List.forall_mem_cons.mpr ⟨ma_mk189, List.forall_mem_cons.mpr ⟨ma_mk190, List.forall_mem_cons.mpr ⟨ma_mk191, List.forall_mem_cons.mpr ⟨ma_mk192, List.forall_mem_cons.mpr ⟨ma_mk193, List.forall_mem_cons.mpr ⟨ma_mk194, List.forall_mem_cons.mpr ⟨ma_mk195, List.forall_mem_cons.mpr ⟨ma_mk196, List.forall_mem_cons.mpr ⟨ma_mk197, List.forall_mem_cons.mpr ⟨ma_mk198, List.forall_mem_cons.mpr ⟨ma_mk199, List.forall_mem_nil _⟩⟩⟩⟩⟩⟩⟩⟩⟩⟩⟩⟩⟩⟩⟩⟩⟩⟩⟩⟩
def ma_mdh_10 : List (Nat × MethodName × ByteArray × Nat × Option FieldType) := [(12, yX12_removeRest, cX12_removeRest, 4, (some (FieldType.int))), (12, yX12_sizeOf, cX12_sizeOf, 2, (some (FieldType.int))), (12, yX12_uncountKept, cX12_uncountKept, 2, none), (12, yX12_remove, cX12_remove, 2, none), (12, yX12_slide, cX12_slide, 6, (some (FieldType.int))), (12, yX12_move, cX12_move, 3, none), (12, yX12_cleanHalves, cX12_cleanHalves, 2, (some (FieldType.int))), (12, yX12_come, cX12_come, 2, none), (12, yX12_comeAll, cX12_comeAll, 3, none), (12, yX12_comeWishers, cX12_comeWishers, 4, none), (12, yX12_findInYoung, cX12_findInYoung, 4, (some (FieldType.int))), (12, yX12_major, cX12_major, 2, (some (FieldType.int))), (12, yX12_findDirty, cX12_findDirty, 4, none), (12, yX12_cardOf, cX12_cardOf, 3, (some (FieldType.int))), (12, yX12_minor, cX12_minor, 4, (some (FieldType.int))), (12, yX12_isOldFull, cX12_isOldFull, 3, (some (FieldType.boolean))), (12, yX12_comeDirty, cX12_comeDirty, 5, none), (12, yX12_findInSteps, cX12_findInSteps, 5, (some (FieldType.int))), (12, yX12_freeWords, cX12_freeWords, 1, (some (FieldType.int))), (12, yX12_beginMarking, cX12_beginMarking, 2, none)]
theorem ma_mdh_ok10 : ∀ q ∈ ma_mdh_10, ma_mok q := List.forall_mem_cons.mpr ⟨ma_mk200, List.forall_mem_cons.mpr ⟨ma_mk201, List.forall_mem_cons.mpr ⟨ma_mk202, List.forall_mem_cons.mpr ⟨ma_mk203, List.forall_mem_cons.mpr ⟨ma_mk204, List.forall_mem_cons.mpr ⟨ma_mk205, List.forall_mem_cons.mpr ⟨ma_mk206, List.forall_mem_cons.mpr ⟨ma_mk207, List.forall_mem_cons.mpr ⟨ma_mk208, List.forall_mem_cons.mpr ⟨ma_mk209, List.forall_mem_cons.mpr ⟨ma_mk210, List.forall_mem_cons.mpr ⟨ma_mk211, List.forall_mem_cons.mpr ⟨ma_mk212, List.forall_mem_cons.mpr ⟨ma_mk213, List.forall_mem_cons.mpr ⟨ma_mk214, List.forall_mem_cons.mpr ⟨ma_mk215, List.forall_mem_cons.mpr ⟨ma_mk216, List.forall_mem_cons.mpr ⟨ma_mk217, List.forall_mem_cons.mpr ⟨ma_mk218, List.forall_mem_cons.mpr ⟨ma_mk219, List.forall_mem_nil _⟩⟩⟩⟩⟩⟩⟩⟩⟩⟩⟩⟩⟩⟩⟩⟩⟩⟩⟩⟩
def ma_mdh_11 : List (Nat × MethodName × ByteArray × Nat × Option FieldType) := [(12, yX12_greyRoots, cX12_greyRoots, 4, none), (12, yX12_toGrey, cX12_toGrey, 2, none), (12, yX12_steps, cX12_steps, 5, (some (FieldType.int))), (12, yX12_lookEmpty, cX12_lookEmpty, 2, (some (FieldType.int))), (12, yX12_find, cX12_find, 5, (some (FieldType.int))), (12, yX12_firstFit, cX12_firstFit, 5, (some (FieldType.int))), (12, yX12_blockFrom, cX12_blockFrom, 5, (some (FieldType.int))), (12, yX12_startOf, cX12_startOf, 3, (some (FieldType.int))), (12, yX12_firstFitAhead, cX12_firstFitAhead, 4, (some (FieldType.int))), (12, yX12_whole, cX12_whole, 1, (some (FieldType.int))), (12, yX12_finish, cX12_finish, 3, (some (FieldType.int))), (12, yX12_findInRegions, cX12_findInRegions, 4, (some (FieldType.int))), (12, yX12_findInRegion, cX12_findInRegion, 3, (some (FieldType.int))), (12, yX12_emptyRegions, cX12_emptyRegions, 3, (some (FieldType.int))), (12, yX12_leastEmpty, cX12_leastEmpty, 2, (some (FieldType.int))), (12, yX12_cleanRegions, cX12_cleanRegions, 10, (some (FieldType.int))), (12, yX12_sparse, cX12_sparse, 3, (some (FieldType.int))), (12, yX12_findByForm, cX12_findByForm, 4, (some (FieldType.int))), (12, yX12_setRoot, cX12_setRoot, 4, none), (12, yX12_more, cX12_more, 2, none)]
theorem ma_mdh_ok11 : ∀ q ∈ ma_mdh_11, ma_mok q := List.forall_mem_cons.mpr ⟨ma_mk220, List.forall_mem_cons.mpr ⟨ma_mk221, List.forall_mem_cons.mpr ⟨ma_mk222, List.forall_mem_cons.mpr ⟨ma_mk223, List.forall_mem_cons.mpr ⟨ma_mk224, List.forall_mem_cons.mpr ⟨ma_mk225, List.forall_mem_cons.mpr ⟨ma_mk226, List.forall_mem_cons.mpr ⟨ma_mk227, List.forall_mem_cons.mpr ⟨ma_mk228, List.forall_mem_cons.mpr ⟨ma_mk229, List.forall_mem_cons.mpr ⟨ma_mk230, List.forall_mem_cons.mpr ⟨ma_mk231, List.forall_mem_cons.mpr ⟨ma_mk232, List.forall_mem_cons.mpr ⟨ma_mk233, List.forall_mem_cons.mpr ⟨ma_mk234, List.forall_mem_cons.mpr ⟨ma_mk235, List.forall_mem_cons.mpr ⟨ma_mk236, List.forall_mem_cons.mpr ⟨ma_mk237, List.forall_mem_cons.mpr ⟨ma_mk238, List.forall_mem_cons.mpr ⟨ma_mk239, List.forall_mem_nil _⟩⟩⟩⟩⟩⟩⟩⟩⟩⟩⟩⟩⟩⟩⟩⟩⟩⟩⟩⟩
def ma_mdh_12 : List (Nat × MethodName × ByteArray × Nat × Option FieldType) := [(12, yX12_changes, cX12_changes, 3, none), (12, yX12_less, cX12_less, 5, none), (12, yX12_fall, cX12_fall, 2, none), (12, yX12_row, cX12_row, 4, (some (FieldType.int))), (12, yX12_put, cX12_put, 6, (some (FieldType.int))), (12, yX12_reached, cX12_reached, 3, (some (FieldType.int))), (12, yX12_placeOf, cX12_placeOf, 3, (some (FieldType.int))), (12, yX12_link, cX12_link, 9, (some (FieldType.int))), (12, yX12_numberOf, cX12_numberOf, 2, (some (FieldType.int))), (12, yX12_get, cX12_get, 4, (some (FieldType.int))), (12, yX12_root, cX12_root, 5, (some (FieldType.int))), (12, yX12_weak, cX12_weak, 5, (some (FieldType.int))), (12, yX12_strong, cX12_strong, 4, (some (FieldType.int))), (12, yX12_hold, cX12_hold, 5, (some (FieldType.int))), (12, yX12_wish, cX12_wish, 4, (some (FieldType.int))), (12, yX12_granted, cX12_granted, 4, (some (FieldType.int))), (12, yX12_clean, cX12_clean, 2, (some (FieldType.int))), (12, yX12_step, cX12_step, 4, (some (FieldType.int))), (12, yX12_about, cX12_about, 4, (some (FieldType.int))), (12, yX12_block, cX12_block, 6, (some (FieldType.int)))]
theorem ma_mdh_ok12 : ∀ q ∈ ma_mdh_12, ma_mok q := List.forall_mem_cons.mpr ⟨ma_mk240, List.forall_mem_cons.mpr ⟨ma_mk241, List.forall_mem_cons.mpr ⟨ma_mk242, List.forall_mem_cons.mpr ⟨ma_mk243, List.forall_mem_cons.mpr ⟨ma_mk244, List.forall_mem_cons.mpr ⟨ma_mk245, List.forall_mem_cons.mpr ⟨ma_mk246, List.forall_mem_cons.mpr ⟨ma_mk247, List.forall_mem_cons.mpr ⟨ma_mk248, List.forall_mem_cons.mpr ⟨ma_mk249, List.forall_mem_cons.mpr ⟨ma_mk250, List.forall_mem_cons.mpr ⟨ma_mk251, List.forall_mem_cons.mpr ⟨ma_mk252, List.forall_mem_cons.mpr ⟨ma_mk253, List.forall_mem_cons.mpr ⟨ma_mk254, List.forall_mem_cons.mpr ⟨ma_mk255, List.forall_mem_cons.mpr ⟨ma_mk256, List.forall_mem_cons.mpr ⟨ma_mk257, List.forall_mem_cons.mpr ⟨ma_mk258, List.forall_mem_cons.mpr ⟨ma_mk259, List.forall_mem_nil _⟩⟩⟩⟩⟩⟩⟩⟩⟩⟩⟩⟩⟩⟩⟩⟩⟩⟩⟩⟩
def ma_mdh_13 : List (Nat × MethodName × ByteArray × Nat × Option FieldType) := [(12, yX12_count, cX12_count, 2, (some (FieldType.int))), (12, yX12_dirtyCards, cX12_dirtyCards, 3, (some (FieldType.int))), (13, yX1_init, cX1_init, 3, none), (13, yX1_slideDown, cX1_slideDown, 5, (some (FieldType.int))), (13, yX1_removeUnreached, cX1_removeUnreached, 1, (some (FieldType.int))), (13, yX1_noteChange, cX1_noteChange, 3, none), (13, yX1_noteFewer, cX1_noteFewer, 2, none), (13, yX1_noteReference, cX1_noteReference, 4, none), (13, yX1_noteStrong, cX1_noteStrong, 2, none), (13, yX1_canHold, cX1_canHold, 2, (some (FieldType.boolean))), (13, yX1_countOf, cX1_countOf, 2, (some (FieldType.int))), (13, yX1_colourOf, cX1_colourOf, 2, (some (FieldType.int))), (13, yX1_specials, cX1_specials, 1, (some (FieldType.int))), (13, yX1_topPlace, cX1_topPlace, 1, (some (FieldType.int))), (13, yX1_isMarking, cX1_isMarking, 1, (some (FieldType.boolean))), (13, yX1_oldTopOrRegion, cX1_oldTopOrRegion, 1, (some (FieldType.int))), (15, yJ7_fill_53178, cJ7_fill_53178, 4, none), (17, yJ0_length_8abf5, cJ0_length_8abf5, 1, (some (FieldType.int))), (17, yJ0_coder_7d493, cJ0_coder_7d493, 1, (some (FieldType.byte))), (17, yJ0_charAt_5068e, cJ0_charAt_5068e, 2, (some (FieldType.char)))]
theorem ma_mdh_ok13 : ∀ q ∈ ma_mdh_13, ma_mok q := List.forall_mem_cons.mpr ⟨ma_mk260, List.forall_mem_cons.mpr ⟨ma_mk261, List.forall_mem_cons.mpr ⟨ma_mk262, List.forall_mem_cons.mpr ⟨ma_mk263, List.forall_mem_cons.mpr ⟨ma_mk264, List.forall_mem_cons.mpr ⟨ma_mk265, List.forall_mem_cons.mpr ⟨ma_mk266, List.forall_mem_cons.mpr ⟨ma_mk267, List.forall_mem_cons.mpr ⟨ma_mk268, List.forall_mem_cons.mpr ⟨ma_mk269, List.forall_mem_cons.mpr ⟨ma_mk270, List.forall_mem_cons.mpr ⟨ma_mk271, List.forall_mem_cons.mpr ⟨ma_mk272, List.forall_mem_cons.mpr ⟨ma_mk273, List.forall_mem_cons.mpr ⟨ma_mk274, List.forall_mem_cons.mpr ⟨ma_mk275, List.forall_mem_cons.mpr ⟨ma_mk276, List.forall_mem_cons.mpr ⟨ma_mk277, List.forall_mem_cons.mpr ⟨ma_mk278, List.forall_mem_cons.mpr ⟨ma_mk279, List.forall_mem_nil _⟩⟩⟩⟩⟩⟩⟩⟩⟩⟩⟩⟩⟩⟩⟩⟩⟩⟩⟩⟩
def ma_mdh_14 : List (Nat × MethodName × ByteArray × Nat × Option FieldType) := [(17, yJ0_isLatin1_aae02, cJ0_isLatin1_aae02, 1, (some (FieldType.boolean))), (17, yJ0_checkIndex_df160, cJ0_checkIndex_df160, 2, none), (18, yJ1_charAt_3b067, cJ1_charAt_3b067, 2, (some (FieldType.char))), (19, yJ3_checkIndex_8e157, cJ3_checkIndex_8e157, 3, (some (FieldType.int)))]
theorem ma_mdh_ok14 : ∀ q ∈ ma_mdh_14, ma_mok q := List.forall_mem_cons.mpr ⟨ma_mk280, List.forall_mem_cons.mpr ⟨ma_mk281, List.forall_mem_cons.mpr ⟨ma_mk282, List.forall_mem_cons.mpr ⟨ma_mk283, List.forall_mem_nil _⟩⟩⟩⟩
def ma_mdh : List (Nat × MethodName × ByteArray × Nat × Option FieldType) := ma_mdh_0 ++ (ma_mdh_1 ++ (ma_mdh_2 ++ (ma_mdh_3 ++ (ma_mdh_4 ++ (ma_mdh_5 ++ (ma_mdh_6 ++ (ma_mdh_7 ++ (ma_mdh_8 ++ (ma_mdh_9 ++ (ma_mdh_10 ++ (ma_mdh_11 ++ (ma_mdh_12 ++ (ma_mdh_13 ++ (ma_mdh_14))))))))))))))
theorem ma_mdh_ok : ∀ q ∈ ma_mdh, ma_mok q := by
  intro q hq
  rcases List.mem_append.mp hq with hq | hq
  · exact ma_mdh_ok0 q hq
  rcases List.mem_append.mp hq with hq | hq
  · exact ma_mdh_ok1 q hq
  rcases List.mem_append.mp hq with hq | hq
  · exact ma_mdh_ok2 q hq
  rcases List.mem_append.mp hq with hq | hq
  · exact ma_mdh_ok3 q hq
  rcases List.mem_append.mp hq with hq | hq
  · exact ma_mdh_ok4 q hq
  rcases List.mem_append.mp hq with hq | hq
  · exact ma_mdh_ok5 q hq
  rcases List.mem_append.mp hq with hq | hq
  · exact ma_mdh_ok6 q hq
  rcases List.mem_append.mp hq with hq | hq
  · exact ma_mdh_ok7 q hq
  rcases List.mem_append.mp hq with hq | hq
  · exact ma_mdh_ok8 q hq
  rcases List.mem_append.mp hq with hq | hq
  · exact ma_mdh_ok9 q hq
  rcases List.mem_append.mp hq with hq | hq
  · exact ma_mdh_ok10 q hq
  rcases List.mem_append.mp hq with hq | hq
  · exact ma_mdh_ok11 q hq
  rcases List.mem_append.mp hq with hq | hq
  · exact ma_mdh_ok12 q hq
  rcases List.mem_append.mp hq with hq | hq
  · exact ma_mdh_ok13 q hq
  exact ma_mdh_ok14 q hq
def ma_md (M : Nat) : Option (Nat × MethodName × ByteArray × Nat × Option FieldType) := ma_mdh[M]?
theorem ma_md_spec {M o nL : Nat} {y : MethodName} {cc : ByteArray} {ret : Option FieldType} (h : ma_md M = some (o, y, cc, nL, ret)) : Cond.code y cc nL ret ∈ ma_TB ∧ Cond.initialized y.cls ∈ ma_TB ∧ y.cls = ma_cn o ∧ plainName y.cls = true ∧ y.cls ≠ "java/lang/invoke/MethodHandle" ∧ y.cls ≠ "java/lang/invoke/VarHandle" := by
  obtain ⟨h1, h2, h3⟩ := ma_mdh_ok _ (List.mem_of_getElem? h)
  have h2 : y.cls = ma_cn o := h2
  obtain ⟨g1, g2, g3, g4⟩ := h3
  rw [h2]
  exact ⟨h1, g1, rfl, g2, g3, g4⟩
end
section
def ma_w (j : Nat) (w : Cond) : Bool := decide (tables_1[j]? = some w) && goodWord w
theorem ma_w_in {j : Nat} {w : Cond} (h : ma_w j w = true) : w ∈ ma_TB := by
  simp only [ma_w, Bool.and_eq_true] at h
  exact ma_TB_in h.1 h.2
/-- what a call's row says: kinds 0 its own, 1 private, 2 inherited, 3 overridden, 4 abstract, 5 static, 6 constructor, 7 above, 8 static of the nest, 9 constructor of the nest -/
def ma_clc (q : (Nat × Nat × Nat) × (Nat × Nat × Nat) × (Nat × Nat) × List Nat) : Bool := match ma_md q.2.1.2.1 with
  | none => false
  | some (_, y, _, _, _) => decide ((parseMethodDescriptor y.desc).map (fun d => d.parameters.length) = some q.2.1.2.2) && (match q.2.1.1 with
    | 0 => ma_w (q.2.2.2.getD 0 0) (.methodLink (ma_cn q.1.1) q.1.2.1 y) && ma_w (q.2.2.2.getD 1 0) (.instanceMethod y) && ma_w (q.2.2.2.getD 2 0) (.selects (ma_cn q.1.2.2) y y)
    | 1 => ma_w (q.2.2.2.getD 0 0) (.methodLink (ma_cn q.1.1) q.1.2.1 y) && ma_w (q.2.2.2.getD 1 0) (.instanceMethod y) && (decide (Cond.selects (ma_cn q.1.2.2) y y ∈ ma_sx) || decide (Cond.selects (ma_cn q.1.2.2) y y ∈ k2_sels lw_privs)) && goodWord (.selects (ma_cn q.1.2.2) y y)
    | 2 => ma_w (q.2.2.2.getD 0 0) (.methodLink (ma_cn q.1.1) q.1.2.1 ⟨ma_cn q.2.2.1.1, y.name, y.desc⟩) && ma_w (q.2.2.2.getD 1 0) (.sameMethod (ma_cn q.2.2.1.1) (ma_cn q.2.2.1.2) y.name y.desc) && ma_w (q.2.2.2.getD 2 0) (.selects (ma_cn q.1.2.2) ⟨ma_cn q.2.2.1.1, y.name, y.desc⟩ y) && ma_w (q.2.2.2.getD 3 0) (.instanceMethod y) && decide (y.cls = ma_cn q.2.2.1.2)
    | 3 => ma_w (q.2.2.2.getD 0 0) (.methodLink (ma_cn q.1.1) q.1.2.1 ⟨ma_cn q.2.2.1.1, y.name, y.desc⟩) && ma_w (q.2.2.2.getD 1 0) (.sameMethod (ma_cn q.2.2.1.1) (ma_cn q.2.2.1.2) y.name y.desc) && ma_w (q.2.2.2.getD 2 0) (.selects (ma_cn q.1.2.2) ⟨ma_cn q.2.2.1.1, y.name, y.desc⟩ y) && ma_w (q.2.2.2.getD 3 0) (.instanceMethod y) && (match ma_md (q.2.2.2.getD 4 0) with
      | some (_, y0, _, _, _) => decide (y0 = ⟨ma_cn q.2.2.1.2, y.name, y.desc⟩) && ma_w (q.2.2.2.getD 5 0) (.instanceMethod y0)
      | none => false)
    | 4 => ma_w (q.2.2.2.getD 0 0) (.methodLink (ma_cn q.1.1) q.1.2.1 ⟨ma_cn q.2.2.1.1, y.name, y.desc⟩) && ma_w (q.2.2.2.getD 1 0) (.sameMethod (ma_cn q.2.2.1.1) (ma_cn q.2.2.1.2) y.name y.desc) && ma_w (q.2.2.2.getD 2 0) (.selects (ma_cn q.1.2.2) ⟨ma_cn q.2.2.1.1, y.name, y.desc⟩ y) && ma_w (q.2.2.2.getD 3 0) (.instanceMethod y) && decide (Cond.declares ⟨ma_cn q.2.2.1.2, y.name, y.desc⟩ ∈ ma_nw)
    | 5 => ma_w (q.2.2.2.getD 0 0) (.methodLink (ma_cn q.1.1) q.1.2.1 y) && ma_w (q.2.2.2.getD 1 0) (.static y)
    | 6 => ma_w (q.2.2.2.getD 0 0) (.methodLink (ma_cn q.1.1) q.1.2.1 y) && ma_w (q.2.2.2.getD 1 0) (.instanceMethod y) && decide (y.name = "<init>")
    | 7 => ma_w (q.2.2.2.getD 0 0) (.methodLink (ma_cn q.1.1) q.1.2.1 y) && ma_w (q.2.2.2.getD 1 0) (.sameMethod y.cls y.cls y.name y.desc) && ma_w (q.2.2.2.getD 2 0) (.superclass (ma_cn q.1.1) y.cls) && ma_w (q.2.2.2.getD 3 0) (.instanceMethod y) && decide (y.name ≠ "<init>")
    | 8 => decide (Cond.methodLinkNest (ma_cn q.1.1) q.1.2.1 y RX11 ∈ ma_nw) && ma_w (q.2.2.2.getD 0 0) (.static y)
    | 9 => decide (Cond.methodLinkNest (ma_cn q.1.1) q.1.2.1 y RX11 ∈ ma_nw) && ma_w (q.2.2.2.getD 0 0) (.instanceMethod y) && decide (y.name = "<init>")
    | _ => false)
def ma_clh_0 : List ((Nat × Nat × Nat) × (Nat × Nat × Nat) × (Nat × Nat) × List Nat) := [((11, 25, 0), (9, 79, 0), (11, 11), [41]), ((11, 32, 0), (6, 115, 1), (11, 11), [107, 108]), ((11, 43, 0), (6, 99, 2), (11, 11), [138, 139]), ((11, 48, 0), (6, 58, 2), (11, 11), [181, 182]), ((11, 51, 0), (6, 28, 2), (11, 11), [196, 197]), ((11, 54, 0), (6, 0, 2), (11, 11), [214, 215]), ((11, 57, 0), (6, 23, 2), (11, 11), [247, 248]), ((11, 60, 0), (6, 65, 2), (11, 11), [269, 270]), ((11, 63, 0), (6, 37, 2), (11, 11), [295, 296]), ((11, 75, 11), (1, 138, 1), (11, 11), [596, 598, 597, 31, 31]), ((11, 88, 11), (1, 128, 0), (11, 11), [364, 366, 365, 31, 31]), ((11, 95, 7), (0, 80, 0), (11, 11), [469, 470, 471]), ((11, 102, 1), (4, 1, 1), (13, 13), [476, 478, 479, 480]), ((11, 102, 2), (4, 100, 1), (13, 13), [476, 478, 483, 484]), ((11, 102, 3), (4, 29, 1), (13, 13), [476, 478, 486, 487]), ((11, 102, 4), (4, 38, 1), (13, 13), [476, 478, 489, 490]), ((11, 102, 5), (4, 59, 1), (13, 13), [476, 478, 494, 495]), ((11, 102, 6), (4, 66, 1), (13, 13), [476, 478, 497, 498]), ((11, 102, 8), (4, 100, 1), (13, 13), [476, 478, 501, 484]), ((11, 106, 1), (4, 2, 0), (13, 13), [502, 504, 505, 506]), ((11, 106, 2), (4, 101, 0), (13, 13), [502, 504, 508, 509]), ((11, 106, 3), (4, 30, 0), (13, 13), [502, 504, 511, 512]), ((11, 106, 4), (4, 39, 0), (13, 13), [502, 504, 514, 515]), ((11, 106, 5), (4, 60, 0), (13, 13), [502, 504, 517, 518]), ((11, 106, 6), (4, 101, 0), (13, 13), [502, 504, 520, 509]), ((11, 106, 8), (4, 101, 0), (13, 13), [502, 504, 521, 509]), ((11, 109, 0), (5, 142, 1), (11, 11), [653, 654]), ((11, 113, 11), (1, 143, 4), (11, 11), [656, 658, 657, 31, 31]), ((11, 119, 11), (1, 144, 0), (11, 11), [660, 662, 661, 31, 31]), ((11, 123, 11), (1, 149, 1), (11, 11), [1191, 1193, 1192, 31, 31]), ((11, 127, 9), (0, 114, 1), (11, 11), [1213, 1085, 1086]), ((11, 132, 9), (0, 113, 1), (11, 11), [1214, 1081, 1082]), ((11, 138, 7), (0, 95, 3), (11, 11), [1230, 1164, 1165]), ((11, 142, 11), (1, 151, 1), (11, 11), [1238, 1240, 1239, 31, 31]), ((11, 145, 7), (0, 94, 3), (11, 11), [1242, 1160, 1161]), ((11, 149, 1), (3, 8, 3), (13, 13), [1243, 1245, 1246, 778, 267, 1244]), ((11, 149, 2), (0, 267, 3), (11, 11), [1243, 1244, 1247]), ((11, 149, 3), (0, 267, 3), (11, 11), [1243, 1244, 1248]), ((11, 149, 4), (0, 267, 3), (11, 11), [1243, 1244, 1249]), ((11, 149, 5), (0, 267, 3), (11, 11), [1243, 1244, 1250]), ((11, 149, 6), (0, 267, 3), (11, 11), [1243, 1244, 1251]), ((11, 149, 8), (0, 267, 3), (11, 11), [1243, 1244, 1252]), ((11, 153, 1), (0, 265, 2), (11, 11), [1126, 1127, 1129]), ((11, 153, 2), (0, 265, 2), (11, 11), [1126, 1127, 1130]), ((11, 153, 3), (0, 265, 2), (11, 11), [1126, 1127, 1131]), ((11, 153, 4), (0, 265, 2), (11, 11), [1126, 1127, 1132]), ((11, 153, 5), (0, 265, 2), (11, 11), [1126, 1127, 1133]), ((11, 153, 6), (3, 74, 2), (13, 13), [1126, 1128, 1134, 1135, 265, 1127]), ((11, 153, 8), (0, 265, 2), (11, 11), [1126, 1127, 1138]), ((11, 157, 1), (0, 266, 1), (11, 11), [1140, 1141, 1143]), ((11, 157, 2), (3, 24, 1), (13, 13), [1140, 1142, 1144, 1145, 266, 1141]), ((11, 157, 3), (0, 266, 1), (11, 11), [1140, 1141, 1168]), ((11, 157, 4), (0, 266, 1), (11, 11), [1140, 1141, 1169]), ((11, 157, 5), (0, 266, 1), (11, 11), [1140, 1141, 1170]), ((11, 157, 6), (0, 266, 1), (11, 11), [1140, 1141, 1171]), ((11, 157, 8), (0, 266, 1), (11, 11), [1140, 1141, 1172]), ((11, 161, 0), (5, 146, 1), (11, 11), [1254, 1121]), ((11, 165, 7), (0, 96, 2), (11, 11), [1262, 1263, 1264]), ((11, 169, 11), (1, 145, 3), (11, 11), [1112, 1114, 1113, 31, 31]), ((11, 176, 7), (0, 81, 1), (11, 11), [1196, 692, 693]), ((11, 179, 1), (0, 268, 1), (11, 11), [1287, 1288, 1290]), ((11, 179, 2), (0, 268, 1), (11, 11), [1287, 1288, 1291]), ((11, 179, 3), (0, 268, 1), (11, 11), [1287, 1288, 1292]), ((11, 179, 4), (0, 268, 1), (11, 11), [1287, 1288, 1293]), ((11, 179, 5), (0, 268, 1), (11, 11), [1287, 1288, 1294]), ((11, 179, 6), (3, 75, 1), (13, 13), [1287, 1289, 1295, 1296, 268, 1288]), ((11, 179, 8), (0, 268, 1), (11, 11), [1287, 1288, 1298]), ((11, 185, 1), (3, 18, 1), (13, 13), [1308, 1310, 1311, 1312, 269, 1309]), ((11, 185, 2), (0, 269, 1), (11, 11), [1308, 1309, 1314]), ((11, 185, 3), (3, 35, 1), (13, 13), [1308, 1310, 1315, 1316, 269, 1309])]
def ma_clh_1 : List ((Nat × Nat × Nat) × (Nat × Nat × Nat) × (Nat × Nat) × List Nat) := [((11, 185, 4), (0, 269, 1), (11, 11), [1308, 1309, 1318]), ((11, 185, 5), (0, 269, 1), (11, 11), [1308, 1309, 1319]), ((11, 185, 6), (0, 269, 1), (11, 11), [1308, 1309, 1320]), ((11, 185, 8), (0, 269, 1), (11, 11), [1308, 1309, 1321]), ((11, 195, 7), (0, 97, 2), (11, 11), [1338, 1339, 1340]), ((11, 203, 7), (0, 98, 0), (11, 11), [1356, 1357, 1358]), ((11, 207, 1), (4, 19, 0), (13, 13), [1367, 1369, 1370, 1371]), ((11, 207, 2), (4, 109, 0), (13, 13), [1367, 1369, 1373, 861]), ((11, 207, 3), (4, 33, 0), (13, 13), [1367, 1369, 1374, 909]), ((11, 207, 4), (4, 43, 0), (13, 13), [1367, 1369, 1375, 929]), ((11, 207, 5), (4, 62, 0), (13, 13), [1367, 1369, 1376, 989]), ((11, 207, 6), (4, 67, 0), (13, 13), [1367, 1369, 1377, 866]), ((11, 207, 8), (4, 109, 0), (13, 13), [1367, 1369, 1378, 861]), ((11, 210, 6), (0, 72, 1), (11, 11), [1386, 1002, 1003]), ((11, 226, 1), (0, 270, 1), (11, 11), [1394, 1395, 1397]), ((11, 226, 2), (3, 27, 1), (13, 13), [1394, 1396, 1398, 1399, 270, 1395]), ((11, 226, 3), (0, 270, 1), (11, 11), [1394, 1395, 1401]), ((11, 226, 4), (0, 270, 1), (11, 11), [1394, 1395, 1402]), ((11, 226, 5), (0, 270, 1), (11, 11), [1394, 1395, 1403]), ((11, 226, 6), (0, 270, 1), (11, 11), [1394, 1395, 1404]), ((11, 226, 8), (0, 270, 1), (11, 11), [1394, 1395, 1405]), ((11, 229, 1), (0, 271, 1), (11, 11), [1407, 1408, 1410]), ((11, 229, 2), (0, 271, 1), (11, 11), [1407, 1408, 1411]), ((11, 229, 3), (0, 271, 1), (11, 11), [1407, 1408, 1412]), ((11, 229, 4), (0, 271, 1), (11, 11), [1407, 1408, 1413]), ((11, 229, 5), (0, 271, 1), (11, 11), [1407, 1408, 1414]), ((11, 229, 6), (3, 76, 1), (13, 13), [1407, 1409, 1415, 1416, 271, 1408]), ((11, 229, 8), (0, 271, 1), (11, 11), [1407, 1408, 1419]), ((11, 232, 2), (0, 111, 1), (11, 11), [1428, 1429, 1432]), ((11, 232, 6), (0, 111, 1), (11, 11), [1428, 1429, 1433]), ((11, 232, 8), (0, 111, 1), (11, 11), [1428, 1429, 1430]), ((11, 235, 2), (0, 106, 1), (11, 11), [1435, 846, 849]), ((11, 235, 6), (0, 106, 1), (11, 11), [1435, 846, 850]), ((11, 235, 8), (0, 106, 1), (11, 11), [1435, 846, 847]), ((11, 262, 1), (3, 20, 0), (13, 13), [1443, 1445, 1446, 1447, 272, 1444]), ((11, 262, 2), (0, 272, 0), (11, 11), [1443, 1444, 1449]), ((11, 262, 3), (0, 272, 0), (11, 11), [1443, 1444, 1450]), ((11, 262, 4), (3, 42, 0), (13, 13), [1443, 1445, 1451, 925, 272, 1444]), ((11, 262, 5), (0, 272, 0), (11, 11), [1443, 1444, 1452]), ((11, 262, 6), (3, 77, 0), (13, 13), [1443, 1445, 1453, 1454, 272, 1444]), ((11, 262, 8), (0, 272, 0), (11, 11), [1443, 1444, 1456]), ((11, 265, 1), (3, 21, 0), (13, 13), [1458, 1460, 1461, 1462, 273, 1459]), ((11, 265, 2), (0, 273, 0), (11, 11), [1458, 1459, 1464]), ((11, 265, 3), (3, 36, 0), (13, 13), [1458, 1460, 1465, 1466, 273, 1459]), ((11, 265, 4), (3, 55, 0), (13, 13), [1458, 1460, 1468, 982, 273, 1459]), ((11, 265, 5), (3, 64, 0), (13, 13), [1458, 1460, 1469, 1470, 273, 1459]), ((11, 265, 6), (0, 273, 0), (11, 11), [1458, 1459, 1472]), ((11, 265, 8), (0, 273, 0), (11, 11), [1458, 1459, 1473]), ((11, 268, 1), (0, 274, 0), (11, 11), [1475, 1476, 1478]), ((11, 268, 2), (0, 274, 0), (11, 11), [1475, 1476, 1479]), ((11, 268, 3), (0, 274, 0), (11, 11), [1475, 1476, 1480]), ((11, 268, 4), (0, 274, 0), (11, 11), [1475, 1476, 1481]), ((11, 268, 5), (0, 274, 0), (11, 11), [1475, 1476, 1482]), ((11, 268, 6), (3, 78, 0), (13, 13), [1475, 1477, 1483, 1484, 274, 1476]), ((11, 268, 8), (0, 274, 0), (11, 11), [1475, 1476, 1486]), ((11, 272, 1), (3, 22, 0), (13, 13), [1488, 1490, 1491, 1492, 275, 1489]), ((11, 272, 2), (0, 275, 0), (11, 11), [1488, 1489, 1494]), ((11, 272, 3), (0, 275, 0), (11, 11), [1488, 1489, 1495]), ((11, 272, 4), (3, 57, 0), (13, 13), [1488, 1490, 1496, 1497, 275, 1489]), ((11, 272, 5), (0, 275, 0), (11, 11), [1488, 1489, 1499]), ((11, 272, 6), (0, 275, 0), (11, 11), [1488, 1489, 1500]), ((11, 272, 8), (0, 275, 0), (11, 11), [1488, 1489, 1501]), ((11, 278, 11), (1, 129, 0), (11, 11), [368, 370, 369, 31, 31]), ((11, 281, 11), (1, 130, 0), (11, 11), [372, 374, 373, 31, 31]), ((11, 284, 0), (5, 132, 1), (11, 11), [435, 436]), ((11, 288, 17), (0, 277, 0), (11, 11), [381, 382, 383]), ((11, 293, 17), (0, 279, 1), (11, 11), [391, 392, 393]), ((11, 297, 11), (1, 133, 1), (11, 11), [444, 446, 445, 31, 31]), ((11, 303, 11), (1, 131, 1), (11, 11), [377, 379, 378, 31, 31]), ((11, 331, 11), (1, 134, 2), (11, 11), [448, 450, 449, 31, 31])]
def ma_clh_2 : List ((Nat × Nat × Nat) × (Nat × Nat × Nat) × (Nat × Nat) × List Nat) := [((11, 340, 11), (1, 135, 0), (11, 11), [455, 457, 456, 31, 31]), ((11, 343, 11), (1, 136, 0), (11, 11), [463, 465, 464, 31, 31]), ((11, 358, 10), (0, 116, 0), (11, 11), [1195, 679, 680]), ((11, 361, 10), (0, 122, 1), (11, 11), [1197, 717, 718]), ((11, 367, 1), (4, 3, 1), (13, 13), [664, 666, 667, 668]), ((11, 367, 2), (4, 102, 1), (13, 13), [664, 666, 823, 824]), ((11, 367, 3), (4, 31, 1), (13, 13), [664, 666, 901, 902]), ((11, 367, 4), (4, 40, 1), (13, 13), [664, 666, 917, 918]), ((11, 367, 5), (4, 61, 1), (13, 13), [664, 666, 985, 986]), ((11, 367, 6), (4, 71, 1), (13, 13), [664, 666, 998, 999]), ((11, 367, 8), (4, 102, 1), (13, 13), [664, 666, 1010, 824]), ((11, 370, 0), (6, 112, 5), (11, 11), [1013, 1014]), ((11, 373, 7), (0, 91, 1), (11, 11), [1076, 1077, 1078]), ((11, 376, 1), (4, 17, 1), (13, 13), [1088, 1090, 1091, 1092]), ((11, 376, 2), (4, 110, 1), (13, 13), [1088, 1090, 1094, 1095]), ((11, 376, 3), (4, 34, 1), (13, 13), [1088, 1090, 1097, 1098]), ((11, 376, 4), (4, 56, 1), (13, 13), [1088, 1090, 1100, 1101]), ((11, 376, 5), (4, 63, 1), (13, 13), [1088, 1090, 1103, 1104]), ((11, 376, 6), (4, 73, 1), (13, 13), [1088, 1090, 1106, 1107]), ((11, 376, 8), (4, 110, 1), (13, 13), [1088, 1090, 1111, 1095]), ((11, 379, 7), (0, 92, 2), (11, 11), [1116, 1117, 1118]), ((1, 3, 0), (6, 262, 2), (1, 1), [217, 142]), ((1, 37, 0), (5, 276, 2), (1, 1), [482, 474]), ((1, 43, 1), (1, 4, 1), (1, 1), [670, 672, 671, 213, 213]), ((1, 47, 1), (1, 10, 1), (1, 1), [785, 787, 786, 213, 213]), ((1, 51, 1), (1, 11, 0), (1, 1), [789, 791, 790, 213, 213]), ((1, 55, 1), (1, 5, 0), (1, 1), [674, 676, 675, 213, 213]), ((1, 58, 1), (1, 7, 1), (1, 1), [772, 774, 773, 213, 213]), ((1, 74, 10), (0, 116, 0), (1, 1), [678, 679, 680]), ((1, 84, 7), (0, 83, 1), (1, 1), [711, 712, 713]), ((1, 90, 7), (0, 86, 1), (1, 1), [734, 735, 736]), ((1, 94, 1), (2, 263, 1), (1, 13), [747, 748, 750, 751]), ((1, 97, 1), (1, 6, 0), (1, 1), [767, 769, 768, 213, 213]), ((1, 100, 1), (1, 12, 0), (1, 1), [793, 795, 794, 213, 213]), ((1, 103, 10), (0, 117, 1), (1, 1), [797, 683, 684]), ((1, 107, 10), (0, 118, 0), (1, 1), [798, 688, 689]), ((1, 110, 1), (1, 13, 0), (1, 1), [799, 801, 800, 213, 213]), ((1, 113, 10), (0, 120, 1), (1, 1), [809, 700, 701]), ((1, 116, 1), (1, 15, 0), (1, 1), [810, 812, 811, 213, 213]), ((1, 122, 7), (0, 81, 1), (1, 1), [771, 692, 693]), ((1, 129, 7), (0, 89, 1), (1, 1), [803, 754, 755]), ((1, 132, 1), (1, 14, 1), (1, 1), [804, 806, 805, 213, 213]), ((1, 136, 1), (1, 9, 2), (1, 1), [781, 783, 782, 213, 213]), ((1, 140, 7), (0, 82, 2), (1, 1), [776, 708, 709]), ((1, 144, 10), (0, 119, 1), (1, 1), [808, 696, 697]), ((1, 150, 10), (0, 124, 1), (1, 1), [814, 815, 816]), ((1, 153, 1), (1, 16, 1), (1, 1), [818, 820, 819, 213, 213]), ((1, 156, 7), (0, 90, 2), (1, 1), [822, 758, 759]), ((1, 160, 1), (0, 8, 3), (1, 1), [777, 778, 779]), ((13, 19, 10), (0, 116, 0), (13, 13), [898, 679, 680]), ((13, 24, 7), (0, 83, 1), (13, 13), [899, 712, 713]), ((13, 30, 7), (0, 86, 1), (13, 13), [900, 735, 736]), ((13, 34, 7), (0, 89, 1), (13, 13), [753, 754, 755]), ((13, 47, 7), (0, 90, 2), (13, 13), [757, 758, 759]), ((2, 3, 0), (6, 99, 2), (2, 2), [250, 139]), ((2, 28, 2), (1, 25, 1), (2, 2), [1147, 1149, 1148, 246, 246]), ((2, 33, 9), (0, 114, 1), (2, 2), [1153, 1085, 1086]), ((2, 37, 2), (1, 26, 2), (2, 2), [1154, 1156, 1155, 246, 246]), ((2, 45, 7), (0, 87, 1), (2, 2), [1167, 739, 740]), ((2, 50, 9), (0, 113, 1), (2, 2), [1158, 1081, 1082]), ((2, 53, 7), (0, 94, 3), (2, 2), [1159, 1160, 1161]), ((2, 61, 7), (0, 84, 1), (2, 2), [1151, 725, 726]), ((3, 3, 0), (6, 262, 2), (3, 3), [199, 142]), ((3, 21, 3), (1, 32, 1), (3, 3), [904, 906, 905, 195, 195]), ((3, 25, 3), (0, 33, 0), (3, 3), [908, 909, 910]), ((3, 37, 3), (2, 264, 0), (3, 13), [912, 913, 914, 896]), ((3, 49, 10), (0, 124, 1), (3, 3), [915, 815, 816]), ((3, 57, 7), (0, 90, 2), (3, 3), [916, 758, 759]), ((4, 3, 0), (6, 262, 2), (4, 4), [298, 142]), ((4, 37, 0), (5, 276, 2), (4, 4), [493, 474])]
def ma_clh_3 : List ((Nat × Nat × Nat) × (Nat × Nat × Nat) × (Nat × Nat) × List Nat) := [((4, 43, 4), (1, 41, 2), (4, 4), [920, 922, 921, 294, 294]), ((4, 47, 4), (0, 42, 0), (4, 4), [924, 925, 926]), ((4, 51, 4), (0, 43, 0), (4, 4), [928, 929, 930]), ((4, 54, 4), (1, 52, 0), (4, 4), [969, 971, 970, 294, 294]), ((4, 57, 0), (5, 54, 2), (4, 4), [978, 979]), ((4, 60, 4), (0, 55, 0), (4, 4), [981, 982, 983]), ((4, 66, 4), (1, 53, 2), (4, 4), [974, 976, 975, 294, 294]), ((4, 70, 4), (2, 264, 0), (4, 13), [932, 933, 934, 896]), ((4, 73, 4), (1, 44, 0), (4, 4), [935, 937, 936, 294, 294]), ((4, 77, 4), (1, 46, 0), (4, 4), [944, 946, 945, 294, 294]), ((4, 80, 4), (1, 47, 0), (4, 4), [948, 950, 949, 294, 294]), ((4, 86, 4), (1, 48, 0), (4, 4), [952, 954, 953, 294, 294]), ((4, 89, 4), (1, 49, 1), (4, 4), [956, 958, 957, 294, 294]), ((4, 93, 4), (1, 50, 1), (4, 4), [960, 962, 961, 294, 294]), ((4, 109, 7), (0, 81, 1), (4, 4), [939, 692, 693]), ((4, 113, 4), (1, 45, 1), (4, 4), [940, 942, 941, 294, 294]), ((4, 120, 7), (0, 89, 1), (4, 4), [964, 754, 755]), ((4, 123, 4), (1, 51, 1), (4, 4), [965, 967, 966, 294, 294]), ((4, 127, 7), (0, 90, 2), (4, 4), [973, 758, 759]), ((5, 3, 0), (6, 262, 2), (5, 5), [184, 142]), ((5, 18, 5), (0, 62, 0), (5, 5), [988, 989, 990]), ((5, 30, 5), (2, 264, 0), (5, 13), [992, 993, 994, 896]), ((5, 33, 5), (2, 263, 1), (5, 13), [995, 996, 997, 751]), ((6, 3, 0), (6, 99, 2), (6, 6), [272, 139]), ((6, 11, 0), (6, 115, 1), (6, 6), [274, 108]), ((6, 20, 0), (7, 100, 1), (6, 6), [500, 2156, 292, 484]), ((6, 47, 6), (1, 68, 0), (6, 6), [868, 870, 869, 268, 268]), ((6, 51, 6), (0, 72, 1), (6, 6), [1001, 1002, 1003]), ((6, 55, 6), (2, 103, 1), (6, 8), [1005, 1006, 1008, 827]), ((6, 58, 6), (0, 67, 0), (6, 6), [1009, 866, 2161]), ((6, 62, 0), (7, 110, 1), (6, 6), [1109, 2162, 292, 1095]), ((6, 66, 10), (0, 121, 1), (6, 6), [1110, 704, 705]), ((6, 69, 10), (0, 120, 1), (6, 6), [874, 700, 701]), ((6, 72, 6), (1, 69, 0), (6, 6), [875, 877, 876, 268, 268]), ((6, 76, 6), (1, 70, 0), (6, 6), [883, 885, 884, 268, 268]), ((6, 79, 10), (0, 125, 0), (6, 6), [879, 880, 881]), ((6, 82, 10), (0, 117, 1), (6, 6), [872, 683, 684]), ((6, 86, 10), (0, 118, 0), (6, 6), [873, 688, 689]), ((6, 89, 7), (0, 83, 1), (6, 6), [887, 712, 713]), ((6, 93, 7), (0, 86, 1), (6, 6), [888, 735, 736]), ((6, 97, 10), (0, 119, 1), (6, 6), [1137, 696, 697]), ((6, 100, 10), (0, 123, 1), (6, 6), [1418, 721, 722]), ((7, 30, 0), (5, 276, 2), (7, 7), [473, 474]), ((7, 70, 9), (0, 113, 1), (7, 7), [1080, 1081, 1082]), ((7, 78, 7), (0, 82, 2), (7, 7), [742, 708, 709]), ((7, 82, 0), (8, 146, 1), (7, 7), [1121]), ((7, 86, 7), (0, 95, 3), (7, 7), [1163, 1164, 1165]), ((7, 90, 0), (5, 93, 2), (7, 7), [1123, 1124]), ((7, 94, 7), (0, 81, 1), (7, 7), [715, 692, 693]), ((7, 104, 7), (0, 85, 1), (7, 7), [728, 729, 730]), ((7, 112, 7), (1, 88, 2), (7, 7), [743, 745, 744, 39, 39]), ((7, 128, 10), (0, 122, 1), (7, 7), [716, 717, 718]), ((7, 134, 7), (0, 84, 1), (7, 7), [724, 725, 726]), ((7, 137, 10), (0, 119, 1), (7, 7), [732, 696, 697]), ((7, 140, 10), (0, 120, 1), (7, 7), [733, 700, 701]), ((7, 144, 7), (0, 87, 1), (7, 7), [738, 739, 740]), ((8, 3, 0), (6, 262, 2), (8, 8), [141, 142]), ((8, 21, 2), (0, 103, 1), (8, 8), [826, 827, 830]), ((8, 21, 6), (0, 103, 1), (8, 8), [826, 827, 831]), ((8, 21, 8), (0, 103, 1), (8, 8), [826, 827, 828]), ((8, 25, 2), (0, 109, 0), (8, 8), [860, 861, 864]), ((8, 25, 6), (3, 67, 0), (8, 8), [860, 863, 865, 866, 109, 861]), ((8, 25, 8), (0, 109, 0), (8, 8), [860, 861, 862]), ((8, 37, 2), (2, 264, 0), (8, 13), [890, 891, 893, 896]), ((8, 37, 6), (2, 264, 0), (8, 13), [890, 891, 894, 896]), ((8, 37, 8), (2, 264, 0), (8, 13), [890, 891, 895, 896]), ((8, 40, 2), (0, 105, 1), (8, 8), [837, 838, 841]), ((8, 40, 6), (0, 105, 1), (8, 8), [837, 838, 842]), ((8, 40, 8), (0, 105, 1), (8, 8), [837, 838, 839]), ((8, 43, 2), (0, 106, 1), (8, 8), [845, 846, 849])]
def ma_clh_4 : List ((Nat × Nat × Nat) × (Nat × Nat × Nat) × (Nat × Nat) × List Nat) := [((8, 43, 6), (0, 106, 1), (8, 8), [845, 846, 850]), ((8, 43, 8), (0, 106, 1), (8, 8), [845, 846, 847]), ((8, 50, 7), (0, 89, 1), (8, 8), [844, 754, 755]), ((8, 56, 2), (1, 104, 3), (8, 8), [833, 835, 834, 246, 137]), ((8, 56, 6), (1, 104, 3), (8, 8), [833, 835, 834, 268, 137]), ((8, 56, 8), (1, 104, 3), (8, 8), [833, 835, 834, 137, 137]), ((8, 60, 2), (1, 107, 1), (8, 8), [852, 854, 853, 246, 137]), ((8, 60, 6), (1, 107, 1), (8, 8), [852, 854, 853, 268, 137]), ((8, 60, 8), (1, 107, 1), (8, 8), [852, 854, 853, 137, 137]), ((8, 63, 2), (1, 108, 2), (8, 8), [856, 858, 857, 246, 137]), ((8, 63, 6), (1, 108, 2), (8, 8), [856, 858, 857, 268, 137]), ((8, 63, 8), (1, 108, 2), (8, 8), [856, 858, 857, 137, 137]), ((9, 26, 9), (0, 114, 1), (9, 9), [1084, 1085, 1086]), ((10, 22, 0), (5, 276, 2), (10, 10), [686, 474]), ((10, 38, 10), (0, 117, 1), (10, 10), [682, 683, 684]), ((10, 42, 10), (0, 118, 0), (10, 10), [687, 688, 689]), ((10, 45, 10), (0, 120, 1), (10, 10), [699, 700, 701]), ((10, 54, 10), (0, 123, 1), (10, 10), [720, 721, 722]), ((10, 66, 7), (0, 81, 1), (10, 10), [691, 692, 693]), ((10, 70, 10), (0, 119, 1), (10, 10), [695, 696, 697]), ((10, 86, 10), (0, 121, 1), (10, 10), [703, 704, 705]), ((10, 92, 7), (0, 82, 2), (10, 10), [707, 708, 709]), ((14, 7, 11), (0, 137, 5), (14, 14), [526, 527, 528]), ((14, 15, 11), (0, 139, 1), (14, 14), [604, 605, 606]), ((14, 21, 11), (0, 140, 2), (14, 14), [627, 628, 629]), ((14, 27, 11), (0, 141, 2), (14, 14), [649, 650, 651]), ((14, 30, 11), (0, 147, 3), (14, 14), [1177, 1178, 1179]), ((14, 34, 11), (0, 148, 3), (14, 14), [1187, 1188, 1189]), ((14, 42, 11), (0, 150, 3), (14, 14), [1234, 1235, 1236]), ((14, 45, 11), (0, 152, 2), (14, 14), [1258, 1259, 1260]), ((14, 48, 11), (0, 153, 2), (14, 14), [1269, 1270, 1271]), ((14, 51, 11), (0, 154, 2), (14, 14), [1276, 1277, 1278]), ((14, 54, 11), (0, 155, 2), (14, 14), [1283, 1284, 1285]), ((14, 57, 11), (0, 156, 2), (14, 14), [1304, 1305, 1306]), ((14, 63, 11), (0, 157, 1), (14, 14), [1345, 1346, 1347]), ((14, 66, 11), (0, 158, 1), (14, 14), [1352, 1353, 1354]), ((14, 69, 11), (0, 159, 0), (14, 14), [1363, 1364, 1365]), ((14, 73, 11), (0, 160, 1), (14, 14), [1382, 1383, 1384]), ((14, 76, 11), (0, 161, 2), (14, 14), [1390, 1391, 1392]), ((14, 79, 11), (0, 162, 2), (14, 14), [1424, 1425, 1426]), ((14, 82, 11), (0, 163, 1), (14, 14), [1439, 1440, 1441]), ((14, 85, 0), (6, 126, 0), (14, 14), [32, 33]), ((14, 88, 0), (6, 165, 0), (14, 14), [1509, 1510]), ((14, 94, 12), (0, 166, 5), (14, 14), [1771, 1772, 1773]), ((14, 95, 12), (0, 164, 0), (14, 14), [1503, 1504, 1505]), ((14, 101, 12), (0, 169, 1), (14, 14), [1783, 1784, 1785]), ((14, 105, 12), (0, 170, 2), (14, 14), [1787, 1788, 1789]), ((14, 106, 11), (0, 127, 0), (14, 14), [360, 361, 362]), ((14, 109, 12), (0, 171, 0), (14, 14), [1791, 1792, 1793]), ((14, 112, 12), (0, 181, 2), (14, 14), [1831, 1832, 1833]), ((14, 116, 12), (0, 243, 3), (14, 14), [2079, 2080, 2081]), ((14, 120, 12), (0, 244, 3), (14, 14), [2083, 2084, 2085]), ((14, 123, 12), (0, 247, 3), (14, 14), [2095, 2096, 2097]), ((14, 126, 12), (0, 249, 2), (14, 14), [2103, 2104, 2105]), ((14, 129, 12), (0, 250, 2), (14, 14), [2107, 2108, 2109]), ((14, 132, 12), (0, 251, 2), (14, 14), [2111, 2112, 2113]), ((14, 135, 12), (0, 252, 2), (14, 14), [2115, 2116, 2117]), ((14, 139, 12), (0, 253, 2), (14, 14), [2119, 2120, 2121]), ((14, 142, 12), (0, 254, 1), (14, 14), [2123, 2124, 2125]), ((14, 145, 12), (0, 255, 1), (14, 14), [2127, 2128, 2129]), ((14, 149, 12), (0, 256, 0), (14, 14), [2131, 2132, 2133]), ((14, 152, 12), (0, 257, 1), (14, 14), [2135, 2136, 2137]), ((14, 155, 12), (0, 258, 2), (14, 14), [2139, 2140, 2141]), ((14, 158, 12), (0, 259, 2), (14, 14), [2143, 2144, 2145]), ((14, 161, 12), (0, 260, 1), (14, 14), [2147, 2148, 2149]), ((12, 110, 12), (1, 167, 1), (12, 12), [1775, 1777, 1776, 1508, 1508]), ((12, 114, 12), (1, 168, 1), (12, 12), [1779, 1781, 1780, 1508, 1508]), ((12, 136, 12), (1, 176, 2), (12, 12), [1811, 1813, 1812, 1508, 1508]), ((12, 140, 12), (1, 173, 0), (12, 12), [1799, 1801, 1800, 1508, 1508]), ((12, 144, 12), (1, 174, 1), (12, 12), [1803, 1805, 1804, 1508, 1508])]
def ma_clh_5 : List ((Nat × Nat × Nat) × (Nat × Nat × Nat) × (Nat × Nat) × List Nat) := [((12, 150, 12), (1, 175, 7), (12, 12), [1807, 1809, 1808, 1508, 1508]), ((12, 157, 12), (1, 177, 2), (12, 12), [1815, 1817, 1816, 1508, 1508]), ((12, 177, 12), (1, 178, 0), (12, 12), [1819, 1821, 1820, 1508, 1508]), ((12, 180, 12), (1, 179, 0), (12, 12), [1823, 1825, 1824, 1508, 1508]), ((12, 196, 12), (1, 172, 0), (12, 12), [1795, 1797, 1796, 1508, 1508]), ((12, 231, 12), (1, 180, 0), (12, 12), [1827, 1829, 1828, 1508, 1508]), ((12, 288, 12), (1, 193, 2), (12, 12), [1879, 1881, 1880, 1508, 1508]), ((12, 294, 12), (1, 192, 2), (12, 12), [1875, 1877, 1876, 1508, 1508]), ((12, 298, 12), (1, 190, 1), (12, 12), [1867, 1869, 1868, 1508, 1508]), ((12, 301, 12), (1, 189, 0), (12, 12), [1863, 1865, 1864, 1508, 1508]), ((12, 304, 12), (1, 191, 0), (12, 12), [1871, 1873, 1872, 1508, 1508]), ((12, 307, 12), (1, 246, 1), (12, 12), [2091, 2093, 2092, 1508, 1508]), ((12, 311, 12), (1, 188, 0), (12, 12), [1859, 1861, 1860, 1508, 1508]), ((12, 314, 12), (1, 196, 1), (12, 12), [1891, 1893, 1892, 1508, 1508]), ((12, 317, 12), (1, 198, 1), (12, 12), [1899, 1901, 1900, 1508, 1508]), ((12, 320, 12), (1, 195, 2), (12, 12), [1887, 1889, 1888, 1508, 1508]), ((12, 324, 12), (1, 197, 1), (12, 12), [1895, 1897, 1896, 1508, 1508]), ((12, 327, 12), (1, 201, 1), (12, 12), [1911, 1913, 1912, 1508, 1508]), ((12, 330, 12), (1, 202, 1), (12, 12), [1915, 1917, 1916, 1508, 1508]), ((12, 333, 12), (1, 203, 1), (12, 12), [1919, 1921, 1920, 1508, 1508]), ((12, 336, 12), (1, 194, 0), (12, 12), [1883, 1885, 1884, 1508, 1508]), ((12, 339, 12), (1, 199, 0), (12, 12), [1903, 1905, 1904, 1508, 1508]), ((12, 342, 12), (1, 200, 0), (12, 12), [1907, 1909, 1908, 1508, 1508]), ((12, 346, 12), (1, 187, 0), (12, 12), [1855, 1857, 1856, 1508, 1508]), ((12, 349, 12), (1, 204, 1), (12, 12), [1923, 1925, 1924, 1508, 1508]), ((12, 352, 12), (1, 205, 2), (12, 12), [1927, 1929, 1928, 1508, 1508]), ((12, 365, 12), (1, 207, 1), (12, 12), [1935, 1937, 1936, 1508, 1508]), ((12, 368, 12), (1, 208, 0), (12, 12), [1939, 1941, 1940, 1508, 1508]), ((12, 371, 12), (1, 209, 1), (12, 12), [1943, 1945, 1944, 1508, 1508]), ((12, 375, 12), (1, 213, 2), (12, 12), [1959, 1961, 1960, 1508, 1508]), ((12, 378, 12), (1, 212, 0), (12, 12), [1955, 1957, 1956, 1508, 1508]), ((12, 381, 12), (1, 215, 0), (12, 12), [1967, 1969, 1968, 1508, 1508]), ((12, 384, 12), (1, 211, 0), (12, 12), [1951, 1953, 1952, 1508, 1508]), ((12, 387, 12), (1, 216, 1), (12, 12), [1971, 1973, 1972, 1508, 1508]), ((12, 393, 12), (1, 242, 1), (12, 12), [2075, 2077, 2076, 1508, 1508]), ((12, 396, 12), (1, 221, 1), (12, 12), [1991, 1993, 1992, 1508, 1508]), ((12, 399, 12), (1, 220, 0), (12, 12), [1987, 1989, 1988, 1508, 1508]), ((12, 402, 12), (1, 222, 1), (12, 12), [1995, 1997, 1996, 1508, 1508]), ((12, 405, 12), (1, 223, 0), (12, 12), [1999, 2001, 2000, 1508, 1508]), ((12, 408, 12), (1, 219, 0), (12, 12), [1983, 1985, 1984, 1508, 1508]), ((12, 411, 12), (1, 230, 0), (12, 12), [2027, 2029, 2028, 1508, 1508]), ((12, 414, 12), (1, 236, 0), (12, 12), [2051, 2053, 2052, 1508, 1508]), ((12, 417, 12), (1, 234, 0), (12, 12), [2043, 2045, 2044, 1508, 1508]), ((12, 423, 12), (1, 226, 2), (12, 12), [2011, 2013, 2012, 1508, 1508]), ((12, 426, 12), (1, 225, 3), (12, 12), [2007, 2009, 2008, 1508, 1508]), ((12, 430, 12), (1, 227, 1), (12, 12), [2015, 2017, 2016, 1508, 1508]), ((12, 433, 12), (1, 228, 2), (12, 12), [2019, 2021, 2020, 1508, 1508]), ((12, 436, 12), (1, 224, 1), (12, 12), [2003, 2005, 2004, 1508, 1508]), ((12, 439, 12), (1, 218, 0), (12, 12), [1979, 1981, 1980, 1508, 1508]), ((12, 442, 12), (1, 229, 0), (12, 12), [2023, 2025, 2024, 1508, 1508]), ((12, 445, 12), (1, 185, 2), (12, 12), [1847, 1849, 1848, 1508, 1508]), ((12, 448, 12), (1, 214, 0), (12, 12), [1963, 1965, 1964, 1508, 1508]), ((12, 451, 12), (1, 232, 1), (12, 12), [2035, 2037, 2036, 1508, 1508]), ((12, 454, 12), (1, 233, 0), (12, 12), [2039, 2041, 2040, 1508, 1508]), ((12, 457, 12), (1, 235, 0), (12, 12), [2047, 2049, 2048, 1508, 1508]), ((12, 460, 12), (1, 186, 0), (12, 12), [1851, 1853, 1852, 1508, 1508]), ((12, 463, 12), (1, 206, 0), (12, 12), [1931, 1933, 1932, 1508, 1508]), ((12, 466, 12), (1, 210, 1), (12, 12), [1947, 1949, 1948, 1508, 1508]), ((12, 469, 12), (1, 217, 1), (12, 12), [1975, 1977, 1976, 1508, 1508]), ((12, 472, 12), (1, 231, 1), (12, 12), [2031, 2033, 2032, 1508, 1508]), ((12, 475, 12), (1, 237, 1), (12, 12), [2055, 2057, 2056, 1508, 1508]), ((12, 478, 12), (1, 184, 1), (12, 12), [1843, 1845, 1844, 1508, 1508]), ((12, 481, 12), (1, 238, 2), (12, 12), [2059, 2061, 2060, 1508, 1508]), ((12, 484, 12), (1, 239, 1), (12, 12), [2063, 2065, 2064, 1508, 1508]), ((12, 487, 12), (1, 240, 2), (12, 12), [2067, 2069, 2068, 1508, 1508]), ((12, 490, 12), (1, 241, 1), (12, 12), [2071, 2073, 2072, 1508, 1508]), ((12, 493, 12), (1, 182, 1), (12, 12), [1835, 1837, 1836, 1508, 1508]), ((12, 496, 12), (1, 183, 3), (12, 12), [1839, 1841, 1840, 1508, 1508]), ((12, 499, 12), (1, 245, 1), (12, 12), [2087, 2089, 2088, 1508, 1508]), ((12, 502, 12), (1, 248, 1), (12, 12), [2099, 2101, 2100, 1508, 1508])]
def ma_clh_6 : List ((Nat × Nat × Nat) × (Nat × Nat × Nat) × (Nat × Nat) × List Nat) := [((12, 505, 12), (1, 261, 0), (12, 12), [2151, 2153, 2152, 1508, 1508]), ((17, 335, 17), (0, 278, 0), (17, 17), [385, 386, 387]), ((17, 492, 17), (0, 280, 0), (17, 17), [395, 396, 397]), ((17, 495, 0), (5, 282, 2), (17, 17), [399, 400]), ((17, 1059, 0), (5, 283, 3), (17, 17), [407, 408]), ((18, 9, 0), (5, 281, 2), (18, 18), [402, 403])]
def ma_clh : List ((Nat × Nat × Nat) × (Nat × Nat × Nat) × (Nat × Nat) × List Nat) := ma_clh_0 ++ ma_clh_1 ++ ma_clh_2 ++ ma_clh_3 ++ ma_clh_4 ++ ma_clh_5 ++ ma_clh_6
set_option maxRecDepth 20000 in
theorem ma_clh_ok0 : ma_clh_0.all ma_clc = true := by decide +kernel
set_option maxRecDepth 20000 in
theorem ma_clh_ok1 : ma_clh_1.all ma_clc = true := by decide +kernel
set_option maxRecDepth 20000 in
theorem ma_clh_ok2 : ma_clh_2.all ma_clc = true := by decide +kernel
set_option maxRecDepth 20000 in
theorem ma_clh_ok3 : ma_clh_3.all ma_clc = true := by decide +kernel
set_option maxRecDepth 20000 in
theorem ma_clh_ok4 : ma_clh_4.all ma_clc = true := by decide +kernel
set_option maxRecDepth 20000 in
theorem ma_clh_ok5 : ma_clh_5.all ma_clc = true := by decide +kernel
set_option maxRecDepth 20000 in
theorem ma_clh_ok6 : ma_clh_6.all ma_clc = true := by decide +kernel
theorem ma_clh_ok : ∀ q ∈ ma_clh, ma_clc q = true := by
  intro q hq
  simp only [ma_clh, List.mem_append] at hq
  rcases hq with (((((hq | hq) | hq) | hq) | hq) | hq) | hq
  · exact List.all_eq_true.mp ma_clh_ok0 q hq
  · exact List.all_eq_true.mp ma_clh_ok1 q hq
  · exact List.all_eq_true.mp ma_clh_ok2 q hq
  · exact List.all_eq_true.mp ma_clh_ok3 q hq
  · exact List.all_eq_true.mp ma_clh_ok4 q hq
  · exact List.all_eq_true.mp ma_clh_ok5 q hq
  · exact List.all_eq_true.mp ma_clh_ok6 q hq
end
section
/-! THE SMALL MACHINE, part 6: what lies outside the world; a method's contract; behind a call -/
/-- the constant texts: class, pool entry, text, number -/
def ma_txr : List (String × Nat × String × Nat) := [("CollectorHouse", 301, "sweep", 0), ("CollectorHouse", 307, "slide", 1), ("CollectorHouse", 309, "halves", 2), ("CollectorHouse", 311, "ages", 3), ("CollectorHouse", 313, "counts", 4), ("CollectorHouse", 315, "steps", 5), ("CollectorHouse", 317, "regions", 6), ("CollectorHouse", 319, "rf", 7), ("CollectorHouse", 321, "\x72", 8), ("CollectorHouse", 323, "rrac", 9), ("CollectorHouse", 325, "rftb", 10), ("CollectorHouse", 327, "rzs", 11), ("CollectorHouse", 329, "", 12), ("CollectorHouse", 346, "first", 13), ("CollectorHouse", 348, "next", 14), ("CollectorHouse", 350, "best", 15), ("CollectorHouse", 352, "worst", 16), ("CollectorHouse", 354, "picture", 17), ("CollectorHouse", 356, "news", 18)]
def ma_txl : List Nat := [5, 5, 6, 4, 6, 5, 7, 2, 1, 4, 4, 3, 0, 5, 4, 4, 5, 7, 4]
def ma_txb : List (List Int32) := [[115, 119, 101, 101, 112], [115, 108, 105, 100, 101], [104, 97, 108, 118, 101, 115], [97, 103, 101, 115], [99, 111, 117, 110, 116, 115], [115, 116, 101, 112, 115], [114, 101, 103, 105, 111, 110, 115], [114, 102], [114], [114, 114, 97, 99], [114, 102, 116, 98], [114, 122, 115], [], [102, 105, 114, 115, 116], [110, 101, 120, 116], [98, 101, 115, 116], [119, 111, 114, 115, 116], [112, 105, 99, 116, 117, 114, 101], [110, 101, 119, 115]]
/-- the static of which only 'a reference or null' is said: behind the script's end X says which -/
def ma_fm (X : Nat × (Nat → Int32)) : Option Nat := if X.2 X.1 = 0 then none else some 29
def ma_Xt (X : Nat × (Nat → Int32)) (ad : Nat → Nat) (A : Nat → Prop) (U : State) (H : Heap) : Prop :=
  (vx_Zq Bundle.tN "UNASSIGNED_STACK" Bundle.steD A U H ∧ vx_Zq Bundle.tN "SUPPRESSED_SENTINEL" Bundle.listD A U H) ∧ (va_X (ad 30) X.1 X.2 U H ∧ ¬ A (ad 30) ∧ ad 30 < H.size) ∧
  (vk_S 19 ma_txl ma_txb ad (fun i => ad (32 + i)) A U H ∧ (∀ q ∈ ma_txr, vk_R q.1 q.2.1 q.2.2.1 (ad q.2.2.2) U) ∧ va_Z "java/lang/String" "COMPACT_STRINGS" "Z" (.int 1) A U H ∧ va_Z "jdk/internal/util/Preconditions" "SIOOBE_FORMATTER" "Ljava/util/function/BiFunction;" (va_rf ((ma_fm X).map ad)) A U H)
theorem ma_Xt.warm {X : Nat × (Nat → Int32)} {ad : Nat → Nat} {A : Nat → Prop} {s U : State} {H : Heap} (hW : s.WarmedH U.vm) (h : ma_Xt X ad A s H) : ma_Xt X ad A U H := by
  obtain ⟨⟨h1, h2⟩, ⟨h3, h4⟩, h5, h6, h7, h9⟩ := h
  exact ⟨⟨vx_Zq.moved hW.alike h1, vx_Zq.moved hW.alike h2⟩, ⟨va_X.moved hW.alike h3, h4⟩, vk_S.moved hW.alike h5, fun q hq => vk_R.warm hW (h6 q hq), va_Z.moved hW.alike h7, va_Z.moved hW.alike h9⟩
theorem ma_Xt.calling {X : Nat × (Nat → Int32)} {ad : Nat → Nat} {A : Nat → Prop} {s : State} {H : Heap} (g : JFrame) (mk : MethodId) (a : Array Value) (h : ma_Xt X ad A s H) : ma_Xt X ad A (s.calling g mk a) H := by
  obtain ⟨⟨h1, h2⟩, ⟨h3, h4⟩, h5, h6, h7, h9⟩ := h
  have hv : s.vm.Alike (s.calling g mk a).vm := Vm.Alike.refl s.vm
  exact ⟨⟨vx_Zq.moved hv h1, vx_Zq.moved hv h2⟩, ⟨va_X.moved hv h3, h4⟩, vk_S.moved hv h5, fun q hq => vk_R.same rfl (h6 q hq), va_Z.moved hv h7, va_Z.moved hv h9⟩
theorem ma_Xt.kept {X : Nat × (Nat → Int32)} {ad : Nat → Nat} {A : Nat → Prop} {U : State} {H H1 : Heap} (h : ma_Xt X ad A U H) (hz : H.size ≤ H1.size) (hq : ∀ a : Nat, a < H.size → ¬ A a → H1[a]? = H[a]?) : ma_Xt X ad A U H1 := by
  obtain ⟨⟨h1, h2⟩, ⟨h3, h4, h8⟩, h5, h6, h7, h9⟩ := h
  exact ⟨⟨vx_Zq.kept h1 hq, vx_Zq.kept h2 hq⟩, ⟨va_X.kept h3 (hq _ h8 h4), h4, Nat.lt_of_lt_of_le h8 hz⟩, vk_S.kept h5 hq, h6, va_Z.kept h7 hq, va_Z.kept h9 hq⟩
theorem ma_Xt.narrow {X : Nat × (Nat → Int32)} {ad : Nat → Nat} {A B : Nat → Prop} {U : State} {H : Heap} (h : ma_Xt X ad A U H) (hAB : ∀ q, B q → A q) : ma_Xt X ad B U H := by
  obtain ⟨⟨h1, h2⟩, ⟨h3, h4, h8⟩, h5, h6, h7, h9⟩ := h
  exact ⟨⟨vx_Zq.narrow h1 hAB, vx_Zq.narrow h2 hAB⟩, ⟨h3, fun z => h4 (hAB _ z), h8⟩, vk_S.narrow h5 hAB, h6, va_Z.narrow h7 hAB, va_Z.narrow h9 hAB⟩
theorem ma_Xt.ad {X : Nat × (Nat → Int32)} {ad ad' : Nat → Nat} {A : Nat → Prop} {U : State} {H : Heap} (h : ma_Xt X ad A U H) (ha : ∀ b, b < 64 → ad' b = ad b) : ma_Xt X ad' A U H := by
  obtain ⟨⟨h1, h2⟩, ⟨h3, h4, h8⟩, h5, h6, h7, h9⟩ := h
  have hlt : ∀ q ∈ ma_txr, q.2.2.2 < 64 := by decide +kernel
  refine ⟨⟨h1, h2⟩, ⟨by rw [ha 30 (by omega)]; exact h3, by rw [ha 30 (by omega)]; exact h4, by rw [ha 30 (by omega)]; exact h8⟩, ?_, fun q hq => by rw [ha _ (hlt q hq)]; exact h6 q hq, h7, ?_⟩
  rotate_left
  · have : (ma_fm X).map ad' = (ma_fm X).map ad := by
      unfold ma_fm
      split
      · rfl
      · show some (ad' 29) = some (ad 29); rw [ha 29 (by omega)]
    rw [this]; exact h9
  refine ⟨fun i hi => ?_, fun i j hi hj => ?_⟩
  · have := h5.1 i hi
    simp only [ha i (by omega), ha (32 + i) (by omega)]
    exact this
  · rw [ha i (by omega), ha j (by omega)]; exact h5.2 i j hi hj
/-- a method's start: its arguments, the world, what lies outside -/
def ma_Pc (X : Nat × (Nat → Int32)) (D : va_G) (kA : Nat → ClassId) (ad : Nat → Nat) (S : ma_S) (as : List ma_V) (sz : Nat) : Array Value → State → Prop :=
  va_Pc (ma_ts ad as) (fun U => U.heap.size = sz ∧ va_P D vwCl (ma_wl kA ad S) U.heap ∧ va_K D vwCl (ma_tys kA) U ∧ va_D (fun _ => True) (ma_wl kA ad S) ∧ ma_Nx U ∧ ma_Xt X ad (va_A (ma_wl kA ad S) sz) U U.heap)
/-- the world behind -/
def ma_B (D : va_G) (kA : Nat → ClassId) (ad : Nat → Nat) (S S' : ma_S) (st t : State) (ad' : Nat → Nat) : Prop :=
  (∀ b, b < mN S → ad' b = ad b) ∧ va_P D vwCl (ma_wl kA ad' S') t.heap ∧ va_D (va_A (ma_wl kA ad S) st.heap.size) (ma_wl kA ad' S') ∧ va_F (va_A (ma_wl kA ad S) st.heap.size) st t
def ma_Qc (D : va_G) (kA : Nat → ClassId) (ad : Nat → Nat) (S S' : ma_S) (v : Option ma_V) : Array Value → State → Outcome → State → Prop := fun _ st oc t =>
  ∃ ad' : Nat → Nat, oc = .returned (v.map (ma_tv ad')) ∧ ma_B D kA ad S S' st t ad'
def ma_Qx (D : va_G) (kA : Nat → ClassId) (ad : Nat → Nat) (S S' : ma_S) (E : String) : String → State → State → Prop := fun E' st t => E' = E ∧ ∃ ad' : Nat → Nat, ma_B D kA ad S S' st t ad'
theorem ma_Pc_blind {X : Nat × (Nat → Int32)} {D : va_G} {kA : Nat → ClassId} {ad : Nat → Nat} {S : ma_S} {as : List ma_V} {sz : Nat} : FrameBlind (ma_Pc X D kA ad S as sz) := by
  intro a U g mk h
  obtain ⟨h1, h2, h3, h4, h5, h6, h7⟩ := h
  exact ⟨h1, h2, h3, va_K.moved (u := U) (U := U.calling g mk a) (Vm.Alike.refl U.vm) h4, h5, h6.calling g mk a, h7.calling g mk a⟩
section MA6
variable {p : Program} {l : Launch} {e : Env} {R : Room} {s : State} {m : MethodId} {args : Array Value} {below : List Frame} {meth : Method} {c : Code} {H H0 : Heap} {locs : List Loc} {cells slots : Nat} {Q : State → Prop} {pc : Nat} {ls : Array Slot} {rest st0 : List Value} {mc ms : Nat} {a : Array Value} {free : Addr → Prop} {A : Nat → Prop} {X : Nat × (Nat → Int32)} {D : va_G} {kA : Nat → ClassId} {ad : Nat → Nat} {S S' : ma_S} {v : Option ma_V}
theorem ma_free (hD : va_D A (ma_wl kA ad S)) (hS : va_S A H0 H locs) (hA : ∀ q, H0.size ≤ q → A q) : ∀ q, va_A (ma_wl kA ad S) H.size q → A q := by
  intro q h
  rcases h with ⟨k, e, h⟩ | h
  · exact hD.2 k (q, e) h
  · exact hA q (Nat.le_trans hS.1 h)
theorem ma_behind {st₀ t T' : State} {L : List Loc} {ad' : Nat → Nat} (h0 : st₀.heap = H) (e1 : T'.heap = t.heap) (hB : ma_B D kA ad S S' st₀ t ad') (hS : va_S A H0 H locs) (hF : ∀ q, va_A (ma_wl kA ad S) H.size q → A q) (hL : ∀ q ∈ L, va_A (ma_wl kA ad S) H.size q.base) :
    (∀ b, b < mN S → ad' b = ad b) ∧ va_P D vwCl (ma_wl kA ad' S') T'.heap ∧ va_D A (ma_wl kA ad' S') ∧ va_S A H0 T'.heap (locs ++ L) := by
  obtain ⟨b1, b2, b3, b4, b5⟩ := hB
  rw [h0] at b3 b4 b5
  refine ⟨b1, by rw [e1]; exact b2, b3.weaken (fun k q _ h => hF q.1 h), Nat.le_trans hS.1 (by rw [e1]; exact b4), fun q h1 h2 => ?_, fun q hq => ?_⟩
  · rw [e1, b5 q (Nat.lt_of_lt_of_le h1 hS.1) (fun z => h2 (hF q z))]
    exact hS.2.1 q h1 h2
  · rcases List.mem_append.mp hq with h | h
    · exact hS.2.2 q h
    · exact hF _ (hL q h)
/-- behind a call that comes back -/
theorem ma_called (hr : va_Run p l e R s m args below meth c H locs cells slots mc ms (F0 m pc ls st0) rest (ma_Qc D kA ad S S' v a) (va_A (ma_wl kA ad S) H.size)) (hD : va_D A (ma_wl kA ad S)) (hS : va_S A H0 H locs) (hA : ∀ q, H0.size ≤ q → A q)
    (kk : ∀ (ad' : Nat → Nat) (H1 : Heap) (locs1 : List Loc), (∀ b, b < mN S → ad' b = ad b) → va_P D vwCl (ma_wl kA ad' S') H1 → va_D A (ma_wl kA ad' S') → va_S A H0 H1 locs1 → W p l e R s m args below meth c H1 locs1 (cells + mc) (slots + ms) Q (F0 m (pc + 3) ls ((v.map (ma_tv ad')).toList ++ rest))) : W p l e R s m args below meth c H locs cells slots Q (F0 m pc ls st0) := by
  intro T hT X'
  obtain ⟨w, st₀, t, T', L, h0, X', hL, e1, e2, ⟨ad', hv, hB⟩, st⟩ := hr T hT X'
  cases hv
  obtain ⟨b1, b2, b3, b4⟩ := ma_behind h0 e1 hB hS (ma_free hD hS hA) hL
  obtain ⟨t2, a1, a2⟩ := kk ad' T'.heap (locs ++ L) b1 b2 b3 b4 T' rfl X'
  exact ⟨t2, st t2 a1, a2⟩
/-- behind a call that throws -/
theorem ma_threw {E : String} (hr : vx_Run p l e R s m args below meth c H locs cells slots mc ms (F0 m pc ls st0) rest (fun _ _ _ => False) (ma_Qx D kA ad S S' E) (va_A (ma_wl kA ad S) H.size)) (hD : va_D A (ma_wl kA ad S)) (hS : va_S A H0 H locs) (hA : ∀ q, H0.size ≤ q → A q)
    (kk : ∀ (ad' : Nat → Nat) (H1 : Heap) (locs1 : List Loc) (q : Addr) (ce : Cell), (∀ b, b < mN S → ad' b = ad b) → va_P D vwCl (ma_wl kA ad' S') H1 → va_D A (ma_wl kA ad' S') → va_S A H0 H1 locs1 → H1[q]? = some ce → ce.vm = .none → s.vm.findClass E = some ce.cls → vx_W p l e R s m args below meth c H1 locs1 (cells + mc) (slots + ms) Q (F0 m pc ls rest) q) : W p l e R s m args below meth c H locs cells slots Q (F0 m pc ls st0) := by
  intro T hT X'
  rcases hr T hT X' with ⟨_, _, _, _, _, _, _, _, _, _, hf, _⟩ | ⟨q, st₀, t, T', L, E', ce, h0, X', hL, e1, e2, ⟨rfl, ad', hB⟩, hce, hcv, hcl, st⟩
  · exact hf.elim
  · obtain ⟨b1, b2, b3, b4⟩ := ma_behind h0 e1 hB hS (ma_free hD hS hA) hL
    obtain ⟨t2, a1, a2⟩ := kk ad' T'.heap (locs ++ L) q ce b1 b2 b3 b4 (by rw [e1]; exact hce) hcv hcl T' rfl X'
    exact ⟨t2, st.trans a1, a2⟩
end MA6
end
section
/-! THE SMALL MACHINE, part 6b: constant texts, as the library's own methods read them -/
def ma_txi (o i : Nat) : Option Nat := if o = 11 then (ma_txr.find? (fun q => q.2.1 == i)).map (fun q => q.2.2.2) else none
theorem ma_txr_own : ∀ q ∈ ma_txr, q.1 = "CollectorHouse" ∧ q.2.2.2 < 19 := by decide +kernel
theorem ma_tw0 : Cond.fieldLink "java/lang/String" 9 "java/lang/String" "value" "[B" ∈ ma_TB := ma_T10 (i := 14) (by decide +kernel) (by decide +kernel)
theorem ma_tw1 : Cond.fieldLink "java/lang/String" 15 "java/lang/String" "coder" "B" ∈ ma_TB := ma_T10 (i := 15) (by decide +kernel) (by decide +kernel)
theorem ma_tw2 : Cond.fieldLink "java/lang/String" 38 "java/lang/String" "COMPACT_STRINGS" "Z" ∈ ma_TB := ma_T2 (i := 149) (by decide +kernel) (by decide +kernel)
theorem ma_tw3 : Cond.fieldLink "java/lang/String" 1053 "jdk/internal/util/Preconditions" "SIOOBE_FORMATTER" "Ljava/util/function/BiFunction;" ∈ ma_TB := ma_T2 (i := 165) (by decide +kernel) (by decide +kernel)
def ma_tx (X : Nat × (Nat → Int32)) (o : Nat) (i : Instr) (n : Nat) (st : List ma_V) : Option (List ma_V) := match i, n, st with
  | .ldc_w x, 3, r => (ma_txi o x).map (fun t => .inr (.inr (some t)) :: r)
  | .getfield x, 3, .inr (.inr (some c)) :: r => if o = 17 ∧ c < 19 then (if x = 9 then some (.inr (.inr (some (32 + c))) :: r) else if x = 15 then some (.inl 0 :: r) else none) else none
  | .getstatic x, 3, r => if o = 17 ∧ x = 38 then some (.inl 1 :: r) else if o = 17 ∧ x = 1053 then some (.inr (.inr (ma_fm X)) :: r) else none
  | .arraylength, 1, .inr (.inr (some c)) :: r => if 32 ≤ c ∧ c < 32 + 19 then some (.inl (Int32.ofNat (ma_txl.getD (c - 32) 0)) :: r) else none
  | .baload, 1, .inl j :: .inr (.inr (some c)) :: r => if 32 ≤ c ∧ c < 32 + 19 ∧ 0 ≤ j ∧ j.toNatClampNeg < ma_txl.getD (c - 32) 0 then some (.inl ((ma_txb.getD (c - 32) []).getD j.toNatClampNeg 0) :: r) else none
  | _, _, _ => none
theorem ma_tx_cs {X : Nat × (Nat → Int32)} {N o n : Nat} {i : Instr} {st st' : List ma_V} (hN : 64 ≤ N) (hc : ma_cs N st) (h : ma_tx X o i n st = some st') : ma_cs N st' := by
  unfold ma_tx at h
  split at h
  · next r x =>
    cases ht : ma_txi o x with
    | none => rw [ht] at h; cases h
    | some t =>
      rw [ht] at h
      cases h
      unfold ma_txi at ht
      split at ht
      · cases hf : ma_txr.find? (fun q => q.2.1 == x) with
        | none => rw [hf] at ht; cases ht
        | some q =>
          rw [hf] at ht
          have hk : q.2.2.2 = t := Option.some.inj ht
          have := (ma_txr_own q (List.mem_of_find?_eq_some hf)).2
          exact ma_cs_cons (fun b hb => by cases hb; omega) hc
      · cases ht
  · split at h
    · next hcc =>
      split at h
      · cases h; exact ma_cs_cons (fun b hb => by cases hb; omega) (ma_cs_tl hc)
      · split at h
        · cases h; exact ma_cs_cons ma_cv_i (ma_cs_tl hc)
        · cases h
    · cases h
  · split at h
    · cases h; exact ma_cs_cons ma_cv_i hc
    · split at h
      · cases h
        refine ma_cs_cons (fun b hb => ?_) hc
        have hb : ma_fm X = some b := Sum.inr.inj (Sum.inr.inj hb)
        unfold ma_fm at hb
        split at hb
        · cases hb
        · cases hb; omega
      · cases h
  · split at h
    · cases h; exact ma_cs_cons ma_cv_i (ma_cs_tl hc)
    · cases h
  · split at h
    · cases h; exact ma_cs_cons ma_cv_i (ma_cs_tl (ma_cs_tl hc))
    · cases h
  · cases h
section MA6b
variable {p : Program} {l : Launch} {e : Env} {R : Room} {s : State} {m : MethodId} {args : Array Value} {below : List Frame} {meth : Method} {c : Code} {H : Heap} {locs : List Loc} {cells slots : Nat} {Q : State → Prop} {cc : ByteArray} {pc : Nat} {ls : Array Slot} {ad : Nat → Nat} {A : Nat → Prop}
theorem ma_tx_ok (hx : p.tables.exec = Jvm.exec) (hb : c.code = cc) {X : Nat × (Nat → Int32)} {o n : Nat} {i : Instr} {st st' : List ma_V} (hown : s.vm.findClass (ma_cn o) = some m.cls) (hts : ∀ w ∈ ma_TB, w.before args s = true)
    (hT : vk_S 19 ma_txl ma_txb ad (fun i => ad (32 + i)) A s s.heap ∧ (∀ q ∈ ma_txr, vk_R q.1 q.2.1 q.2.2.1 (ad q.2.2.2) s) ∧ va_Z "java/lang/String" "COMPACT_STRINGS" "Z" (.int 1) A s s.heap ∧ va_Z "jdk/internal/util/Preconditions" "SIOOBE_FORMATTER" "Ljava/util/function/BiFunction;" (va_rf ((ma_fm X).map ad)) A s s.heap) (hS : va_S A s.heap H locs) (hd : decode cc pc = .ok (i, n)) (h : ma_tx X o i n st = some st')
    (k : W p l e R s m args below meth c H locs cells slots Q (F0 m (pc + n) ls (ma_ts ad st'))) : W p l e R s m args below meth c H locs cells slots Q (F0 m pc ls (ma_ts ad st)) := by
  obtain ⟨hT1, hT2, hT3, hT4⟩ := hT
  unfold ma_tx at h
  split at h
  · next r x =>
    cases ht : ma_txi o x with
    | none => rw [ht] at h; cases h
    | some t =>
      rw [ht] at h
      cases h
      unfold ma_txi at ht
      split at ht
      · next ho =>
        cases hf : ma_txr.find? (fun q => q.2.1 == x) with
        | none => rw [hf] at ht; cases ht
        | some q =>
          rw [hf] at ht
          have hk : q.2.2.2 = t := Option.some.inj ht
          have hq := List.mem_of_find?_eq_some hf
          have hxi : q.2.1 = x := by have := List.find?_some hf; simpa using this
          have hR := hT2 q hq
          rw [(ma_txr_own q hq).1, hxi, hk] at hR
          subst ho
          intro T hTh X'
          obtain ⟨t2, a1, b1⟩ := k T hTh X'
          exact ⟨t2, Jvm.RoadKit.ldcWS X' hx (own := "CollectorHouse") hown (text := q.2.2.1) (a := ad t) hR.1 hR.2 (g := F0 m pc ls (ma_ts ad st)) rfl (by rw [hb]; exact hd) t2 a1, b1⟩
      · cases ht
  · next x cx r =>
    split at h
    · next hcc =>
      obtain ⟨ho, hcx⟩ := hcc
      subst ho
      obtain ⟨g1, g2, g3, g4⟩ := hT1.1 cx hcx
      split at h
      · next hxx =>
        subst hxx
        cases h
        exact vk_getf hx hb g3 hS hown (hts _ ma_tw0) (fun _ z => z) hd k
      · split at h
        · next hxx =>
          subst hxx
          cases h
          exact vk_getf hx hb g2 hS hown (hts _ ma_tw1) (fun _ z => z) hd k
        · cases h
    · cases h
  · next r x =>
    split at h
    · next hcc =>
      obtain ⟨ho, hxx⟩ := hcc
      subst ho
      subst hxx
      cases h
      exact va_gets hx hb hT3 hS hown (hts _ ma_tw2) (fun _ z => z) hd k
    · split at h
      · next hcc =>
        obtain ⟨ho, hxx⟩ := hcc
        subst ho
        subst hxx
        cases h
        exact va_gets hx hb hT4 hS hown (hts _ ma_tw3) (fun _ z => z) hd k
      · cases h
  · next cx r =>
    split at h
    · next hcc =>
      cases h
      obtain ⟨g1, g2, g3, g4⟩ := hT1.1 (cx - 32) (by omega)
      have e1 : 32 + (cx - 32) = cx := by omega
      simp only [e1] at g4
      exact va_tlen hx hb g4 hS rfl hd k
    · cases h
  · next j cx r =>
    split at h
    · next hcc =>
      cases h
      obtain ⟨g1, g2, g3, g4⟩ := hT1.1 (cx - 32) (by omega)
      have e1 : 32 + (cx - 32) = cx := by omega
      simp only [e1] at g4
      exact va_tb hx hb g4 hS (fun q => by rcases q with q | q; exact absurd hcc.2.2.1 (Int32.not_le.mpr q); omega) rfl hd k
    · cases h
  · cases h
end MA6b
end
section
/-! THE SMALL MACHINE, part 7: the script, the library's own few, and one step of any kind but a call -/
def ma_sz (st : List ma_V) : Nat := (st.map (fun v => if ma_2 v then 2 else 1)).sum
theorem ma_sz_ts (ad : Nat → Nat) (st : List ma_V) : ((ma_ts ad st).map fun v => v.category).sum = ma_sz st := by
  unfold ma_ts ma_sz
  rw [List.map_map]
  congr 1
  apply List.map_congr_left
  intro v _
  exact ma_cat ad v
def ma_sc (X : Nat × (Nat → Int32)) (i : Instr) (n : Nat) (st : List ma_V) : Option (List ma_V) := match i, n, st with
  | .iaload, 1, .inl j :: .inr (.inr (some 30)) :: r => if decide (0 ≤ j) && decide (j.toNatClampNeg < X.1) then some (.inl (X.2 j.toNatClampNeg) :: r) else none
  | .arraylength, 1, .inr (.inr (some 30)) :: r => some (.inl (Int32.ofNat X.1) :: r)
  | _, _, _ => none
/-- pool entries that name Object's constructor (0), Math.max (1), Math.min (2), System.arraycopy (3) -/
def ma_prh : List ((Nat × Nat × Nat) × Nat) := [((11, 3, 0), 35), ((11, 335, 2), 452), ((13, 3, 0), 144), ((4, 22, 2), 492), ((7, 3, 0), 43), ((7, 116, 1), 761), ((7, 122, 3), 764), ((9, 1, 0), 1016), ((10, 3, 0), 110), ((12, 7, 0), 1512)]
def ma_prn (k : Nat) : MethodName := match k with
  | 0 => Lib.objectInit
  | 1 => Lib.Math.max.name
  | 2 => Lib.Math.min.name
  | _ => arraycopyName
theorem ma_prh_ok : ∀ q ∈ ma_prh, ma_w q.2 (.methodLink (ma_cn q.1.1) q.1.2.1 (ma_prn q.1.2.2)) = true := List.all_eq_true.mp (by decide +kernel)
def ma_prt (o i : Nat) : Option Nat := (ma_prh.find? (fun q => q.1.1 == o && q.1.2.1 == i)).map (fun q => q.1.2.2)
theorem ma_prt_spec {o i k : Nat} (h : ma_prt o i = some k) : Cond.methodLink (ma_cn o) i (ma_prn k) ∈ ma_TB := by
  unfold ma_prt at h
  cases hf : ma_prh.find? (fun q => q.1.1 == o && q.1.2.1 == i) with
  | none => rw [hf] at h; cases h
  | some q =>
    rw [hf] at h
    have hk : q.1.2.2 = k := Option.some.inj h
    have h1 := List.find?_some hf
    simp only [Bool.and_eq_true, beq_iff_eq] at h1
    have h2 := ma_prh_ok q (List.mem_of_find?_eq_some hf)
    rw [hk, h1.1, h1.2] at h2
    exact ma_w_in h2
theorem ma_pw0 : Cond.instanceMethod Lib.objectInit ∈ ma_TB := ma_T1 (i := 36) (by decide +kernel) (by decide +kernel)
theorem ma_pw1 : Cond.code Lib.objectInit ⟨#[0xb1]⟩ 1 none ∈ ma_TB := ma_T1 (i := 37) rfl rfl
theorem ma_pw2 : Cond.native arraycopyName ∈ ma_TB := ma_T4 (i := 46) (by decide +kernel) (by decide +kernel)
theorem ma_pw3 : Cond.static arraycopyName ∈ ma_TB := ma_T4 (i := 45) (by decide +kernel) (by decide +kernel)
theorem ma_pw4 : Cond.initialized "java/lang/System" ∈ ma_TB := ma_T1 (i := 25) (by decide +kernel) (by decide +kernel)
theorem ma_pw5 : Cond.static Lib.Math.max.name ∈ ma_TB := ma_T4 (i := 42) (by decide +kernel) (by decide +kernel)
theorem ma_pw6 : Cond.initialized "java/lang/Math" ∈ ma_TB := ma_T1 (i := 23) (by decide +kernel) (by decide +kernel)
theorem ma_pw7 : Cond.code Lib.Math.max.name Lib.Math.max.code 2 (some .int) ∈ ma_TB := ma_T4 (i := 43) rfl rfl
theorem ma_pw8 : Cond.static Lib.Math.min.name ∈ ma_TB := ma_T2 (i := 213) (by decide +kernel) (by decide +kernel)
theorem ma_pw9 : Cond.code Lib.Math.min.name Lib.Math.min.code 2 (some .int) ∈ ma_TB := ma_T2 (i := 214) rfl rfl
def ma_cp (S : ma_S) (c : Nat) (f : Nat → Int32) : ma_S := (S.1, S.2.1, S.2.2.1, S.2.2.2.1, ma_uc (mI S) c f, mL S, mR S)
def ma_pr (o d w : Nat) (i : Instr) (n : Nat) (st : List ma_V) (S : ma_S) : Option (List ma_V × ma_S) := match i, n, st with
  | .invokespecial x, 3, .inr (.inr (some c)) :: r => if decide (ma_prt o x = some 0) && decide (1 ≤ d) && decide (ma_sz r + 12 ≤ w) then some (r, S) else none
  | .invokestatic x, 3, .inl z :: .inl y :: .inr (.inr (some c)) :: .inl a :: .inr (.inr (some c0)) :: r => if decide (ma_prt o x = some 3) && decide (1 ≤ d) && decide (ma_sz r + (nativeFrameWords "java/lang/System" "arraycopy" 5 + 11) ≤ w) && ma_is S c && ma_is S c0 && decide ((mH S c).1 = 20) && decide ((mH S c0).1 = 20) && decide (0 ≤ a) && decide (0 ≤ y) && decide (0 ≤ z) && decide (a.toNatClampNeg + z.toNatClampNeg ≤ (mH S c0).2) && decide (y.toNatClampNeg + z.toNatClampNeg ≤ (mH S c).2) then some (r, ma_cp S c (va_cpy (mI S c0) (mI S c) a.toNatClampNeg y.toNatClampNeg z.toNatClampNeg)) else none
  | .invokestatic x, 3, .inl y :: .inl a :: r => if decide (1 ≤ d) && decide (ma_sz r + 13 ≤ w) then (match ma_prt o x with
    | some 1 => some (.inl (if a < y then y else a) :: r, S)
    | some 2 => some (.inl (if y < a then y else a) :: r, S)
    | _ => none) else none
  | _, _, _ => none
theorem ma_cp_ch {S : ma_S} (h : ma_ch S) (c : Nat) (f : Nat → Int32) : ma_ch (ma_cp S c f) := h
theorem ma_cp_o {kA : Nat → ClassId} {ad : Nat → Nat} {S : ma_S} {c : Nat} {f : Nat → Int32} {c' : Nat} (h : c' ≠ c) : ma_E kA ad (ma_cp S c f) c' = ma_E kA ad S c' := ma_E_congr rfl (if_neg h) rfl rfl
theorem ma_pr_c {o d w n : Nat} {i : Instr} {st st' : List ma_V} {S S' : ma_S} (hh : ma_ch S) (hc : ma_cs (mN S) st) (h : ma_pr o d w i n st S = some (st', S')) : ma_ch S' ∧ ma_cs (mN S') st' ∧ mN S' = mN S ∧ mC S' = mC S ∧ mZ S' = mZ S := by
  unfold ma_pr at h
  split at h
  · split at h
    · cases h; exact ⟨hh, ma_cs_tl hc, rfl, rfl, rfl⟩
    · cases h
  · split at h
    · cases h; exact ⟨hh, ma_cs_tl (ma_cs_tl (ma_cs_tl (ma_cs_tl (ma_cs_tl hc)))), rfl, rfl, rfl⟩
    · cases h
  · split at h
    · split at h
      · cases h; exact ⟨hh, ma_cs_cons ma_cv_i (ma_cs_tl (ma_cs_tl hc)), rfl, rfl, rfl⟩
      · cases h; exact ⟨hh, ma_cs_cons ma_cv_i (ma_cs_tl (ma_cs_tl hc)), rfl, rfl, rfl⟩
      · cases h
    · cases h
  · cases h
section MA7
variable {p : Program} {l : Launch} {e : Env} {R : Room} {s : State} {m : MethodId} {args : Array Value} {below : List Frame} {meth : Method} {c : Code} {H H0 : Heap} {locs : List Loc} {cells slots : Nat} {Q : State → Prop} {cc : ByteArray} {pc : Nat} {ls : Array Slot} {ad : Nat → Nat} {kA : Nat → ClassId} {D : va_G} {A : Nat → Prop}
theorem ma_sc_ok (hx : p.tables.exec = Jvm.exec) (hb : c.code = cc) {X : Nat × (Nat → Int32)} {n : Nat} {i : Instr} {st st' : List ma_V} (hX : va_X (ad 30) X.1 X.2 s H0 ∧ ¬ A (ad 30) ∧ ad 30 < H0.size) (hS : va_S A H0 H locs) (hd : decode cc pc = .ok (i, n)) (h : ma_sc X i n st = some st')
    (k : W p l e R s m args below meth c H locs cells slots Q (F0 m (pc + n) ls (ma_ts ad st'))) : W p l e R s m args below meth c H locs cells slots Q (F0 m pc ls (ma_ts ad st)) := by
  unfold ma_sc at h
  split at h
  · next j r =>
    split at h
    · next hj =>
      simp only [Bool.and_eq_true, decide_eq_true_eq] at hj
      cases h
      exact va_sld hx hb hX.1 hX.2.2 hX.2.1 hS (fun q => by rcases q with q | q; exact absurd hj.1 (Int32.not_le.mpr q); omega) hd k
    · cases h
  · cases h
    exact va_slen hx hb hX.1 hX.2.2 hX.2.1 hS hd k
  · cases h
theorem ma_sc_cs {X : Nat × (Nat → Int32)} {N n : Nat} {i : Instr} {st st' : List ma_V} (hc : ma_cs N st) (h : ma_sc X i n st = some st') : ma_cs N st' := by
  unfold ma_sc at h
  split at h
  · split at h
    · cases h; exact ma_cs_cons ma_cv_i (ma_cs_tl (ma_cs_tl hc))
    · cases h
  · cases h; exact ma_cs_cons ma_cv_i (ma_cs_tl hc)
  · cases h
theorem ma_pr_ok (hx : p.tables.exec = Jvm.exec) (hb : c.code = cc) {o d w n : Nat} {i : Instr} {st st' : List ma_V} {S S' : ma_S} (hml : c.maxLocals = ls.size) (hown : s.vm.findClass (ma_cn o) = some m.cls) (hts : ∀ w ∈ ma_TB, w.before args s = true) (hK : va_K D vwCl (ma_tys kA) s)
    (hR1 : d ≤ R.frames) (hR2 : w ≤ R.locals) (hR3 : cells ≤ R.cells) (hR4 : slots ≤ R.slots) (hP : va_P D vwCl (ma_wl kA ad S) H) (hD : va_D A (ma_wl kA ad S)) (hS : va_S A H0 H locs) (hd : decode cc pc = .ok (i, n)) (h : ma_pr o d w i n st S = some (st', S'))
    (k : ∀ (H1 : Heap) (locs1 : List Loc), va_P D vwCl (ma_wl kA ad S') H1 → va_D A (ma_wl kA ad S') → va_S A H0 H1 locs1 → W p l e R s m args below meth c H1 locs1 cells slots Q (F0 m (pc + n) ls (ma_ts ad st'))) : W p l e R s m args below meth c H locs cells slots Q (F0 m pc ls (ma_ts ad st)) := by
  have is2 : ∀ {c : Nat}, ma_is S c = true → 64 ≤ c ∧ c < mN S := fun hh => by simpa [ma_is] using hh
  unfold ma_pr at h
  split at h
  · next x cx r =>
    split at h
    · next hc =>
      simp only [Bool.and_eq_true, decide_eq_true_eq] at hc
      obtain ⟨⟨g1, g2⟩, g3⟩ := hc
      cases h
      refine W.objInit (g := F0 m pc ls (ma_ts ad (.inr (.inr (some cx)) :: st'))) (a := ad cx) (rest := ma_ts ad st') hx hb hown (hts _ (ma_prt_spec g1)) (hts _ ma_pw0) (hts _ ma_pw1) rfl hml.symm rfl hd (by omega) ?_ (k H locs hP hD hS)
      show 2 * 0 + ((ma_ts ad st').map fun v => v.category).sum + 12 ≤ R.locals
      rw [ma_sz_ts]; omega
    · cases h
  · next x z y cx a c0 r =>
    split at h
    · next hc =>
      simp only [Bool.and_eq_true, decide_eq_true_eq] at hc
      obtain ⟨⟨⟨⟨⟨⟨⟨⟨⟨⟨⟨g1, g2⟩, g3⟩, g4⟩, g5⟩, g6⟩, g7⟩, g8⟩, g9⟩, g10⟩, g11⟩, g12⟩ := hc
      obtain ⟨i1, i2⟩ := is2 g4
      obtain ⟨j1, j2⟩ := is2 g5
      cases h
      have hset : (ma_wl kA ad S).set (cx - 64) (ad cx, .inl (kA 20, (mH S cx).2, .inl (va_cpy (mI S c0) (mI S cx) a.toNatClampNeg y.toNatClampNeg z.toNatClampNeg))) = ma_wl kA ad (ma_cp S cx (va_cpy (mI S c0) (mI S cx) a.toNatClampNeg y.toNatClampNeg z.toNatClampNeg)) := by
        refine ma_wl_set i1 i2 rfl ?_ (fun c' hc' => ma_cp_o hc')
        rw [ma_E_int (S := ma_cp S cx _) (t := 20) g6 (by omega) (by omega)]
        show Sum.inl (kA 20, (mH S cx).2, Sum.inl (ma_uc (mI S) cx _ cx)) = _
        rw [show ∀ f : Nat → Int32, ma_uc (mI S) cx f cx = f from fun f => if_pos rfl]
      have np : ∀ {q : Int32}, 0 ≤ q → ¬ q < 0 := fun hq z => absurd hq (Int32.not_le.mpr z)
      refine va_copyi (ty := .int) hx hb hml hown (hts _ (ma_prt_spec g1)) (hts _ ma_pw2) (hts _ ma_pw3) (hts _ ma_pw4) hK hP hD hS (c0 - 64) (cx - 64) 0 0 ((ma_wl_at j1 j2).trans (by rw [ma_E_int g7 (by omega) (by omega)])) ((ma_wl_at i1 i2).trans (by rw [ma_E_int g6 (by omega) (by omega)])) rfl rfl rfl (np g8) (np g9) (np g10) g11 g12 (fun _ _ => rfl) (by omega) ?_ hd (fun H1 locs1 a1 a2 a3 => k H1 locs1 (hset ▸ a1) (hset ▸ a2) a3)
      have := ma_sz_ts ad st'
      unfold ma_ts at this
      rw [this]; omega
    · cases h
  · next x y a r _ =>
    split at h
    · next hc =>
      simp only [Bool.and_eq_true, decide_eq_true_eq] at hc
      have hsz := ma_sz_ts ad r
      unfold ma_ts at hsz
      split at h
      · next g1 =>
        cases h
        exact va_mmax hx hb hml hown (hts _ (ma_prt_spec g1)) (hts _ ma_pw5) (hts _ ma_pw6) (hts _ ma_pw7) (by omega) (by rw [hsz]; omega) hR3 hR4 hd (k H locs hP hD hS)
      · next g1 =>
        cases h
        exact va_mmin hx hb hml hown (hts _ (ma_prt_spec g1)) (hts _ ma_pw8) (hts _ ma_pw6) (hts _ ma_pw9) (by omega) (by rw [hsz]; omega) hR3 hR4 hd (k H locs hP hD hS)
      · cases h
    · cases h
  · cases h
end MA7
end
section
/-! THE SMALL MACHINE, part 8: a new exception that is thrown at once; answers -/
def ma_xn (e : Nat) : String := match e with
  | 1 => "java/lang/IndexOutOfBoundsException"
  | 2 => "java/lang/IllegalArgumentException"
  | 3 => "java/lang/IllegalStateException"
  | 4 => "java/util/NoSuchElementException"
  | 5 => "java/lang/ClassCastException"
  | 6 => "java/lang/UnsupportedOperationException"
  | _ => ""
def ma_xs : List String := ["java/lang/RuntimeException", "java/lang/Exception"]
/-- pool entries of the class and of its constructor, in the outer class (11), to the exception's number -/
def ma_xh : List ((Nat × Nat × Nat × Nat) × Nat × Nat) := [((11, 72, 74, 1), 530, 16), ((11, 79, 81, 2), 608, 17), ((11, 85, 87, 3), 631, 18), ((11, 364, 366, 4), 1198, 27), ((11, 135, 137, 5), 1215, 28), ((11, 192, 194, 6), 1323, 29)]
def ma_xc (q : (Nat × Nat × Nat × Nat) × Nat × Nat) : Bool :=
  ma_w q.2.1 (.classLink (ma_cn q.1.1) q.1.2.1 (ma_xn q.1.2.2.2)) && ma_w q.2.2 (.initialized (ma_xn q.1.2.2.2)) && Bundle.fit (ma_xn q.1.2.2.2) &&
  (vx_at0 (ma_cn q.1.1) q.1.2.2.1 (ma_xn q.1.2.2.2) ma_xs).all (fun w => ((decide (w ∈ tables_1) && goodWord w) || (decide (w ∈ ma_nw) && w.onTables)) && vx_ot w)
set_option maxRecDepth 20000 in
theorem ma_xh_ok : ∀ q ∈ ma_xh, ma_xc q = true := List.all_eq_true.mp (by decide +kernel)
theorem ma_xs_fit : ∀ n ∈ ma_xs, Bundle.fit n = true := by decide +kernel
def ma_xt (o ik ic : Nat) : Option Nat := (ma_xh.find? (fun q => q.1.1 == o && q.1.2.1 == ik && q.1.2.2.1 == ic)).map (fun q => q.1.2.2.2)
theorem ma_xt_spec {o ik ic x : Nat} (h : ma_xt o ik ic = some x) : Cond.classLink (ma_cn o) ik (ma_xn x) ∈ ma_TB ∧ Cond.initialized (ma_xn x) ∈ ma_TB ∧ Bundle.fit (ma_xn x) = true ∧ ∀ w ∈ vx_at0 (ma_cn o) ic (ma_xn x) ma_xs, (w ∈ ma_TB ∨ (w ∈ ma_nw ∧ w.onTables = true)) ∧ vx_ot w = true := by
  unfold ma_xt at h
  cases hf : ma_xh.find? (fun q => q.1.1 == o && q.1.2.1 == ik && q.1.2.2.1 == ic) with
  | none => rw [hf] at h; cases h
  | some q =>
    rw [hf] at h
    have hk : q.1.2.2.2 = x := Option.some.inj h
    have h1 := List.find?_some hf
    simp only [Bool.and_eq_true, beq_iff_eq] at h1
    have h2 := ma_xh_ok q (List.mem_of_find?_eq_some hf)
    unfold ma_xc at h2
    rw [hk, h1.1.1, h1.1.2, h1.2] at h2
    simp only [Bool.and_eq_true] at h2
    refine ⟨ma_w_in h2.1.1.1, ma_w_in h2.1.1.2, h2.1.2, fun w hw => ?_⟩
    have h3 := List.all_eq_true.mp h2.2 w hw
    simp only [Bool.and_eq_true, Bool.or_eq_true, decide_eq_true_eq] at h3
    refine ⟨h3.1.imp (fun z => List.mem_filter.mpr ⟨List.mem_append_right _ (List.mem_append_right _ z.1), z.2⟩) (fun z => z), h3.2⟩
/-- new, dup, its constructor, athrow: which exception -/
def ma_thr (o : Nat) (cc : ByteArray) (pc : Nat) : Option Nat := match decode cc pc, decode cc (pc + 3), decode cc (pc + 4), decode cc (pc + 7) with
  | .ok (.new ik, 3), .ok (.dup, 1), .ok (.invokespecial ic, 3), .ok (.athrow, 1) => ma_xt o ik ic
  | _, _, _, _ => none
def ma_bump (S : ma_S) : ma_S := (S.1, S.2.1 + 1, S.2.2.1 + 6, S.2.2.2)
theorem ma_bump_wl (kA : Nat → ClassId) (ad : Nat → Nat) (S : ma_S) : ma_wl kA ad (ma_bump S) = ma_wl kA ad S := rfl
def ma_ret (ret : Option FieldType) (i : Instr) (n : Nat) (st : List ma_V) : Option (Option ma_V) := match i, n, st with
  | .ireturn, 1, [.inl x] => match ret with
    | some ty => if narrow ty (.int x) = .int x then some (some (.inl x)) else none
    | none => none
  | .areturn, 1, [.inr (.inr r)] => match ret with
    | some (.object _) => some (some (.inr (.inr r)))
    | some (.array _) => some (some (.inr (.inr r)))
    | _ => none
  | .return_, 1, [] => match ret with
    | none => some none
    | some _ => none
  | _, _, _ => none
section MA8
variable {p : Program} {l : Launch} {e : Env} {R : Room} {s : State} {m : MethodId} {args : Array Value} {below : List Frame} {meth : Method} {c : Code} {H : Heap} {locs : List Loc} {cells slots : Nat} {cc : ByteArray} {pc : Nat} {ls : Array Slot} {ad : Nat → Nat} {free : Addr → Prop} {Qc : Array Value → State → Outcome → State → Prop}
theorem ma_ret_ok (hx : p.tables.exec = Jvm.exec) (hb : c.code = cc) (hlocks : meth.locks = false) {ret : Option FieldType} (hr : meth.sig.returnType = ret) {i : Instr} {n : Nat} {st : List ma_V} {v : Option ma_V} (hd : decode cc pc = .ok (i, n)) (h : ma_ret ret i n st = some v)
    (hq : ∀ t : State, t.heap = H → s.WarmedH t.vm → Qc args s (.returned (v.map (ma_tv ad))) t) (hf : ∀ q ∈ locs, free q.base) : W p l e R s m args below meth c H locs cells slots (MQ below Qc args s cells slots free) (F0 m pc ls (ma_ts ad st)) := by
  unfold ma_ret at h
  split at h
  · split at h
    · next ty =>
      split at h
      · next hn =>
        cases h
        exact W.zret hx hb hr hn hq hf hd hlocks
      · cases h
    · cases h
  · next r =>
    have hv : ma_tv ad (.inr (.inr r)) = .null ∨ ∃ a, ma_tv ad (.inr (.inr r)) = .ref a := by
      cases r with
      | none => exact Or.inl rfl
      | some b => exact Or.inr ⟨_, rfl⟩
    split at h
    · cases h; exact W.aret hx hb hr (Or.inl ⟨_, rfl⟩) hv hq hf hd hlocks
    · cases h; exact W.aret hx hb hr (Or.inr ⟨_, rfl⟩) hv hq hf hd hlocks
    · cases h
  · split at h
    · cases h; exact W.vret hx hb hr hq hf hd hlocks
    · cases h
  · cases h
theorem ma_ret_cv {N n : Nat} {ret : Option FieldType} {i : Instr} {st : List ma_V} {v : Option ma_V} (hc : ma_cs N st) (h : ma_ret ret i n st = some v) : ∀ u, v = some u → ma_cv N u := by
  unfold ma_ret at h
  split at h
  · split at h
    · split at h
      · cases h; intro u hu; cases hu; exact ma_cv_i
      · cases h
    · cases h
  · split at h
    · cases h; intro u hu; cases hu; exact ma_cs_hd hc
    · cases h; intro u hu; cases hu; exact ma_cs_hd hc
    · cases h
  · split at h
    · cases h; intro u hu; cases hu
    · cases h
  · cases h
/-- it is thrown, and leaves -/
theorem ma_thr_ok (hx : p.tables.exec = Jvm.exec) (hb : c.code = cc) (hlt : l.stackTraces = false) {o x : Nat} {A : Nat → Prop} {XC : String → State → State → Prop} {mc ms : Nat} {rest : List Value} (hown : s.vm.findClass (ma_cn o) = some m.cls) (hts : ∀ w ∈ ma_TB, w.before args s = true) (hN : ma_Nx s)
    (hU : vx_Zq Bundle.tN "UNASSIGNED_STACK" Bundle.steD A s s.heap) (hZ : vx_Zq Bundle.tN "SUPPRESSED_SENTINEL" Bundle.listD A s s.heap) (hS : va_S A s.heap H locs) (hsize : ls.size = c.maxLocals) (hlocks : meth.locks = false) (hout : ∀ x ∈ c.exceptionTable.toList, False) (h : ma_thr o cc pc = some x)
    (hR1 : 6 ≤ R.frames) (hR2 : (rest.map fun v => v.category).sum + 81 ≤ R.locals) (hR3 : cells + 1 ≤ R.cells) (hR4 : slots + 6 ≤ R.slots)
    (hxc : ∀ t : State, s.vm.Alike t.vm → H.size ≤ t.heap.size → (∀ q : Nat, q < H.size → t.heap[q]? = H[q]?) → XC (ma_xn x) s t) (hf : ∀ z ∈ locs, free z.base) (hc : cells + 1 ≤ mc) (hs : slots + 6 ≤ ms) :
    W p l e R s m args below meth c H locs cells slots (vx_MQ below Qc XC args s mc ms free) (F0 m pc ls rest) := by
  unfold ma_thr at h
  split at h
  · next ik ic d0 d3 d4 d7 =>
    obtain ⟨w1, w2, w3, w4⟩ := ma_xt_spec h
    have hw : ∀ w ∈ vx_at0 (ma_cn o) ic (ma_xn x) ma_xs, w.before args s = true := by
      intro w hw
      rcases (w4 w hw).1 with g | ⟨g1, g2⟩
      · exact hts w g
      · exact va_Nw.use g2 (hN.1 w g1)
    refine vx_throw0 hx hb hlt hown w3 ma_xs_fit (hts _ w1) (hts _ w2) hw (fun w hw => ?_) hU hZ hS hsize d0 d3 d4 d7 (fun x hx => (hout x hx).elim) (by show 2 + 3 < R.frames; omega) (by show _ + (13 * (2 + 1) + 42) ≤ R.locals; omega) hR3 hR4 hlocks hxc hf hc hs
    rcases List.mem_cons.mp hw with e1 | hw
    · rw [e1]; rfl
    · rcases List.mem_cons.mp hw with e1 | hw
      · rw [e1]; rfl
      · exact (w4 w hw).2
  · cases h
end MA8
end
section
/-! THE SMALL MACHINE, part 9: one step that is no call -/
def ma_one (X : Nat × (Nat → Int32)) (o : Nat) (ini : Bool) (nL d w : Nat) (i : Instr) (n pc : Nat) (L : ma_L) (st : List ma_V) (S : ma_S) : Option (Nat × ma_L × List ma_V × ma_S) :=
  match ma_push i n L with
  | some v => some (pc + n, L, v :: st, S)
  | none => match ma_stk i n st with
    | some st' => some (pc + n, L, st', S)
    | none => match ma_sto i n nL L st with
      | some (L', st') => some (pc + n, L', st', S)
      | none => match ma_jmp i n pc st with
        | some (t, st') => some (t, L, st', S)
        | none => match ma_hp o ini i n st S with
          | some (st', S') => some (pc + n, L, st', S')
          | none => match ma_sc X i n st with
            | some st' => some (pc + n, L, st', S)
            | none => match ma_ex o i n st S with
              | some (st', S') => some (pc + n, L, st', S')
              | none => match ma_al o i n st S with
                | some (st', S') => some (pc + n, L, st', S')
                | none => match ma_pr o d w i n st S with
                  | some (st', S') => some (pc + n, L, st', S')
                  | none => match ma_tx X o i n st with
                    | some st' => some (pc + n, L, st', S)
                    | none => none
theorem ma_cL.mono {n n' : Nat} {L : ma_L} (h : ma_cL n L) (hn : n ≤ n') : ma_cL n' L := fun q hq => (h q hq).mono hn
theorem ma_cs.mono {n n' : Nat} {st : List ma_V} (h : ma_cs n st) (hn : n ≤ n') : ma_cs n' st := fun q hq => (h q hq).mono hn
/-- in bounds behind a new cell, without the machine -/
theorem ma_al_c {o n : Nat} {i : Instr} {st st' : List ma_V} {S S' : ma_S} (hh : ma_ch S) (hc : ma_cs (mN S) st) (h : ma_al o i n st S = some (st', S')) : ma_ch S' ∧ ma_cs (mN S') st' ∧ mN S' = mN S + 1 ∧ mC S' = mC S + 1 ∧ mZ S ≤ mZ S' := by
  have fin : ∀ (t N : Nat) (r : List ma_V), ma_cs (mN S) r → ma_ch (ma_new S t N) ∧ ma_cs (mN (ma_new S t N)) (.inr (.inr (some (mN S))) :: r) ∧ mN (ma_new S t N) = mN S + 1 ∧ mC (ma_new S t N) = mC S + 1 ∧ mZ S ≤ mZ (ma_new S t N) := by
    intro t N r hr
    exact ⟨ma_new_ch hh t N, ma_cs_cons (fun b hb => by cases hb; exact Nat.lt_succ_self _) (fun v hv => (hr v hv).mono (Nat.le_succ _)), rfl, rfl, Nat.le_add_right _ _⟩
  unfold ma_al at h
  split at h
  · next r x =>
    cases ht : ma_nwt o x with
    | none => rw [ht] at h; cases h
    | some t => rw [ht] at h; cases h; exact fin _ _ _ hc
  · next a kx r =>
    split at h
    · cases ht : ma_at a with
      | none => rw [ht] at h; cases h
      | some t => rw [ht] at h; cases h; exact fin _ _ _ (ma_cs_tl hc)
    · cases h
  · next x kx r =>
    split at h
    · cases ht : ma_ant o x with
      | none => rw [ht] at h; cases h
      | some t => rw [ht] at h; cases h; exact fin _ _ _ (ma_cs_tl hc)
    · cases h
  · cases h
theorem ma_one_c {X : Nat × (Nat → Int32)} {o nL d w n pc pc' : Nat} {ini : Bool} {i : Instr} {L L' : ma_L} {st st' : List ma_V} {S S' : ma_S} (hh : ma_ch S) (hL : ma_cL (mN S) L) (hc : ma_cs (mN S) st) (h : ma_one X o ini nL d w i n pc L st S = some (pc', L', st', S')) :
    ma_ch S' ∧ ma_cL (mN S') L' ∧ ma_cs (mN S') st' ∧ mN S ≤ mN S' ∧ mC S ≤ mC S' ∧ mZ S ≤ mZ S' := by
  have kept : ∀ {S1 : ma_S} {s1 : List ma_V}, (ma_ch S1 ∧ ma_cs (mN S1) s1 ∧ mN S1 = mN S ∧ mC S1 = mC S ∧ mZ S1 = mZ S) → ma_ch S1 ∧ ma_cL (mN S1) L ∧ ma_cs (mN S1) s1 ∧ mN S ≤ mN S1 ∧ mC S ≤ mC S1 ∧ mZ S ≤ mZ S1 := by
    intro S1 s1 ⟨a1, a2, a3, a4, a5⟩
    exact ⟨a1, by rw [a3]; exact hL, a2, by omega, by omega, by omega⟩
  unfold ma_one at h
  split at h
  · next v hv => cases h; exact ⟨hh, hL, ma_cs_cons (ma_push_cv hL hv) hc, Nat.le_refl _, Nat.le_refl _, Nat.le_refl _⟩
  · split at h
    · next s1 hv => cases h; exact ⟨hh, hL, ma_stk_cs hc hv, Nat.le_refl _, Nat.le_refl _, Nat.le_refl _⟩
    · split at h
      · next L1 s1 hv => cases h; exact ⟨hh, (ma_sto_c hL hc hv).1, (ma_sto_c hL hc hv).2, Nat.le_refl _, Nat.le_refl _, Nat.le_refl _⟩
      · split at h
        · next t1 s1 hv => cases h; exact ⟨hh, hL, ma_jmp_cs hc hv, Nat.le_refl _, Nat.le_refl _, Nat.le_refl _⟩
        · split at h
          · next s1 S1 hv => cases h; exact kept (ma_hp_c hh hc hv)
          · split at h
            · next s1 hv => cases h; exact ⟨hh, hL, ma_sc_cs hc hv, Nat.le_refl _, Nat.le_refl _, Nat.le_refl _⟩
            · split at h
              · next s1 S1 hv => cases h; exact kept (ma_ex_c hh hc hv)
              · split at h
                · next s1 S1 hv =>
                  cases h
                  obtain ⟨a1, a2, a3, a4, a5⟩ := ma_al_c hh hc hv
                  exact ⟨a1, hL.mono (by omega), a2, by omega, by omega, a5⟩
                · split at h
                  · next s1 S1 hv => cases h; exact kept (ma_pr_c hh hc hv)
                  · split at h
                    · next s1 hv => cases h; exact ⟨hh, hL, ma_tx_cs hh.2 hc hv, Nat.le_refl _, Nat.le_refl _, Nat.le_refl _⟩
                    · cases h
section MA9
variable {p : Program} {l : Launch} {e : Env} {R : Room} {s : State} {m : MethodId} {args : Array Value} {below : List Frame} {meth : Method} {c : Code} {H : Heap} {locs : List Loc} {cells slots : Nat} {Q : State → Prop} {cc : ByteArray} {pc : Nat} {ls : Array Slot} {ad : Nat → Nat} {kA : Nat → ClassId} {D : va_G} {A : Nat → Prop}
/-- what holds of the frame all along: the machine, the code, the class, the tables, the world's kinds, the room -/
def ma_Cx (X : Nat × (Nat → Int32)) (p : Program) (R : Room) (s : State) (m : MethodId) (args : Array Value) (meth : Method) (c : Code) (cc : ByteArray) (o : Nat) (ini : Bool) (nL d w : Nat) (D : va_G) (kA : Nat → ClassId) (A : Nat → Prop) : Prop :=
  p.tables.exec = Jvm.exec ∧ c.code = cc ∧ c.maxLocals = nL ∧ s.vm.findClass (ma_cn o) = some m.cls ∧ (∀ w ∈ ma_TB, w.before args s = true) ∧ va_K D vwCl (ma_tys kA) s ∧ ma_Nx s ∧ (ini = true → meth.name = "<init>") ∧ d ≤ R.frames ∧ w ≤ R.locals ∧ (∀ q, s.heap.size ≤ q → A q)
/-- the world and the frame's own values -/
def ma_Wd (X : Nat × (Nat → Int32)) (s : State) (nL : Nat) (D : va_G) (kA : Nat → ClassId) (A : Nat → Prop) (ad : Nat → Nat) (L : ma_L) (st : List ma_V) (S : ma_S) (H : Heap) (locs : List Loc) (ls : Array Slot) : Prop :=
  lv_has ls nL (ma_tl ad L) ∧ ma_ch S ∧ ma_cL (mN S) L ∧ ma_cs (mN S) st ∧ va_P D vwCl (ma_wl kA ad S) H ∧ va_D A (ma_wl kA ad S) ∧ va_S A s.heap H locs ∧ ma_Xt X ad A s s.heap
theorem ma_one_ok {X : Nat × (Nat → Int32)} {o nL d w n pc' : Nat} {ini : Bool} {i : Instr} {L L' : ma_L} {st st' : List ma_V} {S S' : ma_S} (C : ma_Cx X p R s m args meth c cc o ini nL d w D kA A) (Wd : ma_Wd X s nL D kA A ad L st S H locs ls) (hd : decode cc pc = .ok (i, n)) (h : ma_one X o ini nL d w i n pc L st S = some (pc', L', st', S'))
    (hr1 : cells + (mC S' - mC S) ≤ R.cells) (hr2 : slots + (mZ S' - mZ S) ≤ R.slots)
    (k : ∀ (ad' : Nat → Nat) (H1 : Heap) (locs1 : List Loc) (ls1 : Array Slot), (∀ b, b < mN S → ad' b = ad b) → ma_Wd X s nL D kA A ad' L' st' S' H1 locs1 ls1 → W p l e R s m args below meth c H1 locs1 (cells + (mC S' - mC S)) (slots + (mZ S' - mZ S)) Q (F0 m pc' ls1 (ma_ts ad' st'))) :
    W p l e R s m args below meth c H locs cells slots Q (F0 m pc ls (ma_ts ad st)) := by
  obtain ⟨hx, hb, hml, hown, hts, hK, hN, hini, hR1, hR2, hA⟩ := C
  obtain ⟨hl, hh, hL, hc, hP, hD, hS, hX⟩ := Wd
  have cl := ma_one_c hh hL hc h
  unfold ma_one at h
  split at h
  · next v hv =>
    cases h
    simp only [Nat.sub_self, Nat.add_zero] at k
    exact ma_push_ok hx hb hl hd hv (k ad H locs ls (fun _ _ => rfl) ⟨hl, hh, hL, cl.2.2.1, hP, hD, hS, hX⟩)
  · split at h
    · next s1 hv =>
      cases h
      simp only [Nat.sub_self, Nat.add_zero] at k
      exact ma_stk_ok hx hb hd hv (k ad H locs ls (fun _ _ => rfl) ⟨hl, hh, hL, cl.2.2.1, hP, hD, hS, hX⟩)
    · split at h
      · next L1 s1 hv =>
        cases h
        simp only [Nat.sub_self, Nat.add_zero] at k
        exact ma_sto_ok hx hb hl hd hv (fun ls' hl' => k ad H locs ls' (fun _ _ => rfl) ⟨hl', hh, cl.2.1, cl.2.2.1, hP, hD, hS, hX⟩)
      · split at h
        · next t1 s1 hv =>
          cases h
          simp only [Nat.sub_self, Nat.add_zero] at k
          exact ma_jmp_ok hx hb hd hv (k ad H locs ls (fun _ _ => rfl) ⟨hl, hh, hL, cl.2.2.1, hP, hD, hS, hX⟩)
        · split at h
          · next s1 S1 hv =>
            cases h
            obtain ⟨a1, a2, a3, a4, a5⟩ := ma_hp_c hh hc hv
            rw [a4, a5] at k
            simp only [Nat.sub_self, Nat.add_zero] at k
            exact ma_hp_ok hx hb hown hts hK hini hP hD hS hd hv (fun H1 locs1 b1 b2 b3 => k ad H1 locs1 ls (fun _ _ => rfl) ⟨hl, a1, cl.2.1, a2, b1, b2, b3, hX⟩)
          · split at h
            · next s1 hv =>
              cases h
              simp only [Nat.sub_self, Nat.add_zero] at k
              exact ma_sc_ok hx hb hX.2.1 hS hd hv (k ad H locs ls (fun _ _ => rfl) ⟨hl, hh, hL, cl.2.2.1, hP, hD, hS, hX⟩)
            · split at h
              · next s1 S1 hv =>
                cases h
                obtain ⟨a1, a2, a3, a4, a5⟩ := ma_ex_c hh hc hv
                rw [a4, a5] at k
                simp only [Nat.sub_self, Nat.add_zero] at k
                exact ma_ex_ok hx hb hown hts hK hN hP hD hS hd hv (fun H1 locs1 b1 b2 b3 => k ad H1 locs1 ls (fun _ _ => rfl) ⟨hl, a1, cl.2.1, a2, b1, b2, b3, hX⟩)
              · split at h
                · next s1 S1 hv =>
                  cases h
                  refine (ma_al_ok hx hb hown hts hK hN.2.1 hA hh hc hP hD hS hd hv hr1 hr2 (fun q H1 b1 b2 b3 => ?_)).1
                  have ha : ∀ b, b < mN S → va_up ad (mN S) q b = ad b := fun b hb => va_up_ne ad q (by omega)
                  exact k (va_up ad (mN S) q) H1 locs ls ha ⟨by rw [ma_tl_ad hL ha]; exact hl, cl.1, cl.2.1, cl.2.2.1, b1, b2, b3, hX.ad (fun b hb => ha b (Nat.lt_of_lt_of_le hb hh.2))⟩
                · split at h
                  · next s1 S1 hv =>
                    cases h
                    obtain ⟨a1, a2, a3, a4, a5⟩ := ma_pr_c hh hc hv
                    rw [a4, a5] at k
                    simp only [Nat.sub_self, Nat.add_zero] at k
                    exact ma_pr_ok hx hb (hml.trans hl.1.symm) hown hts hK hR1 hR2 (by omega) (by omega) hP hD hS hd hv (fun H1 locs1 b1 b2 b3 => k ad H1 locs1 ls (fun _ _ => rfl) ⟨hl, a1, cl.2.1, a2, b1, b2, b3, hX⟩)
                  · split at h
                    · next s1 hv =>
                      cases h
                      simp only [Nat.sub_self, Nat.add_zero] at k
                      exact ma_tx_ok hx hb hown hts hX.2.2 hS hd hv (k ad H locs ls (fun _ _ => rfl) ⟨hl, hh, hL, cl.2.2.1, hP, hD, hS, hX⟩)
                    · cases h
end MA9
end
section
/-! THE SMALL MACHINE, part 10: calls -/
def ma_args (k : Nat) (as : List ma_V) : ma_L := match as with
  | [] => []
  | v :: r => (k, v) :: ma_args (if ma_2 v then k + 2 else k + 1) r
theorem ma_args_tl (ad : Nat → Nat) : ∀ (as : List ma_V) (k : Nat), ma_tl ad (ma_args k as) = lv_args k (ma_ts ad as) := by
  intro as
  induction as with
  | nil => intro k; rfl
  | cons v r ih =>
    intro k
    show (k, ma_tv ad v) :: ma_tl ad (ma_args (if ma_2 v then k + 2 else k + 1) r) = (k, ma_tv ad v) :: lv_args (if (ma_tv ad v).category = 2 then k + 2 else k + 1) (ma_ts ad r)
    rw [ih, ma_cat]
    cases ma_2 v <;> rfl
theorem ma_args_len (ad : Nat → Nat) : ∀ (as : List ma_V), (lg_sl (ma_ts ad as)).length = ma_sz as := by
  intro as
  induction as with
  | nil => rfl
  | cons v r ih =>
    show ((if (ma_tv ad v).category = 2 then [Slot.val (ma_tv ad v), .second] else [.val (ma_tv ad v)]) ++ lg_sl (ma_ts ad r)).length = (if ma_2 v then 2 else 1) + ma_sz r
    rw [List.length_append, ih, ma_cat]
    cases ma_2 v <;> rfl
theorem ma_args_cL {n : Nat} : ∀ (as : List ma_V) (k : Nat), ma_cs n as → ma_cL n (ma_args k as) := by
  intro as
  induction as with
  | nil => intro k _ q hq; cases hq
  | cons v r ih =>
    intro k h q hq
    rcases List.mem_cons.mp hq with e | e
    · rw [e]; exact ma_cs_hd h
    · exact ih _ (ma_cs_tl h) q e
def ma_fd (o x t : Nat) (any : Bool) (lo hi : Nat) : Option ((Nat × Nat × Nat) × (Nat × Nat × Nat) × (Nat × Nat) × List Nat) := ma_clh.find? (fun q => q.1.1 == o && q.1.2.1 == x && (any || q.1.2.2 == t) && decide (lo ≤ q.2.1.1) && decide (q.2.1.1 ≤ hi))
theorem ma_fd_spec {o x t lo hi : Nat} {any : Bool} {q : (Nat × Nat × Nat) × (Nat × Nat × Nat) × (Nat × Nat) × List Nat} (h : ma_fd o x t any lo hi = some q) : ma_clc q = true ∧ q.1.1 = o ∧ q.1.2.1 = x ∧ (any = true ∨ q.1.2.2 = t) ∧ lo ≤ q.2.1.1 ∧ q.2.1.1 ≤ hi := by
  have h1 := List.find?_some h
  simp only [Bool.and_eq_true, Bool.or_eq_true, beq_iff_eq, decide_eq_true_eq] at h1
  exact ⟨ma_clh_ok q (List.mem_of_find?_eq_some h), h1.1.1.1.1, h1.1.1.1.2, h1.1.1.2, h1.1.2, h1.2⟩
/-- the class, by number, of what is called: a text, or a cell -/
def ma_rt (S : ma_S) (b : Nat) : Option Nat := if b < 19 then some 17 else if ma_is S b && decide (1 ≤ (mH S b).1) && decide ((mH S b).1 ≤ 12) then some (mH S b).1 else none
/-- a call's kind, the method, its arguments, the stack below -/
def ma_cl (o : Nat) (i : Instr) (n : Nat) (st : List ma_V) (S : ma_S) : Option ((Nat × Nat) × List ma_V × List ma_V) := match i, n with
  | .invokevirtual x, 3 => match ma_fd o x 0 true 0 4 with
    | none => none
    | some q0 => match st.drop q0.2.1.2.2 with
      | .inr (.inr (some b)) :: rest => match ma_rt S b with
        | none => none
        | some t => match ma_fd o x t false 0 4 with
          | some q => if q.2.1.2.2 = q0.2.1.2.2 then some ((q.2.1.1, q.2.1.2.1), .inr (.inr (some b)) :: (st.take q0.2.1.2.2).reverse, rest) else none
          | none => none
      | _ => none
  | .invokestatic x, 3 => match ma_fd o x 0 true 5 8 with
    | none => none
    | some q => if q.2.1.1 ≠ 6 ∧ q.2.1.1 ≠ 7 ∧ q.2.1.2.2 ≤ st.length then some ((q.2.1.1, q.2.1.2.1), (st.take q.2.1.2.2).reverse, st.drop q.2.1.2.2) else none
  | .invokespecial x, 3 => match ma_fd o x 0 true 6 9 with
    | none => none
    | some q => match st.drop q.2.1.2.2 with
      | .inr (.inr (some b)) :: rest => if q.2.1.1 ≠ 8 ∧ ma_is S b ∧ 1 ≤ (mH S b).1 ∧ (mH S b).1 ≤ 12 ∧ (q.2.1.1 = 7 ∨ (ma_md q.2.1.2.1).bind (fun z => z.2.2.2.2) = none) then some ((q.2.1.1, q.2.1.2.1), .inr (.inr (some b)) :: (st.take q.2.1.2.2).reverse, rest) else none
      | _ => none
  | _, _ => none
theorem ma_cl_c {o n N : Nat} {i : Instr} {st as rest : List ma_V} {S : ma_S} {k : Nat × Nat} (hc : ma_cs N st) (h : ma_cl o i n st S = some (k, as, rest)) : ma_cs N as ∧ ma_cs N rest ∧ n = 3 := by
  have tk : ∀ j, ma_cs N (st.take j).reverse := fun j v hv => hc v (List.mem_of_mem_take (List.mem_reverse.mp hv))
  have dr : ∀ j, ma_cs N (st.drop j) := fun j v hv => hc v (List.mem_of_mem_drop hv)
  unfold ma_cl at h
  split at h
  · split at h
    · cases h
    · next q0 _ =>
      split at h
      · next b r hdr =>
        have := dr q0.2.1.2.2
        rw [hdr] at this
        split at h
        · cases h
        · split at h
          · split at h
            · cases h; exact ⟨ma_cs_cons (ma_cs_hd this) (tk _), ma_cs_tl this, rfl⟩
            · cases h
          · cases h
      · cases h
  · split at h
    · cases h
    · split at h
      · cases h; exact ⟨tk _, dr _, rfl⟩
      · cases h
  · split at h
    · cases h
    · next q _ =>
      split at h
      · next b r hdr =>
        have := dr q.2.1.2.2
        rw [hdr] at this
        split at h
        · cases h; exact ⟨ma_cs_cons (ma_cs_hd this) (tk _), ma_cs_tl this, rfl⟩
        · cases h
      · cases h
  · cases h
theorem ma_cn_mh (k : Nat) : ma_cn k ≠ "java/lang/invoke/MethodHandle" ∧ ma_cn k ≠ "java/lang/invoke/VarHandle" := by
  unfold ma_cn
  split <;> exact ⟨by decide, by decide⟩
/-- classes by number have their names in ma_cn -/
theorem ma_cn_cl {t : Nat} (h1 : 1 ≤ t) (h2 : t ≤ 12) {C : String} {T : u_T} {N : Nat} (h : vwCl[t]? = some (C, T, N)) : C = ma_cn t := by
  have hh : t = 1 ∨ t = 2 ∨ t = 3 ∨ t = 4 ∨ t = 5 ∨ t = 6 ∨ t = 7 ∨ t = 8 ∨ t = 9 ∨ t = 10 ∨ t = 11 ∨ t = 12 := by omega
  rcases hh with rfl | rfl | rfl | rfl | rfl | rfl | rfl | rfl | rfl | rfl | rfl | rfl <;> (cases h; rfl)
section MA10
variable {p : Program} {l : Launch} {e : Env} {R : Room} {s : State} {m : MethodId} {args : Array Value} {below : List Frame} {meth : Method} {c : Code} {H : Heap} {locs : List Loc} {cells slots : Nat} {Q : State → Prop} {cc : ByteArray} {pc : Nat} {ls : Array Slot} {ad : Nat → Nat} {kA : Nat → ClassId} {D : va_G} {A : Nat → Prop}
theorem ma_pre {X : Nat × (Nat → Int32)} {o nL d w : Nat} {ini : Bool} {L : ma_L} {st as : List ma_V} {S : ma_S} (C : ma_Cx X p R s m args meth c cc o ini nL d w D kA A) (Wd : ma_Wd X s nL D kA A ad L st S H locs ls) (U : State) (hU : U.heap = H) (hW : s.WarmedH U.vm) : ma_Pc X D kA ad S as H.size (ma_ts ad as).toArray U := by
  obtain ⟨hx, hb, hml, hown, hts, hK, hN, hini, hR1, hR2, hA⟩ := C
  obtain ⟨hl, hh, hL, hc, hP, hD, hS, hX⟩ := Wd
  refine ⟨rfl, by rw [hU], by rw [hU]; exact hP, va_K.moved hW.alike hK, hD.weaken (fun _ _ _ _ => trivial), hN.warm hW, ?_⟩
  rw [hU]
  exact ((hX.kept hS.1 (fun a h1 h2 => hS.2.1 a h1 h2)).narrow (ma_free hD hS hA)).warm hW
/-- the words that every callee has: its code, and the tables -/
def ma_ws (y : MethodName) (cc : ByteArray) (nL : Nat) (ret : Option FieldType) : List Cond := Cond.code y cc nL ret :: ma_TB
theorem ma_ws_ok (hts : ∀ w ∈ ma_TB, w.before args s = true) {y : MethodName} {cc : ByteArray} {nL : Nat} {ret : Option FieldType} (hc : Cond.code y cc nL ret ∈ ma_TB) : ∀ w ∈ ma_ws y cc nL ret, ∀ (a' : Array Value) (U : State), s.WarmedH U.vm → w.before a' U = true := by
  intro w hw a' U hW
  have hm : w ∈ ma_TB := by
    rcases List.mem_cons.mp hw with e1 | e1
    · rw [e1]; exact hc
    · exact e1
  exact word_at hW (good_of_word (List.mem_filter.mp hm).2) (hts w hm)
/-- the callee's room -/
abbrev ma_rm (d w mc ms : Nat) : Room := { frames := d, cells := mc, slots := ms, locals := w }
theorem ma_cl_run {X : Nat × (Nat → Int32)} {o nL d w n kd M o' nL' mc ms : Nat} {ini : Bool} {i : Instr} {L : ma_L} {st as rest : List ma_V} {S S' : ma_S} {y : MethodName} {cc' : ByteArray} {ret' : Option FieldType} {v : Option ma_V}
    (C : ma_Cx X p R s m args meth c cc o ini nL d w D kA A) (Wd : ma_Wd X s nL D kA A ad L st S H locs ls) (hd : decode cc pc = .ok (i, n)) (h : ma_cl o i n st S = some ((kd, M), as, rest)) (hmd : ma_md M = some (o', y, cc', nL', ret')) (h1 : 1 ≤ d) (h2 : 19 + nL' ≤ w) (h3 : ma_sz rest ≤ 8)
    (hM : Met l y (ma_ws y cc' nL' ret') (ma_rm (d - 1) (w - (19 + nL')) mc ms) (ma_Pc X D kA ad S as H.size) (ma_Qc D kA ad S S' v) mc ms (va_A (ma_wl kA ad S) H.size)) (hf : cells + mc ≤ R.cells ∧ slots + ms ≤ R.slots) :
    va_Run p l e R s m args below meth c H locs cells slots mc ms (F0 m pc ls (ma_ts ad st)) (ma_ts ad rest) (ma_Qc D kA ad S S' v (ma_ts ad as).toArray) (va_A (ma_wl kA ad S) H.size) := by
  have hpre := fun U hU hW => ma_pre (as := as) C Wd U hU hW
  obtain ⟨hx, hb, hml, hown, hts, hK, hN, hini, hR1, hR2, hA⟩ := C
  obtain ⟨hl, hh, hL, hc, hP, hD, hS, hX⟩ := Wd
  obtain ⟨m1, m2, m3, m4, m5, m6⟩ := ma_md_spec hmd
  have hws := ma_ws_ok hts m1
  have hfr : (ma_rm (d - 1) (w - (19 + nL')) mc ms).frames + 1 ≤ R.frames := by show d - 1 + 1 ≤ _; omega
  have hlo : 8 + (nL' + 11) + (ma_rm (d - 1) (w - (19 + nL')) mc ms).locals ≤ R.locals := by show 8 + (nL' + 11) + (w - (19 + nL')) ≤ _; omega
  have hcode : Cond.code y cc' nL' ret' ∈ ma_ws y cc' nL' ret' := List.mem_cons_self
  have hW8 : 2 * (F0 m pc ls (ma_ts ad st)).monitorRoom + ((ma_ts ad rest).map fun v => v.category).sum ≤ 8 := lv_room (by rw [ma_sz_ts]; exact h3)
  have recv : ∀ b, ma_is S b = true → 1 ≤ (mH S b).1 → (mH S b).1 ≤ 12 → (∃ cellB : Cell, H[ad b]? = some cellB ∧ cellB.vm.isStatics = false ∧ s.vm.findClass (ma_cn (mH S b).1) = some cellB.cls) ∧ ∃ cC, ClassAt s (ma_cn (mH S b).1) cC := by
    intro b hb1 t1 t2
    simp only [ma_is, Bool.and_eq_true, decide_eq_true_eq] at hb1
    obtain ⟨C, T, hcl, -, -, -⟩ := ma_clok_all t1 t2
    have hC := ma_cn_cl t1 t2 hcl
    subst hC
    exact ⟨va_recv (a := ad b) (fs := ma_fs ad S b (mH S b).1) hK hP hcl ((ma_wl_at hb1.1 hb1.2).trans (by rw [ma_E_obj (by omega)])), _, (hK.1 _ _ hcl).2⟩
  have rcv : ∀ b t, ma_rt S b = some t → ∃ cellB : Cell, H[ad b]? = some cellB ∧ cellB.vm.isStatics = false ∧ s.vm.findClass (ma_cn t) = some cellB.cls := by
    intro b t hrt
    unfold ma_rt at hrt
    split at hrt
    · next hlt =>
      cases hrt
      exact vk_recv hX.2.2.1 hlt hS
    · split at hrt
      · next hbb =>
        simp only [Bool.and_eq_true, decide_eq_true_eq] at hbb
        cases hrt
        exact (recv b hbb.1.1 hbb.1.2 hbb.2).1
      · cases hrt
  have stk : ∀ (j b : Nat) (r : List ma_V), st.drop j = .inr (.inr (some b)) :: r → ma_ts ad st = (ma_ts ad (st.take j).reverse).reverse ++ Value.ref (ad b) :: ma_ts ad r ∧ (ma_ts ad (st.take j).reverse).length = j := by
    intro j b r hdr
    constructor
    · have h0 : ma_ts ad st = ma_ts ad (st.take j ++ st.drop j) := by rw [List.take_append_drop]
      rw [h0, hdr]
      unfold ma_ts
      rw [List.map_append, List.map_reverse, List.reverse_reverse]
      rfl
    · have hj : j < st.length := by
        rcases Nat.lt_or_ge j st.length with z | z
        · exact z
        · rw [List.drop_eq_nil_of_le z] at hdr; cases hdr
      unfold ma_ts
      rw [List.length_map, List.length_reverse, List.length_take]
      omega
  have lenOf : ∀ {nn : Nat}, (parseMethodDescriptor y.desc).map (fun d => d.parameters.length) = some nn → ∀ sig, parseMethodDescriptor y.desc = some sig → nn = sig.parameters.length := by
    intro nn hp sig hs
    rw [hs] at hp
    exact (Option.some.inj hp).symm
  unfold ma_cl at h
  split at h
  · next x =>
    split at h
    · cases h
    · next q0 hq0 =>
      split at h
      · next b r hdr =>
        split at h
        · cases h
        · next t hrt =>
          split at h
          · next q hq =>
            split at h
            · next hn =>
              cases h
              obtain ⟨w1, w2, w3, w4, w5, w6⟩ := ma_fd_spec hq
              have w4 : q.1.2.2 = t := w4.resolve_left (by simp)
              obtain ⟨s1, s2⟩ := stk _ _ _ hdr
              have rc := rcv b t hrt
              have hp : PreV s H (ma_cn t) (ad b) (ma_Pc X D kA ad S (.inr (.inr (some b)) :: (st.take q0.2.1.2.2).reverse) H.size) (ma_ts ad (st.take q0.2.1.2.2).reverse) := ⟨ma_Pc_blind, rc, hpre⟩
              unfold ma_clc at w1
              rw [hmd] at w1
              simp only [w2, w3, w4, Bool.and_eq_true] at w1
              have hlen := lenOf (of_decide_eq_true w1.1)
              rw [hn] at hlen
              have w1 := w1.2
              split at w1
              · simp only [Bool.and_eq_true] at w1
                exact va_runV ⟨hx, hb, hml, hown, hts⟩ hM ⟨⟨rfl, rfl, hfr, hlo, hws, hcode, hts _ m1, hts _ m2, ⟨m5, m6⟩, hlen, hts _ (ma_w_in w1.1.1)⟩, hts _ (ma_w_in w1.1.2), hts _ (ma_w_in w1.2)⟩ hp rfl s2 hl.1 s1 hW8 hd hf
              · simp only [Bool.and_eq_true] at w1
                exact va_runV ⟨hx, hb, hml, hown, hts⟩ hM ⟨⟨rfl, rfl, hfr, hlo, hws, hcode, hts _ m1, hts _ m2, ⟨m5, m6⟩, hlen, hts _ (ma_w_in w1.1.1.1)⟩, hts _ (ma_w_in w1.1.1.2), hts _ (ma_TB_p w1.1.2 w1.2)⟩ hp rfl s2 hl.1 s1 hW8 hd hf
              · simp only [Bool.and_eq_true] at w1
                have hy : y = ⟨ma_cn q.2.2.1.2, y.name, y.desc⟩ := by rw [← of_decide_eq_true w1.2]
                exact va_runU (x := ⟨ma_cn q.2.2.1.1, y.name, y.desc⟩) (owner := ma_cn q.2.2.1.2) ⟨hx, hb, hml, hown, hts⟩ hM ⟨⟨rfl, rfl, hfr, hlo, hws, hcode⟩, hts _ m1, hts _ m2, ma_cn_mh _, hlen, hts _ (ma_w_in w1.1.1.1.1), hts _ (ma_w_in w1.1.1.1.2), hy ▸ va_Decl.of (hts _ (ma_w_in w1.1.2)) (hts _ m1), hts _ (ma_w_in w1.1.1.2), hts _ (ma_w_in w1.1.2)⟩ hp rfl s2 hl.1 s1 hW8 hd hf
              · simp only [Bool.and_eq_true] at w1
                have w9 := w1.2
                split at w9
                · next y0 _ _ _ hm0 =>
                  simp only [Bool.and_eq_true] at w9
                  have hy0 := of_decide_eq_true w9.1
                  have hde : va_Decl s ⟨ma_cn q.2.2.1.2, y.name, y.desc⟩ := by
                    rw [← hy0]
                    exact va_Decl.of (hts _ (ma_w_in w9.2)) (hts _ (ma_md_spec hm0).1)
                  exact va_runU (x := ⟨ma_cn q.2.2.1.1, y.name, y.desc⟩) (owner := ma_cn q.2.2.1.2) ⟨hx, hb, hml, hown, hts⟩ hM ⟨⟨rfl, rfl, hfr, hlo, hws, hcode⟩, hts _ m1, hts _ m2, ma_cn_mh _, hlen, hts _ (ma_w_in w1.1.1.1.1), hts _ (ma_w_in w1.1.1.1.2), hde, hts _ (ma_w_in w1.1.1.2), hts _ (ma_w_in w1.1.2)⟩ hp rfl s2 hl.1 s1 hW8 hd hf
                · cases w9
              · simp only [Bool.and_eq_true] at w1
                exact va_runU (x := ⟨ma_cn q.2.2.1.1, y.name, y.desc⟩) (owner := ma_cn q.2.2.1.2) ⟨hx, hb, hml, hown, hts⟩ hM ⟨⟨rfl, rfl, hfr, hlo, hws, hcode⟩, hts _ m1, hts _ m2, ma_cn_mh _, hlen, hts _ (ma_w_in w1.1.1.1.1), hts _ (ma_w_in w1.1.1.1.2), va_Decl.abs (hN.1 _ (of_decide_eq_true w1.2)), hts _ (ma_w_in w1.1.1.2), hts _ (ma_w_in w1.1.2)⟩ hp rfl s2 hl.1 s1 hW8 hd hf
              all_goals first | omega | (rename_i hk; omega) | cases w1
            · cases h
          · cases h
      · cases h
  · next x =>
    split at h
    · cases h
    · next q hq =>
      split at h
      · next hk =>
        cases h
        obtain ⟨w1, w2, w3, w4, w5, w6⟩ := ma_fd_spec hq
        have s2 : (ma_ts ad (st.take q.2.1.2.2).reverse).length = q.2.1.2.2 := by
          unfold ma_ts
          rw [List.length_map, List.length_reverse, List.length_take]
          omega
        have s1 : ma_ts ad st = (ma_ts ad (st.take q.2.1.2.2).reverse).reverse ++ ma_ts ad (st.drop q.2.1.2.2) := by
          have h0 : ma_ts ad st = ma_ts ad (st.take q.2.1.2.2 ++ st.drop q.2.1.2.2) := by rw [List.take_append_drop]
          rw [h0]
          unfold ma_ts
          rw [List.map_append, List.map_reverse, List.reverse_reverse]
        have hp : PreS s H (ma_Pc X D kA ad S (st.take q.2.1.2.2).reverse H.size) (ma_ts ad (st.take q.2.1.2.2).reverse) := ⟨ma_Pc_blind, hpre⟩
        unfold ma_clc at w1
        rw [hmd] at w1
        simp only [w2, w3, Bool.and_eq_true] at w1
        have hlen := lenOf (of_decide_eq_true w1.1)
        have w1 := w1.2
        split at w1
        all_goals first | omega | (rename_i hk9; omega) | skip
        · simp only [Bool.and_eq_true] at w1
          exact va_runS ⟨hx, hb, hml, hown, hts⟩ hM ⟨⟨rfl, rfl, hfr, hlo, hws, hcode, hts _ m1, hts _ m2, ⟨m5, m6⟩, hlen, hts _ (ma_w_in w1.1)⟩, hts _ (ma_w_in w1.2)⟩ hp rfl s2 hl.1 s1 hW8 hd hf
        · simp only [Bool.and_eq_true] at w1
          exact va_runSN ⟨hx, hb, hml, hown, hts⟩ hM ⟨⟨⟨rfl, rfl, hfr, hlo, hws, hcode⟩, hts _ m1, hts _ m2, ⟨m5, m6⟩, hlen, va_Nw.use rfl (hN.1 _ (of_decide_eq_true w1.1))⟩, hts _ (ma_w_in w1.2), trivial⟩ hp rfl s2 hl.1 s1 hW8 hd hf
        all_goals cases w1
      · cases h
  · next x =>
    split at h
    · cases h
    · next q hq =>
      split at h
      · next b r hdr =>
        split at h
        · next hk =>
          cases h
          obtain ⟨k8, b1, b2, b3, b4⟩ := hk
          have hret : q.2.1.1 = 7 ∨ ret' = none := b4.imp id (fun z => by rw [hmd] at z; exact z)
          obtain ⟨w1, w2, w3, w4, w5, w6⟩ := ma_fd_spec hq
          obtain ⟨s1, s2⟩ := stk _ _ _ hdr
          obtain ⟨rc, cC, hat⟩ := recv b b1 b2 b3
          have hpv : PreV s H (ma_cn (mH S b).1) (ad b) (ma_Pc X D kA ad S (.inr (.inr (some b)) :: (st.take q.2.1.2.2).reverse) H.size) (ma_ts ad (st.take q.2.1.2.2).reverse) := ⟨ma_Pc_blind, rc, hpre⟩
          have hps : PreS s H (ma_Pc X D kA ad S (.inr (.inr (some b)) :: (st.take q.2.1.2.2).reverse) H.size) (.ref (ad b) :: ma_ts ad (st.take q.2.1.2.2).reverse) := ⟨ma_Pc_blind, hpre⟩
          unfold ma_clc at w1
          rw [hmd] at w1
          simp only [w2, w3, Bool.and_eq_true] at w1
          have hlen := lenOf (of_decide_eq_true w1.1)
          have w1 := w1.2
          split at w1
          all_goals first | omega | (rename_i hk9; omega) | skip
          · simp only [Bool.and_eq_true] at w1
            have hret : ret' = none := hret.resolve_left (by omega)
            subst hret
            exact va_runI ⟨hx, hb, hml, hown, hts⟩ hM ⟨⟨rfl, rfl, hfr, hlo, hws, hcode, hts _ m1, hts _ m2, ⟨m5, m6⟩, hlen, hts _ (ma_w_in w1.1.1)⟩, of_decide_eq_true w1.2, hts _ (ma_w_in w1.1.2)⟩ hps rfl s2 hl.1 s1 hW8 hd hf
          · simp only [Bool.and_eq_true] at w1
            exact va_runSU hat ⟨hx, hb, hml, hown, hts⟩ hM ⟨⟨rfl, rfl, hfr, hlo, hws, hcode⟩, hts _ (ma_w_in w1.1.1.1.1), hts _ (ma_w_in w1.1.1.1.2), hts _ (ma_w_in w1.1.1.2), hts _ (ma_w_in w1.1.2), hts _ m2, hts _ m1, of_decide_eq_true w1.2, hlen⟩ hpv rfl s2 hl.1 s1 hW8 hd hf
          · simp only [Bool.and_eq_true] at w1
            have hret : ret' = none := hret.resolve_left (by omega)
            subst hret
            exact va_runIN ⟨hx, hb, hml, hown, hts⟩ hM ⟨⟨⟨rfl, rfl, hfr, hlo, hws, hcode⟩, hts _ m1, hts _ m2, ⟨m5, m6⟩, hlen, va_Nw.use rfl (hN.1 _ (of_decide_eq_true w1.1.1))⟩, of_decide_eq_true w1.2, hts _ (ma_w_in w1.1.2)⟩ hps rfl s2 hl.1 s1 hW8 hd hf
          all_goals cases w1
        · cases h
      · cases h
  · cases h
end MA10
end
section
/-! THE SMALL MACHINE, part 11: its run, and that the machine does as it says -/
def ma_run (X : Nat × (Nat → Int32)) : Nat → Nat → Nat → Nat → Nat → ma_L → List ma_V → ma_S → Option ((Option ma_V ⊕ (Nat × Nat)) × ma_S)
  | 0, _, _, _, _, _, _, _ => none
  | f + 1, d, w, M, pc, L, st, S => match ma_md M with
    | none => none
    | some (o, y, cc, nL, ret) => match decode cc pc with
      | .error _ => none
      | .ok (i, n) => match ma_one X o (decide (y.name = "<init>")) nL d w i n pc L st S with
        | some (pc', L', st', S') => ma_run X f d w M pc' L' st' S'
        | none => match ma_ret ret i n st with
          | some v => some (.inl v, S)
          | none => match ma_thr o cc pc with
            | some x => if 6 ≤ d ∧ ma_sz st + 81 ≤ w then some (.inr (x, pc), ma_bump S) else none
            | none => match ma_cl o i n st S with
              | none => none
              | some ((k, M'), as, rest) => match ma_md M' with
                | none => none
                | some (_, _, _, nL', _) => if 1 ≤ d ∧ 19 + nL' ≤ w ∧ ma_sz as ≤ nL' ∧ ma_sz rest ≤ 8 then (match ma_run X f (d - 1) (w - (19 + nL')) M' 0 (ma_args 0 as) [] S with
                  | some (.inl v, S') => ma_run X f d w M (pc + 3) L (v.toList ++ rest) S'
                  | some (.inr (x, _), S') => if k ≤ 1 then some (.inr (x, pc), S') else none
                  | none => none) else none
theorem ma_nil_cL {n : Nat} : ma_cL n [] := fun _ h => by cases h
theorem ma_nil_cs {n : Nat} : ma_cs n [] := fun _ h => by cases h
theorem ma_opt_cs {n : Nat} {v : Option ma_V} {r : List ma_V} (h : ∀ u, v = some u → ma_cv n u) (hr : ma_cs n r) : ma_cs n (v.toList ++ r) := by
  cases v with
  | none => exact hr
  | some u => exact ma_cs_cons (h u rfl) hr
theorem ma_run_c {X : Nat × (Nat → Int32)} : ∀ (f d w M pc : Nat) (L : ma_L) (st : List ma_V) (S : ma_S) (out : Option ma_V ⊕ (Nat × Nat)) (S' : ma_S), ma_run X f d w M pc L st S = some (out, S') → ma_ch S → ma_cL (mN S) L → ma_cs (mN S) st →
    ma_ch S' ∧ mN S ≤ mN S' ∧ mC S ≤ mC S' ∧ mZ S ≤ mZ S' ∧ ∀ u, out = .inl (some u) → ma_cv (mN S') u := by
  intro f
  induction f with
  | zero => intro d w M pc L st S out S' h; cases h
  | succ f ih =>
    intro d w M pc L st S out S' h hh hL hc
    unfold ma_run at h
    split at h
    · cases h
    · split at h
      · cases h
      · split at h
        · next pc1 L1 st1 S1 h1 =>
          obtain ⟨a1, a2, a3, a4, a5, a6⟩ := ma_one_c hh hL hc h1
          obtain ⟨b1, b2, b3, b4, b5⟩ := ih _ _ _ _ _ _ _ _ _ h a1 a2 a3
          exact ⟨b1, by omega, by omega, by omega, b5⟩
        · split at h
          · next v hv =>
            cases h
            exact ⟨hh, Nat.le_refl _, Nat.le_refl _, Nat.le_refl _, fun u hu => ma_ret_cv hc hv u (Sum.inl.inj hu)⟩
          · split at h
            · split at h
              · cases h
                exact ⟨hh, Nat.le_refl _, Nat.le_succ _, Nat.le_add_right _ _, fun u hu => by cases hu⟩
              · cases h
            · split at h
              · cases h
              · next k M' as rest hcl =>
                obtain ⟨g1, g2, g3⟩ := ma_cl_c hc hcl
                split at h
                · cases h
                · split at h
                  · split at h
                    · next v S1 hr =>
                      obtain ⟨b1, b2, b3, b4, b5⟩ := ih _ _ _ _ _ _ _ _ _ hr hh (ma_args_cL as 0 g1) ma_nil_cs
                      obtain ⟨c1, c2, c3, c4, c5⟩ := ih _ _ _ _ _ _ _ _ _ h b1 (hL.mono b2) (ma_opt_cs (fun u hu => b5 u (by rw [hu])) (g2.mono b2))
                      exact ⟨c1, by omega, by omega, by omega, c5⟩
                    · next x px S1 hr =>
                      obtain ⟨b1, b2, b3, b4, b5⟩ := ih _ _ _ _ _ _ _ _ _ hr hh (ma_args_cL as 0 g1) ma_nil_cs
                      split at h
                      · cases h
                        exact ⟨b1, b2, b3, b4, fun u hu => by cases hu⟩
                      · cases h
                    · cases h
                  · cases h
/-- THE MACHINE FOLLOWS THE RUN: from any frame that stands for the run's, to where it answers or throws -/
def ma_OK (X : Nat × (Nat → Int32)) (l : Launch) (f : Nat) : Prop := ∀ (d w M pc : Nat) (L : ma_L) (st : List ma_V) (S : ma_S) (out : Option ma_V ⊕ (Nat × Nat)) (S' : ma_S), ma_run X f d w M pc L st S = some (out, S') →
  ∀ (o : Nat) (y : MethodName) (cc : ByteArray) (nL : Nat) (ret : Option FieldType), ma_md M = some (o, y, cc, nL, ret) →
  ∀ (p : Program) (e : Env) (R : Room) (s : State) (m : MethodId) (args : Array Value) (below : List Frame) (meth : Method) (c : Code) (H : Heap) (locs : List Loc) (cells slots : Nat) (Q : State → Prop) (ls : Array Slot) (ad : Nat → Nat) (kA : Nat → ClassId) (D : va_G) (A : Nat → Prop),
  ma_Cx X p R s m args meth c cc o (decide (y.name = "<init>")) nL d w D kA A → ma_Wd X s nL D kA A ad L st S H locs ls → cells + (mC S' - mC S) ≤ R.cells → slots + (mZ S' - mZ S) ≤ R.slots →
  (∀ v, out = .inl v → ∀ (ad' : Nat → Nat) (H1 : Heap) (locs1 : List Loc) (ls1 : Array Slot) (pc1 n1 : Nat) (i1 : Instr) (st1 : List ma_V), (∀ b, b < mN S → ad' b = ad b) → ma_Wd X s nL D kA A ad' [] st1 S' H1 locs1 ls1 → decode cc pc1 = .ok (i1, n1) → ma_ret ret i1 n1 st1 = some v → W p l e R s m args below meth c H1 locs1 (cells + (mC S' - mC S)) (slots + (mZ S' - mZ S)) Q (F0 m pc1 ls1 (ma_ts ad' st1))) →
  (∀ x px, out = .inr (x, px) → (∀ (ad' : Nat → Nat) (H1 : Heap) (locs1 : List Loc) (ls1 : Array Slot) (st1 : List ma_V) (S1 : ma_S), (∀ b, b < mN S → ad' b = ad b) → ma_Wd X s nL D kA A ad' [] st1 S1 H1 locs1 ls1 → S' = ma_bump S1 → mC S ≤ mC S1 → mZ S ≤ mZ S1 → ma_thr o cc px = some x → 6 ≤ d → ma_sz st1 + 81 ≤ w → W p l e R s m args below meth c H1 locs1 (cells + (mC S1 - mC S)) (slots + (mZ S1 - mZ S)) Q (F0 m px ls1 (ma_ts ad' st1))) ∧
    (∀ (ad' : Nat → Nat) (H1 : Heap) (locs1 : List Loc) (ls1 : Array Slot) (r1 : List ma_V) (q : Addr) (ce : Cell), (∀ b, b < mN S → ad' b = ad b) → ma_Wd X s nL D kA A ad' [] r1 S' H1 locs1 ls1 → H1[q]? = some ce → ce.vm = .none → s.vm.findClass (ma_xn x) = some ce.cls → vx_W p l e R s m args below meth c H1 locs1 (cells + (mC S' - mC S)) (slots + (mZ S' - mZ S)) Q (F0 m px ls1 (ma_ts ad' r1)) q)) →
  W p l e R s m args below meth c H locs cells slots Q (F0 m pc ls (ma_ts ad st))
section MA11
variable {X : Nat × (Nat → Int32)} {l : Launch} {f d w M o nL : Nat} {y : MethodName} {cc : ByteArray} {ret : Option FieldType} {as : List ma_V} {S S' : ma_S}
theorem ma_entry {p : Program} {e : Env} {s s₁ : State} {m : MethodId} {args : Array Value} {below : List Frame} {meth : Method} {c : Code} {rm : Room} {D : va_G} {kA : Nat → ClassId} {ad : Nat → Nat} {sz : Nat} (hmd : ma_md M = some (o, y, cc, nL, ret)) (hh : ma_ch S) (has : ma_cs (mN S) as) (hsz : ma_sz as ≤ nL)
    (B : BodyLoose p l y (headSpec (ma_ws y cc nL ret) rm) cc nL ret e s m args below meth c s₁) (hml : c.maxLocals = nL) (hv : ma_Pc X D kA ad S as sz args s) :
    ma_Cx X p rm s m args meth c cc o (decide (y.name = "<init>")) nL rm.frames rm.locals D kA (va_A (ma_wl kA ad S) sz) ∧ args = (ma_ts ad as).toArray ∧ s.heap.size = sz ∧
      ∃ ls : Array Slot, entryFrame m args nL = F0 m 0 ls [] ∧ ma_Wd X s nL D kA (va_A (ma_wl kA ad S) sz) ad (ma_args 0 as) [] S s.heap [] ls := by
  obtain ⟨rfl, rfl, hP, hK, hD0, hN, hX⟩ := hv
  obtain ⟨m1, m2, m3, m4, m5, m6⟩ := ma_md_spec hmd
  have hts := atoms_spec (ws := ma_ws y cc nL ret) B.pre
  have hown : s.vm.findClass y.cls = some m.cls := findClass_of_methodNamed B.named
  have hin : meth.name = y.name := (name_of_methodNamed B.named B.method).1
  have hl := lv_entry (ma_ts ad as) (n := nL) (by rw [ma_args_len]; exact hsz)
  refine ⟨⟨B.exec, B.bytes, hml, m3 ▸ hown, fun w hw => hts w (List.mem_cons_of_mem _ hw), hK, hN, fun h => hin.trans (of_decide_eq_true h), Nat.le_refl _, Nat.le_refl _, fun q h => Or.inr h⟩, rfl, rfl, _, lg_entry_eq m (ma_ts ad as) nL, ?_⟩
  rw [← ma_args_tl] at hl
  exact ⟨hl, hh, ma_args_cL as 0 has, ma_nil_cs, hP, hD0.self, va_S.rf, hX⟩
theorem ma_met (IH : ma_OK X l f) (hmd : ma_md M = some (o, y, cc, nL, ret)) (hh : ma_ch S) (has : ma_cs (mN S) as) (hsz : ma_sz as ≤ nL) {v : Option ma_V} (hrun : ma_run X f d w M 0 (ma_args 0 as) [] S = some (.inl v, S')) (D : va_G) (kA : Nat → ClassId) (ad : Nat → Nat) (sz : Nat) :
    Met l y (ma_ws y cc nL ret) (ma_rm d w (mC S' - mC S) (mZ S' - mZ S)) (ma_Pc X D kA ad S as sz) (ma_Qc D kA ad S S' v) (mC S' - mC S) (mZ S' - mZ S) (va_A (ma_wl kA ad S) sz) := by
  refine Met.ofW (cc := cc) (maxL := nL) (ret := ret) (ma_md_spec hmd).2.2.2.1 rfl ?_
  intro p e s m args below meth c s₁ B hml hv
  obtain ⟨C, ha, hz, ls, hfr, Wd⟩ := ma_entry hmd hh has hsz B hml hv
  rw [hfr]
  refine IH d w M 0 (ma_args 0 as) [] S (.inl v) S' hrun o y cc nL ret hmd p e _ s m args below meth c s.heap [] 0 0 _ ls ad kA D _ C Wd (by show 0 + _ ≤ mC S' - mC S; omega) (by show 0 + _ ≤ mZ S' - mZ S; omega) ?_ (fun x px h => by cases h)
  intro v1 hv1 ad' H1 locs1 ls1 pc1 n1 i1 st1 hag Wd1 hd1 hr1
  cases hv1
  obtain ⟨hl, hh1, hL1, hc1, hP1, hD1, hS1, hX1⟩ := Wd1
  rw [Nat.zero_add, Nat.zero_add]
  refine ma_ret_ok C.1 C.2.1 B.notSynchronized B.returns hd1 hr1 (fun t ht hW => ⟨ad', rfl, hag, by rw [ht]; exact hP1, ?_, ?_⟩) hS1.2.2
  · rw [hz]; exact hD1
  · rw [hz]; exact hS1.F ht
theorem ma_metx (IH : ma_OK X l f) (hlt : l.stackTraces = false) (hmd : ma_md M = some (o, y, cc, nL, ret)) (hh : ma_ch S) (has : ma_cs (mN S) as) (hsz : ma_sz as ≤ nL) {x px : Nat} (hrun : ma_run X f d w M 0 (ma_args 0 as) [] S = some (.inr (x, px), S')) (D : va_G) (kA : Nat → ClassId) (ad : Nat → Nat) (sz : Nat) :
    vx_Met l y (ma_ws y cc nL ret) (ma_rm d w (mC S' - mC S) (mZ S' - mZ S)) (ma_Pc X D kA ad S as sz) (fun _ _ _ _ => False) (ma_Qx D kA ad S S' (ma_xn x)) (mC S' - mC S) (mZ S' - mZ S) (va_A (ma_wl kA ad S) sz) := by
  refine vx_ofW (cc := cc) (maxL := nL) (ret := ret) (ma_md_spec hmd).2.2.2.1 rfl ?_
  intro p e s m args below meth c s₁ B hml htb hv
  obtain ⟨C, ha, hz, ls, hfr, Wd⟩ := ma_entry hmd hh has hsz B hml hv
  rw [hfr]
  have hcnt := ma_run_c _ _ _ _ _ _ _ _ _ _ hrun hh (ma_args_cL as 0 has) ma_nil_cs
  refine IH d w M 0 (ma_args 0 as) [] S (.inr (x, px)) S' hrun o y cc nL ret hmd p e _ s m args below meth c s.heap [] 0 0 _ ls ad kA D _ C Wd (by show 0 + _ ≤ mC S' - mC S; omega) (by show 0 + _ ≤ mZ S' - mZ S; omega) (fun v h => by cases h) ?_
  intro x1 px1 hx1
  cases hx1
  refine ⟨fun ad' H1 locs1 ls1 st1 S1 hag Wd1 hS' hm1 hm2 hth h6 hw => ?_, fun ad' H1 locs1 ls1 r1 q ce hag Wd1 hce hcv hcl => ?_⟩
  · obtain ⟨hl, hh1, hL1, hc1, hP1, hD1, hS1, hX1⟩ := Wd1
    subst hS'
    have e1 : mC (ma_bump S1) = mC S1 + 1 := rfl
    have e2 : mZ (ma_bump S1) = mZ S1 + 6 := rfl
    refine ma_thr_ok C.1 C.2.1 hlt C.2.2.2.1 C.2.2.2.2.1 C.2.2.2.2.2.2.1 hX1.1.1 hX1.1.2 hS1 (hl.1.trans hml.symm) B.notSynchronized htb hth (by show 6 ≤ d; exact h6) (by rw [ma_sz_ts]; show _ ≤ w; exact hw) (by show _ ≤ mC (ma_bump S1) - mC S; omega) (by show _ ≤ mZ (ma_bump S1) - mZ S; omega) (fun t hvm hz1 hk1 => ?_) hS1.2.2 (by omega) (by omega)
    refine ⟨rfl, ad', hag, ?_, ?_, ?_⟩
    · exact va_P.kept hP1 (fun k q hk => hk1 q.1 (hP1 k q hk).lt)
    · rw [hz]; exact hD1
    · rw [hz]
      exact ⟨Nat.le_trans hS1.1 hz1, fun q h1 h2 => by rw [hk1 q (Nat.lt_of_lt_of_le h1 hS1.1)]; exact hS1.2.1 q h1 h2⟩
  · obtain ⟨hl, hh1, hL1, hc1, hP1, hD1, hS1, hX1⟩ := Wd1
    refine vx_out (fun x hx => (htb x hx).elim) B.notSynchronized hce hcv hcl (fun t ht hvm => ⟨rfl, ad', hag, by rw [ht]; exact hP1, ?_, ?_⟩) hS1.2.2 (by omega) (by omega)
    · rw [hz]; exact hD1
    · rw [hz]; exact hS1.F ht
end MA11
end
section
/-! THE SMALL MACHINE, part 12: the machine follows every run -/
section MA12
variable {p : Program} {l : Launch} {e : Env} {R : Room} {s : State} {m : MethodId} {args : Array Value} {below : List Frame} {meth : Method} {c : Code} {H : Heap} {locs : List Loc} {cells slots : Nat} {Q : State → Prop} {cc : ByteArray} {pc : Nat} {ls : Array Slot} {ad : Nat → Nat} {kA : Nat → ClassId} {D : va_G} {A : Nat → Prop}
theorem ma_cl_thr {X : Nat × (Nat → Int32)} {o nL d w n kd M o' nL' mc ms : Nat} {ini : Bool} {i : Instr} {L : ma_L} {st as rest : List ma_V} {S S' : ma_S} {y : MethodName} {cc' : ByteArray} {ret' : Option FieldType} {E : String}
    (C : ma_Cx X p R s m args meth c cc o ini nL d w D kA A) (Wd : ma_Wd X s nL D kA A ad L st S H locs ls) (hd : decode cc pc = .ok (i, n)) (h : ma_cl o i n st S = some ((kd, M), as, rest)) (hkd : kd ≤ 1) (hmd : ma_md M = some (o', y, cc', nL', ret')) (h1 : 1 ≤ d) (h2 : 19 + nL' ≤ w) (h3 : ma_sz rest ≤ 8)
    (hM : vx_Met l y (ma_ws y cc' nL' ret') (ma_rm (d - 1) (w - (19 + nL')) mc ms) (ma_Pc X D kA ad S as H.size) (fun _ _ _ _ => False) (ma_Qx D kA ad S S' E) mc ms (va_A (ma_wl kA ad S) H.size)) (hf : cells + mc ≤ R.cells ∧ slots + ms ≤ R.slots) :
    vx_Run p l e R s m args below meth c H locs cells slots mc ms (F0 m pc ls (ma_ts ad st)) (ma_ts ad rest) (fun _ _ _ => False) (ma_Qx D kA ad S S' E) (va_A (ma_wl kA ad S) H.size) := by
  have hpre := fun U hU hW => ma_pre (as := as) C Wd U hU hW
  obtain ⟨hx, hb, hml, hown, hts, hK, hN, hini, hR1, hR2, hA⟩ := C
  obtain ⟨hl, hh, hL, hc, hP, hD, hS, hX⟩ := Wd
  obtain ⟨m1, m2, m3, m4, m5, m6⟩ := ma_md_spec hmd
  have hws := ma_ws_ok hts m1
  have hfr : (ma_rm (d - 1) (w - (19 + nL')) mc ms).frames + 1 ≤ R.frames := by show d - 1 + 1 ≤ _; omega
  have hlo : 8 + (nL' + 11) + (ma_rm (d - 1) (w - (19 + nL')) mc ms).locals ≤ R.locals := by show 8 + (nL' + 11) + (w - (19 + nL')) ≤ _; omega
  have hcode : Cond.code y cc' nL' ret' ∈ ma_ws y cc' nL' ret' := List.mem_cons_self
  have hW8 : 2 * (F0 m pc ls (ma_ts ad st)).monitorRoom + ((ma_ts ad rest).map fun v => v.category).sum ≤ 8 := lv_room (by rw [ma_sz_ts]; exact h3)
  have recv : ∀ b, ma_is S b = true → 1 ≤ (mH S b).1 → (mH S b).1 ≤ 12 → ∃ cellB : Cell, H[ad b]? = some cellB ∧ cellB.vm.isStatics = false ∧ s.vm.findClass (ma_cn (mH S b).1) = some cellB.cls := by
    intro b hb1 t1 t2
    simp only [ma_is, Bool.and_eq_true, decide_eq_true_eq] at hb1
    obtain ⟨C, T, hcl, -, -, -⟩ := ma_clok_all t1 t2
    have hC := ma_cn_cl t1 t2 hcl
    subst hC
    exact va_recv (a := ad b) (fs := ma_fs ad S b (mH S b).1) hK hP hcl ((ma_wl_at hb1.1 hb1.2).trans (by rw [ma_E_obj (by omega)]))
  have rcv : ∀ b t, ma_rt S b = some t → ∃ cellB : Cell, H[ad b]? = some cellB ∧ cellB.vm.isStatics = false ∧ s.vm.findClass (ma_cn t) = some cellB.cls := by
    intro b t hrt
    unfold ma_rt at hrt
    split at hrt
    · next hlt =>
      cases hrt
      exact vk_recv hX.2.2.1 hlt hS
    · split at hrt
      · next hbb =>
        simp only [Bool.and_eq_true, decide_eq_true_eq] at hbb
        cases hrt
        exact recv b hbb.1.1 hbb.1.2 hbb.2
      · cases hrt
  have stk : ∀ (j b : Nat) (r : List ma_V), st.drop j = .inr (.inr (some b)) :: r → ma_ts ad st = (ma_ts ad (st.take j).reverse).reverse ++ Value.ref (ad b) :: ma_ts ad r ∧ (ma_ts ad (st.take j).reverse).length = j := by
    intro j b r hdr
    constructor
    · have h0 : ma_ts ad st = ma_ts ad (st.take j ++ st.drop j) := by rw [List.take_append_drop]
      rw [h0, hdr]
      unfold ma_ts
      rw [List.map_append, List.map_reverse, List.reverse_reverse]
      rfl
    · have hj : j < st.length := by
        rcases Nat.lt_or_ge j st.length with z | z
        · exact z
        · rw [List.drop_eq_nil_of_le z] at hdr; cases hdr
      unfold ma_ts
      rw [List.length_map, List.length_reverse, List.length_take]
      omega
  have lenOf : ∀ {nn : Nat}, (parseMethodDescriptor y.desc).map (fun d => d.parameters.length) = some nn → ∀ sig, parseMethodDescriptor y.desc = some sig → nn = sig.parameters.length := by
    intro nn hp sig hs
    rw [hs] at hp
    exact (Option.some.inj hp).symm
  unfold ma_cl at h
  split at h
  · next x =>
    split at h
    · cases h
    · next q0 hq0 =>
      split at h
      · next b r hdr =>
        split at h
        · cases h
        · next t hrt =>
          split at h
          · next q hq =>
            split at h
            · next hn =>
              cases h
              obtain ⟨w1, w2, w3, w4, w5, w6⟩ := ma_fd_spec hq
              have w4 : q.1.2.2 = t := w4.resolve_left (by simp)
              obtain ⟨s1, s2⟩ := stk _ _ _ hdr
              have rc := rcv b t hrt
              have hp : PreV s H (ma_cn t) (ad b) (ma_Pc X D kA ad S (.inr (.inr (some b)) :: (st.take q0.2.1.2.2).reverse) H.size) (ma_ts ad (st.take q0.2.1.2.2).reverse) := ⟨ma_Pc_blind, rc, hpre⟩
              unfold ma_clc at w1
              rw [hmd] at w1
              simp only [w2, w3, w4, Bool.and_eq_true] at w1
              have hlen := lenOf (of_decide_eq_true w1.1)
              rw [hn] at hlen
              have w1 := w1.2
              split at w1
              all_goals first | omega | (rename_i hk9; omega) | skip
              · simp only [Bool.and_eq_true] at w1
                exact vx_runV ⟨hx, hb, hml, hown, hts⟩ hM ⟨⟨rfl, rfl, hfr, hlo, hws, hcode, hts _ m1, hts _ m2, ⟨m5, m6⟩, hlen, hts _ (ma_w_in w1.1.1)⟩, hts _ (ma_w_in w1.1.2), hts _ (ma_w_in w1.2)⟩ hp rfl s2 hl.1 s1 hW8 hd hf
              · simp only [Bool.and_eq_true] at w1
                exact vx_runV ⟨hx, hb, hml, hown, hts⟩ hM ⟨⟨rfl, rfl, hfr, hlo, hws, hcode, hts _ m1, hts _ m2, ⟨m5, m6⟩, hlen, hts _ (ma_w_in w1.1.1.1)⟩, hts _ (ma_w_in w1.1.1.2), hts _ (ma_TB_p w1.1.2 w1.2)⟩ hp rfl s2 hl.1 s1 hW8 hd hf
              all_goals cases w1
            · cases h
          · cases h
      · cases h
  · next x =>
    split at h
    · cases h
    · next q hq =>
      split at h
      · next hk =>
        cases h
        have := (ma_fd_spec hq).2.2.2.2.1
        omega
      · cases h
  · next x =>
    split at h
    · cases h
    · next q hq =>
      split at h
      · split at h
        · cases h
          have := (ma_fd_spec hq).2.2.2.2.1
          omega
        · cases h
      · cases h
  · cases h
end MA12
theorem ma_ts_app (ad : Nat → Nat) (v : Option ma_V) (r : List ma_V) : (v.map (ma_tv ad)).toList ++ ma_ts ad r = ma_ts ad (v.toList ++ r) := by
  cases v <;> rfl
theorem ma_ok_all (X : Nat × (Nat → Int32)) (l : Launch) (hlt : l.stackTraces = false) : ∀ f, ma_OK X l f := by
  intro f
  induction f with
  | zero => intro d w M pc L st S out S' h; cases h
  | succ f ih =>
    intro d w M pc L st S out S' h o y cc nL ret hmd p e R s m args below meth c H locs cells slots Q ls ad kA D A C Wd hr1 hr2 kr kt
    have hcnt := ma_run_c _ _ _ _ _ _ _ _ _ _ h Wd.2.1 Wd.2.2.1 Wd.2.2.2.1
    unfold ma_run at h
    rw [hmd] at h
    simp only at h
    split at h
    · cases h
    · next i n hd =>
      split at h
      · next pc1 L1 st1 S1 h1 =>
        have cl := ma_one_c Wd.2.1 Wd.2.2.1 Wd.2.2.2.1 h1
        have cnt1 := ma_run_c _ _ _ _ _ _ _ _ _ _ h cl.1 cl.2.1 cl.2.2.1
        have ec : mC S' - mC S = (mC S1 - mC S) + (mC S' - mC S1) := by omega
        have ez : mZ S' - mZ S = (mZ S1 - mZ S) + (mZ S' - mZ S1) := by omega
        refine ma_one_ok C Wd hd h1 (by omega) (by omega) (fun ad1 H1 locs1 ls1 hag Wd1 => ?_)
        refine ih d w M pc1 L1 st1 S1 out S' h o y cc nL ret hmd p e R s m args below meth c H1 locs1 _ _ Q ls1 ad1 kA D A C Wd1 (by omega) (by omega) ?_ ?_
        · intro v hv ad2 H2 locs2 ls2 pc2 n2 i2 st2 hag2 Wd2 hd2 hret
          have := kr v hv ad2 H2 locs2 ls2 pc2 n2 i2 st2 (fun b hb => (hag2 b (by omega)).trans (hag b hb)) Wd2 hd2 hret
          rw [ec, ez, ← Nat.add_assoc, ← Nat.add_assoc] at this
          exact this
        · intro x px hx
          obtain ⟨k1, k2⟩ := kt x px hx
          refine ⟨fun ad2 H2 locs2 ls2 st2 S2 hag2 Wd2 hb2 hm1 hm2 hth h6 hw => ?_, fun ad2 H2 locs2 ls2 r2 q ce hag2 Wd2 hce hcv hcl => ?_⟩
          · have := k1 ad2 H2 locs2 ls2 st2 S2 (fun b hb => (hag2 b (by omega)).trans (hag b hb)) Wd2 hb2 (by omega) (by omega) hth h6 hw
            rw [show mC S2 - mC S = (mC S1 - mC S) + (mC S2 - mC S1) by omega, show mZ S2 - mZ S = (mZ S1 - mZ S) + (mZ S2 - mZ S1) by omega, ← Nat.add_assoc, ← Nat.add_assoc] at this
            exact this
          · have := k2 ad2 H2 locs2 ls2 r2 q ce (fun b hb => (hag2 b (by omega)).trans (hag b hb)) Wd2 hce hcv hcl
            rw [ec, ez, ← Nat.add_assoc, ← Nat.add_assoc] at this
            exact this
      · split at h
        · next v hv =>
          cases h
          have hWd := Wd
          obtain ⟨hl, hh, hL, hc, hP, hD, hS, hX⟩ := Wd
          have := kr v rfl ad H locs ls pc n i st (fun _ _ => rfl) ⟨⟨hl.1, hl.2.1, fun q hq => by cases hq⟩, hh, ma_nil_cL, hc, hP, hD, hS, hX⟩ hd hv
          simp only [Nat.sub_self, Nat.add_zero] at this
          exact this
        · split at h
          · next x hth =>
            split at h
            · next hroom =>
              cases h
              obtain ⟨hl, hh, hL, hc, hP, hD, hS, hX⟩ := Wd
              have := (kt x pc rfl).1 ad H locs ls st S (fun _ _ => rfl) ⟨⟨hl.1, hl.2.1, fun q hq => by cases hq⟩, hh, ma_nil_cL, hc, hP, hD, hS, hX⟩ rfl (Nat.le_refl _) (Nat.le_refl _) hth hroom.1 hroom.2
              simp only [Nat.sub_self, Nat.add_zero] at this
              exact this
            · cases h
          · split at h
            · cases h
            · next k M' as rest hcl =>
              obtain ⟨g1, g2, g3⟩ := ma_cl_c Wd.2.2.2.1 hcl
              split at h
              · cases h
              · next o' y' cc' nL' ret' hmd' =>
                split at h
                · next hroom =>
                  obtain ⟨r1, r2, r3, r4⟩ := hroom
                  split at h
                  · next v S1 hrun =>
                    have cnt1 := ma_run_c _ _ _ _ _ _ _ _ _ _ hrun Wd.2.1 (ma_args_cL as 0 g1) ma_nil_cs
                    have cs1 : ma_cs (mN S1) (v.toList ++ rest) := ma_opt_cs (fun u hu => cnt1.2.2.2.2 u (by rw [hu])) (g2.mono cnt1.2.1)
                    have cnt2 := ma_run_c _ _ _ _ _ _ _ _ _ _ h cnt1.1 (Wd.2.2.1.mono cnt1.2.1) cs1
                    have ec : mC S' - mC S = (mC S1 - mC S) + (mC S' - mC S1) := by omega
                    have ez : mZ S' - mZ S = (mZ S1 - mZ S) + (mZ S' - mZ S1) := by omega
                    have hmet := ma_met ih hmd' Wd.2.1 g1 r3 hrun D kA ad H.size
                    have hrn := ma_cl_run (l := l) (e := e) (below := below) (cells := cells) (slots := slots) C Wd hd hcl hmd' r1 r2 r4 hmet ⟨by omega, by omega⟩
                    have hA := C.2.2.2.2.2.2.2.2.2.2
                    have hl := Wd.1
                    refine ma_called hrn Wd.2.2.2.2.2.1 Wd.2.2.2.2.2.2.1 hA (fun ad1 H1 locs1 hag hP1 hD1 hS1 => ?_)
                    have hrest : ma_ts ad1 rest = ma_ts ad rest := ma_ts_ad g2 hag
                    rw [← hrest, ma_ts_app]
                    have Wd1 : ma_Wd X s nL D kA A ad1 L (v.toList ++ rest) S1 H1 locs1 ls := ⟨by rw [ma_tl_ad Wd.2.2.1 hag]; exact hl, cnt1.1, Wd.2.2.1.mono cnt1.2.1, cs1, hP1, hD1, hS1, Wd.2.2.2.2.2.2.2.ad (fun b hb => hag b (Nat.lt_of_lt_of_le hb Wd.2.1.2))⟩
                    refine ih d w M (pc + 3) L (v.toList ++ rest) S1 out S' h o y cc nL ret hmd p e R s m args below meth c H1 locs1 _ _ Q ls ad1 kA D A C Wd1 (by omega) (by omega) ?_ ?_
                    · intro v2 hv ad2 H2 locs2 ls2 pc2 n2 i2 st2 hag2 Wd2 hd2 hret
                      have := kr v2 hv ad2 H2 locs2 ls2 pc2 n2 i2 st2 (fun b hb => (hag2 b (by omega)).trans (hag b hb)) Wd2 hd2 hret
                      rw [ec, ez, ← Nat.add_assoc, ← Nat.add_assoc] at this
                      exact this
                    · intro x px hx
                      obtain ⟨k1, k2⟩ := kt x px hx
                      refine ⟨fun ad2 H2 locs2 ls2 st2 S2 hag2 Wd2 hb2 hm1 hm2 hth h6 hw => ?_, fun ad2 H2 locs2 ls2 r2 q ce hag2 Wd2 hce hcv hcl => ?_⟩
                      · have := k1 ad2 H2 locs2 ls2 st2 S2 (fun b hb => (hag2 b (by omega)).trans (hag b hb)) Wd2 hb2 (by omega) (by omega) hth h6 hw
                        rw [show mC S2 - mC S = (mC S1 - mC S) + (mC S2 - mC S1) by omega, show mZ S2 - mZ S = (mZ S1 - mZ S) + (mZ S2 - mZ S1) by omega, ← Nat.add_assoc, ← Nat.add_assoc] at this
                        exact this
                      · have := k2 ad2 H2 locs2 ls2 r2 q ce (fun b hb => (hag2 b (by omega)).trans (hag b hb)) Wd2 hce hcv hcl
                        rw [ec, ez, ← Nat.add_assoc, ← Nat.add_assoc] at this
                        exact this
                  · next x px S1 hrun =>
                    split at h
                    · next hk =>
                      cases h
                      have cnt1 := ma_run_c _ _ _ _ _ _ _ _ _ _ hrun Wd.2.1 (ma_args_cL as 0 g1) ma_nil_cs
                      have hmet := ma_metx ih hlt hmd' Wd.2.1 g1 r3 hrun D kA ad H.size
                      have hrn := ma_cl_thr (l := l) (e := e) (below := below) (cells := cells) (slots := slots) C Wd hd hcl hk hmd' r1 r2 r4 hmet ⟨by omega, by omega⟩
                      have hA := C.2.2.2.2.2.2.2.2.2.2
                      have hl := Wd.1
                      refine ma_threw hrn Wd.2.2.2.2.2.1 Wd.2.2.2.2.2.2.1 hA (fun ad1 H1 locs1 q ce hag hP1 hD1 hS1 hce hcv hcl => ?_)
                      have hrest : ma_ts ad1 rest = ma_ts ad rest := ma_ts_ad g2 hag
                      rw [← hrest]
                      exact (kt x pc rfl).2 ad1 H1 locs1 ls rest q ce hag ⟨⟨hl.1, hl.2.1, fun q hq => by cases hq⟩, cnt1.1, ma_nil_cL, g2.mono cnt1.2.1, hP1, hD1, hS1, Wd.2.2.2.2.2.2.2.ad (fun b hb => hag b (Nat.lt_of_lt_of_le hb Wd.2.1.2))⟩ hce hcv hcl
                    · cases h
                  · cases h
                · cases h
end
section
section MA13
variable {p : Program} {l : Launch} {e : Env} {R : Room} {s : State} {m : MethodId} {args : Array Value} {below : List Frame} {meth : Method} {c : Code} {H : Heap} {locs : List Loc} {cells slots : Nat} {Q : State → Prop}
variable {mc ms : Nat} {free : Addr → Prop} {A0 A1 : Nat → Prop} {H0 : Heap} {a : Array Value} {pc : Nat} {ls : Array Slot} {st0 rest : List Value}
theorem vx_catch {own name : String} {E : String} {ce : Cell} {q : Addr} (hown : s.vm.findClass own = some m.cls) (pre : List ExceptionTableEntry) (x : ExceptionTableEntry) (suf : List ExceptionTableEntry) (hsplit : c.exceptionTable.toList = pre ++ x :: suf)
    (hpass : ∀ z ∈ pre, covers z pc = false ∨ (z.catchType ≠ 0 ∧ ∃ nm : String, (Cond.classLink own z.catchType nm).before args s = true ∧ va_Nc E nm s)) (hx : covers x pc = true) (h0 : x.catchType ≠ 0)
    (hlink : (Cond.classLink own x.catchType name).before args s = true) (hcast : (Cond.castable E name).before args s = true) (hcell : H[q]? = some ce) (hv : ce.vm = .none) (hcl : s.vm.findClass E = some ce.cls)
    (kk : W p l e R s m args below meth c H locs cells slots Q (F0 m x.handlerPc ls [.ref q])) : vx_W p l e R s m args below meth c H locs cells slots Q (F0 m pc ls rest) q := by
  intro T hT X
  have hpl : e.platform.magicAccessors = ({} : Platform).magicAccessors := by rw [X.admits.platform]
  obtain ⟨c3, c4, hc3, hc4, hasg⟩ := Cond.castable_spec hcast
  cases Option.some.inj (hc3.symm.trans hcl)
  obtain ⟨c5, hc5, hcl5⟩ := Cond.classLink_spec hown hlink e.platform hpl
  cases Option.some.inj (hc4.symm.trans hc5)
  obtain ⟨vm', X', st⟩ := Stand.thenCaughtThrough X q (g := F0 m pc ls rest) rfl (Steps.refl _) (by rw [hT]; exact hcell) (by rw [hv]; rfl) (by obtain ⟨k9, h9, -⟩ := Vm.findClass_spec hcl; exact ⟨k9, h9⟩) pre x suf hsplit
    (fun z hz => by
      rcases hpass z hz with h | ⟨hz0, nm, hl1, hn1⟩
      · exact Or.inl h
      · obtain ⟨c6, hc6, hcl6⟩ := Cond.classLink_spec hown hl1 e.platform hpl
        obtain ⟨a8, b8, h1, h2, h3⟩ := hn1
        cases Option.some.inj (h1.symm.trans hcl)
        cases Option.some.inj (h2.symm.trans hc6)
        exact Or.inr ⟨hz0, _, hcl6, h3⟩) hx (Or.inr ⟨h0, c4, hcl5, hasg⟩)
  obtain ⟨t, a1, b1⟩ := kk (T.setVm vm') hT X'
  exact ⟨t, st.trans a1, b1⟩
end MA13
end
section
/-! THE SMALL MACHINE, part 13: the law's own frame and its methods that catch -/
/-- the frames of the law: 0 the law itself, the others its methods with a table: code, locals, answer, table -/
def ma_fi (k : Nat) : Option (ByteArray × Nat × Option FieldType × List (Nat × Nat × Nat × Nat)) := match k with
  | 0 => some (code, 7, some .boolean, [])
  | 1 => some (method_3_code, 8, some .int, [(0, 16, 19, 13)])
  | 2 => some (method_4_code, 4, some .int, [(0, 9, 12, 19)])
  | 3 => some (method_5_code, 5, some .int, [(0, 10, 13, 19), (0, 10, 17, 25)])
  | 4 => some (method_6_code, 5, some .int, [(0, 10, 13, 19), (0, 10, 17, 25)])
  | 5 => some (method_7_code, 6, some .int, [(0, 12, 15, 19), (0, 12, 19, 25)])
  | 6 => some (method_8_code, 6, some .int, [(0, 12, 15, 25), (0, 12, 19, 38), (0, 12, 23, 13), (0, 12, 27, 40)])
  | 7 => some (method_9_code, 6, some .int, [(0, 12, 15, 25), (0, 12, 19, 38), (0, 12, 23, 13), (0, 12, 27, 40)])
  | 8 => some (method_10_code, 5, some .int, [(0, 10, 13, 25), (0, 10, 17, 38), (0, 10, 21, 13)])
  | 9 => some (method_11_code, 5, some .int, [(0, 10, 13, 19), (0, 10, 17, 25), (0, 10, 21, 38)])
  | 10 => some (method_12_code, 5, some .int, [(0, 10, 13, 19), (0, 10, 17, 25), (0, 10, 21, 38)])
  | 11 => some (method_13_code, 5, some .int, [(0, 10, 13, 19), (0, 10, 17, 25)])
  | 12 => some (method_14_code, 5, some .int, [(0, 10, 13, 25), (0, 10, 17, 38), (0, 10, 21, 61)])
  | 13 => some (method_15_code, 4, some .int, [(0, 9, 12, 25), (0, 9, 15, 38)])
  | 14 => some (method_16_code, 4, some .int, [(0, 9, 12, 19), (0, 9, 15, 25)])
  | 15 => some (method_17_code, 3, some .int, [(0, 8, 11, 25)])
  | 16 => some (method_18_code, 4, some .int, [(0, 9, 12, 19), (0, 9, 15, 25), (0, 9, 18, 61)])
  | 17 => some (method_19_code, 5, some .int, [(0, 10, 13, 19), (0, 10, 17, 25), (0, 10, 21, 38)])
  | 18 => some (method_20_code, 5, some .int, [(0, 10, 13, 19), (0, 10, 17, 25), (0, 10, 21, 61), (0, 10, 25, 13)])
  | 19 => some (method_21_code, 4, some .int, [(0, 9, 12, 19), (0, 9, 15, 25)])
  | _ => none
def ma_fy (k : Nat) : MethodName := match k with
  | 1 => ⟨"CollectorHouseLaw", "feed", "(LCollectorHouse;IIIII[J)I"⟩
  | 2 => ⟨"CollectorHouseLaw", "end", "(LCollectorHouse;I[J)I"⟩
  | 3 => ⟨"CollectorHouseLaw", "kind", "(LCollectorHouse;II[J)I"⟩
  | 4 => ⟨"CollectorHouseLaw", "make", "(LCollectorHouse;II[J)I"⟩
  | 5 => ⟨"CollectorHouseLaw", "row", "(LCollectorHouse;ZII[J)I"⟩
  | 6 => ⟨"CollectorHouseLaw", "put", "(LCollectorHouse;III[J)I"⟩
  | 7 => ⟨"CollectorHouseLaw", "link", "(LCollectorHouse;III[J)I"⟩
  | 8 => ⟨"CollectorHouseLaw", "get", "(LCollectorHouse;II[J)I"⟩
  | 9 => ⟨"CollectorHouseLaw", "root", "(LCollectorHouse;II[J)I"⟩
  | 10 => ⟨"CollectorHouseLaw", "weak", "(LCollectorHouse;II[J)I"⟩
  | 11 => ⟨"CollectorHouseLaw", "strong", "(LCollectorHouse;II[J)I"⟩
  | 12 => ⟨"CollectorHouseLaw", "hold", "(LCollectorHouse;IZ[J)I"⟩
  | 13 => ⟨"CollectorHouseLaw", "wish", "(LCollectorHouse;I[J)I"⟩
  | 14 => ⟨"CollectorHouseLaw", "granted", "(LCollectorHouse;I[J)I"⟩
  | 15 => ⟨"CollectorHouseLaw", "clean", "(LCollectorHouse;[J)I"⟩
  | 16 => ⟨"CollectorHouseLaw", "step", "(LCollectorHouse;I[J)I"⟩
  | 17 => ⟨"CollectorHouseLaw", "about", "(LCollectorHouse;II[J)I"⟩
  | 18 => ⟨"CollectorHouseLaw", "block", "(LCollectorHouse;II[J)I"⟩
  | 19 => ⟨"CollectorHouseLaw", "count", "(LCollectorHouse;I[J)I"⟩
  | _ => ⟨"", "", ""⟩
theorem ma_fw1 : Cond.codeWith (ma_fy 1) method_3_code 8 (some .int) [(0, 16, 19, 13)] ∈ ma_TB ∧ Cond.static (ma_fy 1) ∈ ma_TB ∧ (ma_fy 1).cls = "CollectorHouseLaw" := ⟨ma_T3 (i := 44) rfl rfl, ma_T3 (i := 43) (by decide +kernel) (by decide +kernel), rfl⟩
theorem ma_fw2 : Cond.codeWith (ma_fy 2) method_4_code 4 (some .int) [(0, 9, 12, 19)] ∈ ma_TB ∧ Cond.static (ma_fy 2) ∈ ma_TB ∧ (ma_fy 2).cls = "CollectorHouseLaw" := ⟨ma_T3 (i := 122) rfl rfl, ma_T3 (i := 121) (by decide +kernel) (by decide +kernel), rfl⟩
theorem ma_fw3 : Cond.codeWith (ma_fy 3) method_5_code 5 (some .int) [(0, 10, 13, 19), (0, 10, 17, 25)] ∈ ma_TB ∧ Cond.static (ma_fy 3) ∈ ma_TB ∧ (ma_fy 3).cls = "CollectorHouseLaw" := ⟨ma_T3 (i := 145) rfl rfl, ma_T3 (i := 144) (by decide +kernel) (by decide +kernel), rfl⟩
theorem ma_fw4 : Cond.codeWith (ma_fy 4) method_6_code 5 (some .int) [(0, 10, 13, 19), (0, 10, 17, 25)] ∈ ma_TB ∧ Cond.static (ma_fy 4) ∈ ma_TB ∧ (ma_fy 4).cls = "CollectorHouseLaw" := ⟨ma_T3 (i := 168) rfl rfl, ma_T3 (i := 167) (by decide +kernel) (by decide +kernel), rfl⟩
theorem ma_fw5 : Cond.codeWith (ma_fy 5) method_7_code 6 (some .int) [(0, 12, 15, 19), (0, 12, 19, 25)] ∈ ma_TB ∧ Cond.static (ma_fy 5) ∈ ma_TB ∧ (ma_fy 5).cls = "CollectorHouseLaw" := ⟨ma_T5 (i := 216) rfl rfl, ma_T5 (i := 215) (by decide +kernel) (by decide +kernel), rfl⟩
theorem ma_fw6 : Cond.codeWith (ma_fy 6) method_8_code 6 (some .int) [(0, 12, 15, 25), (0, 12, 19, 38), (0, 12, 23, 13), (0, 12, 27, 40)] ∈ ma_TB ∧ Cond.static (ma_fy 6) ∈ ma_TB ∧ (ma_fy 6).cls = "CollectorHouseLaw" := ⟨ma_T5 (i := 224) rfl rfl, ma_T5 (i := 223) (by decide +kernel) (by decide +kernel), rfl⟩
theorem ma_fw7 : Cond.codeWith (ma_fy 7) method_9_code 6 (some .int) [(0, 12, 15, 25), (0, 12, 19, 38), (0, 12, 23, 13), (0, 12, 27, 40)] ∈ ma_TB ∧ Cond.static (ma_fy 7) ∈ ma_TB ∧ (ma_fy 7).cls = "CollectorHouseLaw" := ⟨ma_T6 (i := 33) rfl rfl, ma_T6 (i := 32) (by decide +kernel) (by decide +kernel), rfl⟩
theorem ma_fw8 : Cond.codeWith (ma_fy 8) method_10_code 5 (some .int) [(0, 10, 13, 25), (0, 10, 17, 38), (0, 10, 21, 13)] ∈ ma_TB ∧ Cond.static (ma_fy 8) ∈ ma_TB ∧ (ma_fy 8).cls = "CollectorHouseLaw" := ⟨ma_T6 (i := 57) rfl rfl, ma_T6 (i := 56) (by decide +kernel) (by decide +kernel), rfl⟩
theorem ma_fw9 : Cond.codeWith (ma_fy 9) method_11_code 5 (some .int) [(0, 10, 13, 19), (0, 10, 17, 25), (0, 10, 21, 38)] ∈ ma_TB ∧ Cond.static (ma_fy 9) ∈ ma_TB ∧ (ma_fy 9).cls = "CollectorHouseLaw" := ⟨ma_T6 (i := 68) rfl rfl, ma_T6 (i := 67) (by decide +kernel) (by decide +kernel), rfl⟩
theorem ma_fw10 : Cond.codeWith (ma_fy 10) method_12_code 5 (some .int) [(0, 10, 13, 19), (0, 10, 17, 25), (0, 10, 21, 38)] ∈ ma_TB ∧ Cond.static (ma_fy 10) ∈ ma_TB ∧ (ma_fy 10).cls = "CollectorHouseLaw" := ⟨ma_T6 (i := 75) rfl rfl, ma_T6 (i := 74) (by decide +kernel) (by decide +kernel), rfl⟩
theorem ma_fw11 : Cond.codeWith (ma_fy 11) method_13_code 5 (some .int) [(0, 10, 13, 19), (0, 10, 17, 25)] ∈ ma_TB ∧ Cond.static (ma_fy 11) ∈ ma_TB ∧ (ma_fy 11).cls = "CollectorHouseLaw" := ⟨ma_T6 (i := 82) rfl rfl, ma_T6 (i := 81) (by decide +kernel) (by decide +kernel), rfl⟩
theorem ma_fw12 : Cond.codeWith (ma_fy 12) method_14_code 5 (some .int) [(0, 10, 13, 25), (0, 10, 17, 38), (0, 10, 21, 61)] ∈ ma_TB ∧ Cond.static (ma_fy 12) ∈ ma_TB ∧ (ma_fy 12).cls = "CollectorHouseLaw" := ⟨ma_T6 (i := 102) rfl rfl, ma_T6 (i := 101) (by decide +kernel) (by decide +kernel), rfl⟩
theorem ma_fw13 : Cond.codeWith (ma_fy 13) method_15_code 4 (some .int) [(0, 9, 12, 25), (0, 9, 15, 38)] ∈ ma_TB ∧ Cond.static (ma_fy 13) ∈ ma_TB ∧ (ma_fy 13).cls = "CollectorHouseLaw" := ⟨ma_T6 (i := 144) rfl rfl, ma_T6 (i := 143) (by decide +kernel) (by decide +kernel), rfl⟩
theorem ma_fw14 : Cond.codeWith (ma_fy 14) method_16_code 4 (some .int) [(0, 9, 12, 19), (0, 9, 15, 25)] ∈ ma_TB ∧ Cond.static (ma_fy 14) ∈ ma_TB ∧ (ma_fy 14).cls = "CollectorHouseLaw" := ⟨ma_T6 (i := 151) rfl rfl, ma_T6 (i := 150) (by decide +kernel) (by decide +kernel), rfl⟩
theorem ma_fw15 : Cond.codeWith (ma_fy 15) method_17_code 3 (some .int) [(0, 8, 11, 25)] ∈ ma_TB ∧ Cond.static (ma_fy 15) ∈ ma_TB ∧ (ma_fy 15).cls = "CollectorHouseLaw" := ⟨ma_T6 (i := 162) rfl rfl, ma_T6 (i := 161) (by decide +kernel) (by decide +kernel), rfl⟩
theorem ma_fw16 : Cond.codeWith (ma_fy 16) method_18_code 4 (some .int) [(0, 9, 12, 19), (0, 9, 15, 25), (0, 9, 18, 61)] ∈ ma_TB ∧ Cond.static (ma_fy 16) ∈ ma_TB ∧ (ma_fy 16).cls = "CollectorHouseLaw" := ⟨ma_T6 (i := 181) rfl rfl, ma_T6 (i := 180) (by decide +kernel) (by decide +kernel), rfl⟩
theorem ma_fw17 : Cond.codeWith (ma_fy 17) method_19_code 5 (some .int) [(0, 10, 13, 19), (0, 10, 17, 25), (0, 10, 21, 38)] ∈ ma_TB ∧ Cond.static (ma_fy 17) ∈ ma_TB ∧ (ma_fy 17).cls = "CollectorHouseLaw" := ⟨ma_T6 (i := 189) rfl rfl, ma_T6 (i := 188) (by decide +kernel) (by decide +kernel), rfl⟩
theorem ma_fw18 : Cond.codeWith (ma_fy 18) method_20_code 5 (some .int) [(0, 10, 13, 19), (0, 10, 17, 25), (0, 10, 21, 61), (0, 10, 25, 13)] ∈ ma_TB ∧ Cond.static (ma_fy 18) ∈ ma_TB ∧ (ma_fy 18).cls = "CollectorHouseLaw" := ⟨ma_T6 (i := 223) rfl rfl, ma_T6 (i := 222) (by decide +kernel) (by decide +kernel), rfl⟩
theorem ma_fw19 : Cond.codeWith (ma_fy 19) method_21_code 4 (some .int) [(0, 9, 12, 19), (0, 9, 15, 25)] ∈ ma_TB ∧ Cond.static (ma_fy 19) ∈ ma_TB ∧ (ma_fy 19).cls = "CollectorHouseLaw" := ⟨ma_T6 (i := 238) rfl rfl, ma_T6 (i := 237) (by decide +kernel) (by decide +kernel), rfl⟩
theorem ma_fw {k nL : Nat} {cc : ByteArray} {ret : Option FieldType} {hh : List (Nat × Nat × Nat × Nat)} (hk : 1 ≤ k) (h : ma_fi k = some (cc, nL, ret, hh)) : Cond.codeWith (ma_fy k) cc nL ret hh ∈ ma_TB ∧ Cond.static (ma_fy k) ∈ ma_TB ∧ (ma_fy k).cls = "CollectorHouseLaw" := by
  unfold ma_fi at h
  split at h
  · omega
  · cases h; exact ma_fw1
  · cases h; exact ma_fw2
  · cases h; exact ma_fw3
  · cases h; exact ma_fw4
  · cases h; exact ma_fw5
  · cases h; exact ma_fw6
  · cases h; exact ma_fw7
  · cases h; exact ma_fw8
  · cases h; exact ma_fw9
  · cases h; exact ma_fw10
  · cases h; exact ma_fw11
  · cases h; exact ma_fw12
  · cases h; exact ma_fw13
  · cases h; exact ma_fw14
  · cases h; exact ma_fw15
  · cases h; exact ma_fw16
  · cases h; exact ma_fw17
  · cases h; exact ma_fw18
  · cases h; exact ma_fw19
  · cases h
theorem ma_fwi : Cond.initialized "CollectorHouseLaw" ∈ ma_TB := ma_T1 (i := 0) (by decide +kernel) (by decide +kernel)
/-- calls of those: pool entry, method, how many arguments -/
def ma_cwh : List ((Nat × Nat × Nat) × Nat) := [((89, 1, 7), 522), ((98, 2, 3), 600), ((102, 3, 4), 623), ((110, 4, 4), 646), ((113, 5, 5), 1174), ((117, 6, 5), 1182), ((121, 7, 5), 1231), ((124, 8, 4), 1255), ((127, 9, 4), 1266), ((130, 10, 4), 1273), ((133, 11, 4), 1280), ((136, 12, 4), 1300), ((140, 13, 3), 1342), ((143, 14, 3), 1349), ((146, 15, 2), 1360), ((150, 16, 3), 1379), ((153, 17, 4), 1387), ((156, 18, 4), 1421), ((159, 19, 3), 1436)]
theorem ma_cwh_ok : ∀ q ∈ ma_cwh, (ma_w q.2 (.methodLink "CollectorHouseLaw" q.1.1 (ma_fy q.1.2.1)) && decide ((parseMethodDescriptor (ma_fy q.1.2.1).desc).map (fun d => d.parameters.length) = some q.1.2.2) && decide (1 ≤ q.1.2.1)) = true := List.all_eq_true.mp (by decide +kernel)
def ma_cw (i : Instr) (n : Nat) (st : List ma_V) : Option (Nat × List ma_V × List ma_V) := match i, n with
  | .invokestatic x, 3 => match ma_cwh.find? (fun q => q.1.1 == x) with
    | some q => if q.1.2.2 ≤ st.length then some (q.1.2.1, (st.take q.1.2.2).reverse, st.drop q.1.2.2) else none
    | none => none
  | _, _ => none
/-- the classes that the tables name -/
def ma_cth2 : List ((Nat × Nat) × Nat) := [((13, 1), 525), ((19, 2), 603), ((25, 3), 626), ((38, 4), 1185), ((40, 5), 1186), ((61, 6), 1303)]
theorem ma_cth2_ok : ∀ q ∈ ma_cth2, ma_w q.2 (.classLink "CollectorHouseLaw" q.1.1 (ma_xn q.1.2)) = true := List.all_eq_true.mp (by decide +kernel)
def ma_cx (ct : Nat) : Option Nat := (ma_cth2.find? (fun q => q.1.1 == ct)).map (fun q => q.1.2)
theorem ma_cx_spec {ct x : Nat} (h : ma_cx ct = some x) : Cond.classLink "CollectorHouseLaw" ct (ma_xn x) ∈ ma_TB := by
  unfold ma_cx at h
  cases hf : ma_cth2.find? (fun q => q.1.1 == ct) with
  | none => rw [hf] at h; cases h
  | some q =>
    rw [hf] at h
    have hk : q.1.2 = x := Option.some.inj h
    have h1 := List.find?_some hf
    simp only [beq_iff_eq] at h1
    have h2 := ma_cth2_ok q (List.mem_of_find?_eq_some hf)
    rw [hk, h1] at h2
    exact ma_w_in h2
/-- the answer behind a handler: put it away, a constant, answer -/
def ma_hk (cc : ByteArray) (nL h : Nat) : Option Int32 := match decode cc h with
  | .ok (.astore_n k, 1) => if (k : Nat) < nL then (match decode cc (h + 1), decode cc (h + 1 + 1) with
    | .ok (.iconst c, 1), .ok (.ireturn, 1) => some (Int32.ofInt c)
    | _, _ => none) else none
  | .ok (.astore k, 2) => if k < nL then (match decode cc (h + 2), decode cc (h + 2 + 1) with
    | .ok (.iconst c, 1), .ok (.ireturn, 1) => some (Int32.ofInt c)
    | _, _ => none) else none
  | _ => none
/-- the first row of the table that takes exception x, thrown at pc -/
def ma_hd (cc : ByteArray) (nL x pc : Nat) (hh : List (Nat × Nat × Nat × Nat)) : Option Int32 := match hh with
  | [] => none
  | q :: r => if covers ⟨q.1, q.2.1, q.2.2.1, q.2.2.2⟩ pc && decide (q.2.2.2 ≠ 0) then (match ma_cx q.2.2.2 with
    | some z => if z = x then (if Cond.castable (ma_xn x) (ma_xn x) ∈ ma_nw then ma_hk cc nL q.2.2.1 else none) else if (ma_xn x, ma_xn z) ∈ ma_nc then ma_hd cc nL x pc r else none
    | none => none) else none
def ma_frun (X : Nat × (Nat → Int32)) : Nat → Nat → Nat → Nat → Nat → ma_L → List ma_V → ma_S → Option (Option ma_V × ma_S)
  | 0, _, _, _, _, _, _, _ => none
  | f + 1, k, d, w, pc, L, st, S => match ma_fi k with
    | none => none
    | some (cc, nL, ret, hh) => match decode cc pc with
      | .error _ => none
      | .ok (i, n) => match ma_one X 14 false nL d w i n pc L st S with
        | some (pc', L', st', S') => ma_frun X f k d w pc' L' st' S'
        | none => match ma_ret ret i n st with
          | some v => some (v, S)
          | none => match ma_cl 14 i n st S with
            | some ((kd, M'), as, rest) => (match ma_md M' with
              | none => none
              | some (_, _, _, nL', _) => if 1 ≤ d ∧ 19 + nL' ≤ w ∧ ma_sz as ≤ nL' ∧ ma_sz rest ≤ 8 then (match ma_run X f (d - 1) (w - (19 + nL')) M' 0 (ma_args 0 as) [] S with
                | some (.inl v, S') => ma_frun X f k d w (pc + 3) L (v.toList ++ rest) S'
                | some (.inr (x, _), S') => if kd ≤ 1 ∧ ret = some .int then (ma_hd cc nL x pc hh).map (fun c => (some (.inl c), S')) else none
                | none => none) else none)
            | none => match ma_cw i n st with
              | none => none
              | some (k', as, rest) => match ma_fi k' with
                | none => none
                | some (_, nL', _, _) => if 1 ≤ d ∧ 19 + nL' ≤ w ∧ ma_sz as ≤ nL' ∧ ma_sz rest ≤ 8 then (match ma_frun X f k' (d - 1) (w - (19 + nL')) 0 (ma_args 0 as) [] S with
                  | some (v, S') => ma_frun X f k d w (pc + 3) L (v.toList ++ rest) S'
                  | none => none) else none
theorem ma_cw_c {N n k : Nat} {i : Instr} {st as rest : List ma_V} (hc : ma_cs N st) (h : ma_cw i n st = some (k, as, rest)) : ma_cs N as ∧ ma_cs N rest := by
  unfold ma_cw at h
  split at h
  · split at h
    · split at h
      · cases h
        exact ⟨fun v hv => hc v (List.mem_of_mem_take (List.mem_reverse.mp hv)), fun v hv => hc v (List.mem_of_mem_drop hv)⟩
      · cases h
    · cases h
  · cases h
theorem ma_frun_c {X : Nat × (Nat → Int32)} : ∀ (f k d w pc : Nat) (L : ma_L) (st : List ma_V) (S : ma_S) (out : Option ma_V) (S' : ma_S), ma_frun X f k d w pc L st S = some (out, S') → ma_ch S → ma_cL (mN S) L → ma_cs (mN S) st →
    ma_ch S' ∧ mN S ≤ mN S' ∧ mC S ≤ mC S' ∧ mZ S ≤ mZ S' ∧ ∀ u, out = some u → ma_cv (mN S') u := by
  intro f
  induction f with
  | zero => intro k d w pc L st S out S' h; cases h
  | succ f ih =>
    intro k d w pc L st S out S' h hh hL hc
    unfold ma_frun at h
    split at h
    · cases h
    · split at h
      · cases h
      · split at h
        · next pc1 L1 st1 S1 h1 =>
          obtain ⟨a1, a2, a3, a4, a5, a6⟩ := ma_one_c hh hL hc h1
          obtain ⟨b1, b2, b3, b4, b5⟩ := ih _ _ _ _ _ _ _ _ _ h a1 a2 a3
          exact ⟨b1, by omega, by omega, by omega, b5⟩
        · split at h
          · next v hv =>
            cases h
            exact ⟨hh, Nat.le_refl _, Nat.le_refl _, Nat.le_refl _, fun u hu => ma_ret_cv hc hv u hu⟩
          · split at h
            · next kd M' as rest hcl =>
              obtain ⟨g1, g2, g3⟩ := ma_cl_c hc hcl
              split at h
              · cases h
              · split at h
                · split at h
                  · next v S1 hr =>
                    obtain ⟨b1, b2, b3, b4, b5⟩ := ma_run_c _ _ _ _ _ _ _ _ _ _ hr hh (ma_args_cL as 0 g1) ma_nil_cs
                    obtain ⟨c1, c2, c3, c4, c5⟩ := ih _ _ _ _ _ _ _ _ _ h b1 (hL.mono b2) (ma_opt_cs (fun u hu => b5 u (by rw [hu])) (g2.mono b2))
                    exact ⟨c1, by omega, by omega, by omega, c5⟩
                  · next x px S1 hr =>
                    obtain ⟨b1, b2, b3, b4, b5⟩ := ma_run_c _ _ _ _ _ _ _ _ _ _ hr hh (ma_args_cL as 0 g1) ma_nil_cs
                    split at h
                    · cases hq : ma_hd _ _ x pc _ with
                      | none => rw [hq] at h; cases h
                      | some c9 =>
                        rw [hq] at h
                        cases h
                        exact ⟨b1, b2, b3, b4, fun u hu => by cases hu; exact ma_cv_i⟩
                    · cases h
                  · cases h
                · cases h
            · split at h
              · cases h
              · next k' as rest hcw =>
                obtain ⟨g1, g2⟩ := ma_cw_c hc hcw
                split at h
                · cases h
                · split at h
                  · split at h
                    · next v S1 hr =>
                      obtain ⟨b1, b2, b3, b4, b5⟩ := ih _ _ _ _ _ _ _ _ _ hr hh (ma_args_cL as 0 g1) ma_nil_cs
                      obtain ⟨c1, c2, c3, c4, c5⟩ := ih _ _ _ _ _ _ _ _ _ h b1 (hL.mono b2) (ma_opt_cs b5 (g2.mono b2))
                      exact ⟨c1, by omega, by omega, by omega, c5⟩
                    · cases h
                  · cases h
end
section
/-! THE SMALL MACHINE, part 14: the machine follows the law's frames too -/
def ma_FOK (X : Nat × (Nat → Int32)) (l : Launch) (f : Nat) : Prop := ∀ (k d w pc : Nat) (L : ma_L) (st : List ma_V) (S : ma_S) (out : Option ma_V) (S' : ma_S), ma_frun X f k d w pc L st S = some (out, S') →
  ∀ (cc : ByteArray) (nL : Nat) (ret : Option FieldType) (hh : List (Nat × Nat × Nat × Nat)), ma_fi k = some (cc, nL, ret, hh) →
  ∀ (p : Program) (e : Env) (R : Room) (s : State) (m : MethodId) (args : Array Value) (below : List Frame) (meth : Method) (c : Code) (H : Heap) (locs : List Loc) (cells slots : Nat) (Q : State → Prop) (ls : Array Slot) (ad : Nat → Nat) (kA : Nat → ClassId) (D : va_G) (A : Nat → Prop),
  ma_Cx X p R s m args meth c cc 14 false nL d w D kA A → (ret = some .int → c.exceptionTable.toList = tableOf hh) → ma_Wd X s nL D kA A ad L st S H locs ls → cells + (mC S' - mC S) ≤ R.cells → slots + (mZ S' - mZ S) ≤ R.slots →
  (∀ (ad' : Nat → Nat) (H1 : Heap) (locs1 : List Loc) (ls1 : Array Slot) (pc1 n1 : Nat) (i1 : Instr) (st1 : List ma_V), (∀ b, b < mN S → ad' b = ad b) → ma_Wd X s nL D kA A ad' [] st1 S' H1 locs1 ls1 → decode cc pc1 = .ok (i1, n1) → ma_ret ret i1 n1 st1 = some out → W p l e R s m args below meth c H1 locs1 (cells + (mC S' - mC S)) (slots + (mZ S' - mZ S)) Q (F0 m pc1 ls1 (ma_ts ad' st1))) →
  W p l e R s m args below meth c H locs cells slots Q (F0 m pc ls (ma_ts ad st))
section MA14
variable {p : Program} {l : Launch} {e : Env} {R : Room} {s : State} {m : MethodId} {args : Array Value} {below : List Frame} {meth : Method} {c : Code} {H : Heap} {locs : List Loc} {cells slots : Nat} {Q : State → Prop} {cc : ByteArray} {pc : Nat} {ls : Array Slot} {ad : Nat → Nat} {kA : Nat → ClassId} {D : va_G} {A : Nat → Prop}
theorem ma_hk_ok (hx : p.tables.exec = Jvm.exec) (hb : c.code = cc) {nL h : Nat} {c9 : Int32} {q : Addr} (hl : lv_has ls nL []) (hk : ma_hk cc nL h = some c9) (kk : ∀ (ls1 : Array Slot) (pc1 : Nat), lv_has ls1 nL [] → decode cc pc1 = .ok (.ireturn, 1) → W p l e R s m args below meth c H locs cells slots Q (F0 m pc1 ls1 [.int c9])) : W p l e R s m args below meth c H locs cells slots Q (F0 m h ls [.ref q]) := by
  unfold ma_hk at hk
  split at hk
  · next k d0 =>
    split at hk
    · next hlt =>
      split at hk
      · next cst d1 d2 =>
        cases hk
        exact lv_astore_n hx hb d0 rfl hl hlt rfl (fun ls' hl' => lv_iconst hx hb d1 rfl (kk ls' _ ⟨hl'.1, hl'.2.1, fun q hq => by cases hq⟩ d2))
      · cases hk
    · cases hk
  · next k d0 =>
    split at hk
    · next hlt =>
      split at hk
      · next cst d1 d2 =>
        cases hk
        exact lv_astore hx hb d0 hl hlt rfl (fun ls' hl' => lv_iconst hx hb d1 rfl (kk ls' _ ⟨hl'.1, hl'.2.1, fun q hq => by cases hq⟩ d2))
      · cases hk
    · cases hk
  · cases hk
theorem ma_hd_ok (hx : p.tables.exec = Jvm.exec) (hb : c.code = cc) {nL x : Nat} {c9 : Int32} {q : Addr} {ce : Cell} {rest : List Value} (hown : s.vm.findClass (ma_cn 14) = some m.cls) (hts : ∀ w ∈ ma_TB, w.before args s = true) (hN : ma_Nx s) (hl : lv_has ls nL []) (hce : H[q]? = some ce) (hcv : ce.vm = .none) (hcl : s.vm.findClass (ma_xn x) = some ce.cls)
    (kk : ∀ (ls1 : Array Slot) (pc1 : Nat), lv_has ls1 nL [] → decode cc pc1 = .ok (.ireturn, 1) → W p l e R s m args below meth c H locs cells slots Q (F0 m pc1 ls1 [.int c9])) :
    ∀ (hh : List (Nat × Nat × Nat × Nat)) (pre : List ExceptionTableEntry), c.exceptionTable.toList = pre ++ tableOf hh → (∀ z ∈ pre, covers z pc = false ∨ (z.catchType ≠ 0 ∧ ∃ nm : String, (Cond.classLink (ma_cn 14) z.catchType nm).before args s = true ∧ va_Nc (ma_xn x) nm s)) → ma_hd cc nL x pc hh = some c9 → vx_W p l e R s m args below meth c H locs cells slots Q (F0 m pc ls rest) q := by
  intro hh
  induction hh with
  | nil => intro pre _ _ h; cases h
  | cons a r ih =>
    intro pre hsp hpre h
    unfold ma_hd at h
    split at h
    · next hc0 =>
      rw [Bool.and_eq_true] at hc0
      have hc : covers ⟨a.1, a.2.1, a.2.2.1, a.2.2.2⟩ pc = true ∧ a.2.2.2 ≠ 0 := ⟨hc0.1, of_decide_eq_true hc0.2⟩
      split at h
      · next z hz =>
        have hlk := hts _ (ma_cx_spec hz)
        split at h
        · next hzx =>
          subst hzx
          split at h
          · next hca =>
            exact vx_catch (own := ma_cn 14) (name := ma_xn z) hown pre ⟨a.1, a.2.1, a.2.2.1, a.2.2.2⟩ (tableOf r) hsp hpre hc.1 hc.2 hlk (va_Nw.use rfl (hN.1 _ hca)) hce hcv hcl (ma_hk_ok hx hb hl h kk)
          · cases h
        · split at h
          · next hnc =>
            refine ih (pre ++ [⟨a.1, a.2.1, a.2.2.1, a.2.2.2⟩]) (by rw [hsp, List.append_assoc]; rfl) (fun y hy => ?_) h
            rcases List.mem_append.mp hy with hy | hy
            · exact hpre y hy
            · rw [List.mem_singleton] at hy
              subst hy
              exact Or.inr ⟨hc.2, ma_xn z, hlk, hN.2.2 _ hnc⟩
          · cases h
      · cases h
    · cases h
theorem ma_metw {X : Nat × (Nat → Int32)} {f d w k nL : Nat} {ret : Option FieldType} {hh : List (Nat × Nat × Nat × Nat)} {as : List ma_V} {S S' : ma_S} (IH : ma_FOK X l f) (hk : 1 ≤ k) (hfi : ma_fi k = some (cc, nL, ret, hh)) (hch : ma_ch S) (has : ma_cs (mN S) as) (hsz : ma_sz as ≤ nL) {v : Option ma_V} (hrun : ma_frun X f k d w 0 (ma_args 0 as) [] S = some (v, S')) (D : va_G) (kA : Nat → ClassId) (ad : Nat → Nat) (sz : Nat) :
    Met l (ma_fy k) (Cond.codeWith (ma_fy k) cc nL ret hh :: ma_TB) (ma_rm d w (mC S' - mC S) (mZ S' - mZ S)) (ma_Pc X D kA ad S as sz) (ma_Qc D kA ad S S' v) (mC S' - mC S) (mZ S' - mZ S) (va_A (ma_wl kA ad S) sz) := by
  obtain ⟨w1, w2, w3⟩ := ma_fw hk hfi
  refine va_MetW (cc := cc) (maxL := nL) (ret := ret) (hh := hh) (by rw [w3]; decide +kernel) rfl ?_
  intro p e s m args below meth c s₁ B hml hv
  obtain ⟨rfl, rfl, hP, hK, hD0, hN, hX⟩ := hv
  have hts := atoms_spec (ws := Cond.codeWith (ma_fy k) cc nL ret hh :: ma_TB) B.pre
  have hown : s.vm.findClass (ma_fy k).cls = some m.cls := findClass_of_methodNamed B.named
  have hl := lv_entry (ma_ts ad as) (n := nL) (by rw [ma_args_len]; exact hsz)
  rw [lg_entry_eq]
  rw [← ma_args_tl] at hl
  have C : ma_Cx X p (ma_rm d w (mC S' - mC S) (mZ S' - mZ S)) s m (ma_ts ad as).toArray meth c cc 14 false nL d w D kA (va_A (ma_wl kA ad S) s.heap.size) := ⟨B.exec, B.bytes, hml, (by rw [w3] at hown; exact hown), fun w hw => hts w (List.mem_cons_of_mem _ hw), hK, hN, (fun h => by cases h), Nat.le_refl _, Nat.le_refl _, fun q h => Or.inr h⟩
  refine IH k d w 0 (ma_args 0 as) [] S v S' hrun cc nL ret hh hfi p e _ s m _ below meth c s.heap [] 0 0 _ _ ad kA D _ C (fun _ => vx_table (x := ma_fy k) B (hts _ List.mem_cons_self)) ⟨hl, hch, ma_args_cL as 0 has, ma_nil_cs, hP, hD0.self, va_S.rf, hX⟩ (by show 0 + _ ≤ mC S' - mC S; omega) (by show 0 + _ ≤ mZ S' - mZ S; omega) ?_
  intro ad' H1 locs1 ls1 pc1 n1 i1 st1 hag Wd1 hd1 hr1
  obtain ⟨hl, hh1, hL1, hc1, hP1, hD1, hS1, hX1⟩ := Wd1
  rw [Nat.zero_add, Nat.zero_add]
  exact ma_ret_ok B.exec B.bytes B.notSynchronized B.returns hd1 hr1 (fun t ht hW => ⟨ad', rfl, hag, by rw [ht]; exact hP1, hD1, hS1.F ht⟩) hS1.2.2
theorem ma_cw_run {X : Nat × (Nat → Int32)} {nL d w n k nL' mc ms : Nat} {ini : Bool} {i : Instr} {L : ma_L} {st as rest : List ma_V} {S S' : ma_S} {cc' : ByteArray} {ret' : Option FieldType} {hh' : List (Nat × Nat × Nat × Nat)} {v : Option ma_V}
    (C : ma_Cx X p R s m args meth c cc 14 ini nL d w D kA A) (Wd : ma_Wd X s nL D kA A ad L st S H locs ls) (hd : decode cc pc = .ok (i, n)) (h : ma_cw i n st = some (k, as, rest)) (hfi : ma_fi k = some (cc', nL', ret', hh')) (h1 : 1 ≤ d) (h2 : 19 + nL' ≤ w) (h3 : ma_sz rest ≤ 8)
    (hM : 1 ≤ k → Met l (ma_fy k) (Cond.codeWith (ma_fy k) cc' nL' ret' hh' :: ma_TB) (ma_rm (d - 1) (w - (19 + nL')) mc ms) (ma_Pc X D kA ad S as H.size) (ma_Qc D kA ad S S' v) mc ms (va_A (ma_wl kA ad S) H.size)) (hf : cells + mc ≤ R.cells ∧ slots + ms ≤ R.slots) :
    va_Run p l e R s m args below meth c H locs cells slots mc ms (F0 m pc ls (ma_ts ad st)) (ma_ts ad rest) (ma_Qc D kA ad S S' v (ma_ts ad as).toArray) (va_A (ma_wl kA ad S) H.size) := by
  have hpre := fun U hU hW => ma_pre (as := as) C Wd U hU hW
  obtain ⟨hx, hb, hml, hown, hts, hK, hN, hini, hR1, hR2, hA⟩ := C
  obtain ⟨hl, hh, hL, hc, hP, hD, hS, hX⟩ := Wd
  unfold ma_cw at h
  split at h
  · next x =>
    split at h
    · next q hq =>
      split at h
      · next hlen =>
        cases h
        have g1 := List.find?_some hq
        simp only [beq_iff_eq] at g1
        have g2 := ma_cwh_ok q (List.mem_of_find?_eq_some hq)
        simp only [Bool.and_eq_true] at g2
        rw [g1] at g2
        have gk := of_decide_eq_true g2.2
        obtain ⟨w1, w2, w3⟩ := ma_fw gk hfi
        have s2 : (ma_ts ad (st.take q.1.2.2).reverse).length = q.1.2.2 := by
          unfold ma_ts
          rw [List.length_map, List.length_reverse, List.length_take]
          omega
        have s1 : ma_ts ad st = (ma_ts ad (st.take q.1.2.2).reverse).reverse ++ ma_ts ad (st.drop q.1.2.2) := by
          have h0 : ma_ts ad st = ma_ts ad (st.take q.1.2.2 ++ st.drop q.1.2.2) := by rw [List.take_append_drop]
          rw [h0]
          unfold ma_ts
          rw [List.map_append, List.map_reverse, List.reverse_reverse]
        have hws : ∀ w ∈ (Cond.codeWith (ma_fy q.1.2.1) cc' nL' ret' hh' :: ma_TB), ∀ (a' : Array Value) (U : State), s.WarmedH U.vm → w.before a' U = true := by
          intro w hw a' U hW
          have hm : w ∈ ma_TB := by
            rcases List.mem_cons.mp hw with e1 | e1
            · rw [e1]; exact w1
            · exact e1
          exact word_at hW (good_of_word (List.mem_filter.mp hm).2) (hts w hm)
        refine vx_runSW (hh := hh') ⟨hx, hb, hml, hown, hts⟩ (hM gk) ⟨⟨rfl, rfl, by show d - 1 + 1 ≤ _; omega, by show 8 + (nL' + 11) + (w - (19 + nL')) ≤ _; omega, hws, List.mem_cons_self⟩, hts _ w1, by rw [w3]; exact hts _ ma_fwi, by rw [w3]; exact ⟨by decide, by decide⟩, ?_, hts _ (ma_w_in g2.1.1), hts _ w2⟩ ⟨ma_Pc_blind, hpre⟩ rfl s2 hl.1 s1 (lv_room (by rw [ma_sz_ts]; exact h3)) hd hf
        intro sig hs
        have := of_decide_eq_true g2.1.2
        rw [hs] at this
        exact (Option.some.inj this).symm
      · cases h
    · cases h
  · cases h
end MA14
theorem ma_fok_all (X : Nat × (Nat → Int32)) (l : Launch) (hlt : l.stackTraces = false) : ∀ f, ma_FOK X l f := by
  intro f
  induction f with
  | zero => intro k d w pc L st S out S' h; cases h
  | succ f ih =>
    intro k d w pc L st S out S' h cc nL ret hh hfi p e R s m args below meth c H locs cells slots Q ls ad kA D A C htab Wd hr1 hr2 kr
    have hcnt := ma_frun_c _ _ _ _ _ _ _ _ _ _ h Wd.2.1 Wd.2.2.1 Wd.2.2.2.1
    unfold ma_frun at h
    rw [hfi] at h
    simp only at h
    split at h
    · cases h
    · next i n hd =>
      split at h
      · next pc1 L1 st1 S1 h1 =>
        have cl := ma_one_c Wd.2.1 Wd.2.2.1 Wd.2.2.2.1 h1
        have cnt1 := ma_frun_c _ _ _ _ _ _ _ _ _ _ h cl.1 cl.2.1 cl.2.2.1
        have ec : mC S' - mC S = (mC S1 - mC S) + (mC S' - mC S1) := by omega
        have ez : mZ S' - mZ S = (mZ S1 - mZ S) + (mZ S' - mZ S1) := by omega
        refine ma_one_ok C Wd hd h1 (by omega) (by omega) (fun ad1 H1 locs1 ls1 hag Wd1 => ?_)
        refine ih k d w pc1 L1 st1 S1 out S' h cc nL ret hh hfi p e R s m args below meth c H1 locs1 _ _ Q ls1 ad1 kA D A C htab Wd1 (by omega) (by omega) ?_
        intro ad2 H2 locs2 ls2 pc2 n2 i2 st2 hag2 Wd2 hd2 hret
        have := kr ad2 H2 locs2 ls2 pc2 n2 i2 st2 (fun b hb => (hag2 b (by omega)).trans (hag b hb)) Wd2 hd2 hret
        rw [ec, ez, ← Nat.add_assoc, ← Nat.add_assoc] at this
        exact this
      · split at h
        · next v hv =>
          cases h
          obtain ⟨hl, hch, hL, hc, hP, hD, hS, hX⟩ := Wd
          have := kr ad H locs ls pc n i st (fun _ _ => rfl) ⟨⟨hl.1, hl.2.1, fun q hq => by cases hq⟩, hch, ma_nil_cL, hc, hP, hD, hS, hX⟩ hd hv
          simp only [Nat.sub_self, Nat.add_zero] at this
          exact this
        · split at h
          · next kd M' as rest hcl =>
            obtain ⟨g1, g2, g3⟩ := ma_cl_c Wd.2.2.2.1 hcl
            split at h
            · cases h
            · next o' y' cc' nL' ret' hmd' =>
              split at h
              · next hroom =>
                obtain ⟨r1, r2, r3, r4⟩ := hroom
                split at h
                · next v S1 hrun =>
                  have cnt1 := ma_run_c _ _ _ _ _ _ _ _ _ _ hrun Wd.2.1 (ma_args_cL as 0 g1) ma_nil_cs
                  have cs1 : ma_cs (mN S1) (v.toList ++ rest) := ma_opt_cs (fun u hu => cnt1.2.2.2.2 u (by rw [hu])) (g2.mono cnt1.2.1)
                  have cnt2 := ma_frun_c _ _ _ _ _ _ _ _ _ _ h cnt1.1 (Wd.2.2.1.mono cnt1.2.1) cs1
                  have ec : mC S' - mC S = (mC S1 - mC S) + (mC S' - mC S1) := by omega
                  have ez : mZ S' - mZ S = (mZ S1 - mZ S) + (mZ S' - mZ S1) := by omega
                  have hmet := ma_met (ma_ok_all X l hlt f) hmd' Wd.2.1 g1 r3 hrun D kA ad H.size
                  have hrn := ma_cl_run (l := l) (e := e) (below := below) (cells := cells) (slots := slots) C Wd hd hcl hmd' r1 r2 r4 hmet ⟨by omega, by omega⟩
                  have hA := C.2.2.2.2.2.2.2.2.2.2
                  have hl := Wd.1
                  refine ma_called hrn Wd.2.2.2.2.2.1 Wd.2.2.2.2.2.2.1 hA (fun ad1 H1 locs1 hag hP1 hD1 hS1 => ?_)
                  have hrest : ma_ts ad1 rest = ma_ts ad rest := ma_ts_ad g2 hag
                  rw [← hrest, ma_ts_app]
                  have Wd1 : ma_Wd X s nL D kA A ad1 L (v.toList ++ rest) S1 H1 locs1 ls := ⟨by rw [ma_tl_ad Wd.2.2.1 hag]; exact hl, cnt1.1, Wd.2.2.1.mono cnt1.2.1, cs1, hP1, hD1, hS1, Wd.2.2.2.2.2.2.2.ad (fun b hb => hag b (Nat.lt_of_lt_of_le hb Wd.2.1.2))⟩
                  refine ih k d w (pc + 3) L (v.toList ++ rest) S1 out S' h cc nL ret hh hfi p e R s m args below meth c H1 locs1 _ _ Q ls ad1 kA D A C htab Wd1 (by omega) (by omega) ?_
                  intro ad2 H2 locs2 ls2 pc2 n2 i2 st2 hag2 Wd2 hd2 hret
                  have := kr ad2 H2 locs2 ls2 pc2 n2 i2 st2 (fun b hb => (hag2 b (by omega)).trans (hag b hb)) Wd2 hd2 hret
                  rw [ec, ez, ← Nat.add_assoc, ← Nat.add_assoc] at this
                  exact this
                · next x px S1 hrun =>
                  split at h
                  · next hk =>
                    cases hq : ma_hd cc nL x pc hh with
                    | none => rw [hq] at h; cases h
                    | some c9 =>
                      rw [hq] at h
                      cases h
                      have cnt1 := ma_run_c _ _ _ _ _ _ _ _ _ _ hrun Wd.2.1 (ma_args_cL as 0 g1) ma_nil_cs
                      have hmet := ma_metx (ma_ok_all X l hlt f) hlt hmd' Wd.2.1 g1 r3 hrun D kA ad H.size
                      have hrn := ma_cl_thr (l := l) (e := e) (below := below) (cells := cells) (slots := slots) C Wd hd hcl hk.1 hmd' r1 r2 r4 hmet ⟨by omega, by omega⟩
                      have hA := C.2.2.2.2.2.2.2.2.2.2
                      have hl := Wd.1
                      refine ma_threw hrn Wd.2.2.2.2.2.1 Wd.2.2.2.2.2.2.1 hA (fun ad1 H1 locs1 q ce hag hP1 hD1 hS1 hce hcv hcl => ?_)
                      refine ma_hd_ok C.1 C.2.1 C.2.2.2.1 C.2.2.2.2.1 C.2.2.2.2.2.2.1 (nL := nL) ⟨hl.1, hl.2.1, fun q hq => by cases hq⟩ hce hcv hcl ?_ hh [] (htab hk.2) (fun z hz => by cases hz) hq
                      intro ls1 pc1 hl1 hd1
                      have hret : ma_ret ret .ireturn 1 [.inl c9] = some (some (.inl c9)) := by rw [hk.2]; simp [ma_ret, narrow]
                      exact kr ad1 H1 locs1 ls1 pc1 1 .ireturn [.inl c9] hag ⟨hl1, cnt1.1, ma_nil_cL, ma_cs_cons ma_cv_i ma_nil_cs, hP1, hD1, hS1, Wd.2.2.2.2.2.2.2.ad (fun b hb => hag b (Nat.lt_of_lt_of_le hb Wd.2.1.2))⟩ hd1 hret
                  · cases h
                · cases h
              · cases h
          · split at h
            · cases h
            · next k' as rest hcw =>
              obtain ⟨g1, g2⟩ := ma_cw_c Wd.2.2.2.1 hcw
              split at h
              · cases h
              · next cc' nL' ret' hh' hfi' =>
                split at h
                · next hroom =>
                  obtain ⟨r1, r2, r3, r4⟩ := hroom
                  split at h
                  · next v S1 hrun =>
                    have cnt1 := ma_frun_c _ _ _ _ _ _ _ _ _ _ hrun Wd.2.1 (ma_args_cL as 0 g1) ma_nil_cs
                    have cs1 : ma_cs (mN S1) (v.toList ++ rest) := ma_opt_cs cnt1.2.2.2.2 (g2.mono cnt1.2.1)
                    have cnt2 := ma_frun_c _ _ _ _ _ _ _ _ _ _ h cnt1.1 (Wd.2.2.1.mono cnt1.2.1) cs1
                    have ec : mC S' - mC S = (mC S1 - mC S) + (mC S' - mC S1) := by omega
                    have ez : mZ S' - mZ S = (mZ S1 - mZ S) + (mZ S' - mZ S1) := by omega
                    have hrn := ma_cw_run (l := l) (e := e) (below := below) (cells := cells) (slots := slots) C Wd hd hcw hfi' r1 r2 r4 (fun hk => ma_metw ih hk hfi' Wd.2.1 g1 r3 hrun D kA ad H.size) ⟨by omega, by omega⟩
                    have hA := C.2.2.2.2.2.2.2.2.2.2
                    have hl := Wd.1
                    refine ma_called hrn Wd.2.2.2.2.2.1 Wd.2.2.2.2.2.2.1 hA (fun ad1 H1 locs1 hag hP1 hD1 hS1 => ?_)
                    have hrest : ma_ts ad1 rest = ma_ts ad rest := ma_ts_ad g2 hag
                    have hn3 : n = 3 := by
                      unfold ma_cw at hcw
                      split at hcw
                      · rfl
                      · cases hcw
                    rw [← hrest, ma_ts_app]
                    have Wd1 : ma_Wd X s nL D kA A ad1 L (v.toList ++ rest) S1 H1 locs1 ls := ⟨by rw [ma_tl_ad Wd.2.2.1 hag]; exact hl, cnt1.1, Wd.2.2.1.mono cnt1.2.1, cs1, hP1, hD1, hS1, Wd.2.2.2.2.2.2.2.ad (fun b hb => hag b (Nat.lt_of_lt_of_le hb Wd.2.1.2))⟩
                    refine ih k d w (pc + 3) L (v.toList ++ rest) S1 out S' h cc nL ret hh hfi p e R s m args below meth c H1 locs1 _ _ Q ls ad1 kA D A C htab Wd1 (by omega) (by omega) ?_
                    intro ad2 H2 locs2 ls2 pc2 n2 i2 st2 hag2 Wd2 hd2 hret
                    have := kr ad2 H2 locs2 ls2 pc2 n2 i2 st2 (fun b hb => (hag2 b (by omega)).trans (hag b hb)) Wd2 hd2 hret
                    rw [ec, ez, ← Nat.add_assoc, ← Nat.add_assoc] at this
                    exact this
                  · cases h
                · cases h
end
section
/-! THE LAW'S START: what the Statement gives, in the small machine's words; and the claim out of the law's run there -/
def R_law : String := "CollectorHouseLaw"
def lw_P (b : Addr) (xs : List Int32) (args : Array Value) (s : State) : Prop := args = #[.ref b] ∧ s.IntsAt b xs ∧ xs.length ≤ 6 ∧ (Jvm.Cond.and given_1 narrow_1).before args s = true
def lw_Q (_ : Array Value) (s : State) (o : Outcome) (t : State) : Prop := o = .returned (some (.int 1)) ∧ Framed s o t [] 600002 7302232
def lw_Z (below : List Frame) (a : Array Value) (s : State) : State → Prop := fun t => ∃ o, t.status = .running ∧ Ended t below o ∧ lw_Q a s o t
/-- the law's own end, with 1 on the stack, nothing written that was there before, its room as the claim has it -/
theorem lw_ret {p : Program} {l : Launch} {e : Env} {s : State} {m : MethodId} {below : List Frame} {meth : Method} {c : Code} {b : Nat} (hx : p.tables.exec = Jvm.exec) (hb : c.code = code) (hr : meth.sig.returnType = ret) (hlocks : meth.locks = false) {pc : Nat} {H : Heap} {ls : Array Slot} (hdg : decode code pc = .ok (.ireturn, 1)) : W p l e room_1 s m #[Value.ref b] below meth c H [] 600002 7302232 (lw_Z below #[Value.ref b] s) (F0 m pc ls [.int 1]) := by
  intro T hT X
  obtain ⟨fs, hret, hrun, hended, hW, hframe⟩ := X.leave (v := some (.int 1)) (hlocks := hlocks) (fun h => by rw [hr] at h; cases h)
  have hmeth' : T.vm.method? m = some meth := X.method'
  refine ⟨T.setFrames fs, ?_, .returned (some (.int 1)), hrun, hended, rfl, ⟨_, rfl⟩, hW, hframe⟩
  jvm_step X.here [X.here.top, hx, hb, hdg, hmeth', hr, ret, narrow_b1]
  (try refine ⟨rfl, ?_⟩); (try refine ⟨rfl, ?_⟩)
  first | (intro acts; rw [hret _ acts rfl rfl rfl]) | rw [hret _ _ rfl rfl rfl]
  exact Steps.refl _
/-- what holds at the law's entry: the machine, the code, the tables' words (any of lw_tbl by 'hts w (by decide +kernel)'), the script of L ints xs at the cell b, what the Statement gives of the start (any of its parts by flat_of_before) -/
def lw_At (p : Program) (s : State) (m : MethodId) (meth : Method) (c : Code) (b L : Nat) (xs : Nat → Int32) : Prop :=
  p.tables.exec = Jvm.exec ∧ c.code = code ∧ meth.sig.returnType = ret ∧ c.maxLocals = 7 ∧ s.vm.findClass R_law = some m.cls ∧ (∀ w ∈ lw_tbl, w.before #[Value.ref b] s = true) ∧ va_X b L xs s s.heap ∧ b < s.heap.size ∧ meth.locks = false ∧ (Jvm.Cond.and given_1 narrow_1).before #[Value.ref b] s = true
theorem ma_sel_below {C : String} {y : MethodName} {s : State} {args : Array Value} {n n' : Nat} (hy : y.cls ≠ "java/lang/invoke/MethodHandle" ∧ y.cls ≠ "java/lang/invoke/VarHandle") (hC : (Cond.instantiable C n).before args s = true) (hY : (Cond.instantiable y.cls n').before args s = true) (hp : (Cond.privateMethod y).before args s = true) (hi : (Cond.instanceMethod y).before args s = true) : (Cond.selects C y y).before args s = true := by
  obtain ⟨cC, kC, hc, -⟩ := Cond.instantiable_spec hC
  obtain ⟨cY, kY, hcY, hkY, -, hno, -, -⟩ := Cond.instantiable_spec hY
  have hni : kY.isInterface = false := (Bool.or_eq_false_iff.mp hno).1
  obtain ⟨mk, methM, hnamed, hmethM, -, -⟩ := Cond.instanceMethod_spec hi
  have hfound : s.methodFound? y.cls y.name y.desc = some mk := State.methodFound?_of_named hnamed hy
  have hcls : mk.cls = cY := Option.some.inj ((findClass_of_methodNamed hnamed).symm.trans hcY)
  have hsel : selectMethod {} s.vm cC mk = .method mk := selectMethod_private hmethM (Cond.privateMethod_at hp mk methM hnamed hmethM)
  simp only [Cond.before, Cond.holds, Cond.value, hc, hfound, hnamed, hsel, hcls, hkY]
  simp
  exact hni
theorem ma_tb_all {args : Array Value} {s : State} (hts : ∀ w ∈ lw_tbl, w.before args s = true) : ∀ w ∈ ma_TB, w.before args s = true := by
  intro w hw
  rcases List.mem_append.mp (List.mem_filter.mp hw).1 with h | h
  · have t1 : ∀ {w : Cond} (j : Nat), tables_1[j]? = some w → w.before args s = true := fun j hj => hts _ (List.mem_append_right _ (List.mem_of_getElem? hj))
    simp only [ma_sx, List.mem_cons, List.not_mem_nil, or_false] at h
    rcases h with rfl | rfl | rfl | rfl | rfl | rfl
    · exact ma_sel_below (n := 8) (n' := 5) ⟨by decide, by decide⟩ (t1 246 (by decide +kernel)) (t1 137 (by decide +kernel)) (t1 834 (by decide +kernel)) (t1 835 (by decide +kernel))
    · exact ma_sel_below (n := 8) (n' := 5) ⟨by decide, by decide⟩ (t1 246 (by decide +kernel)) (t1 137 (by decide +kernel)) (t1 853 (by decide +kernel)) (t1 854 (by decide +kernel))
    · exact ma_sel_below (n := 8) (n' := 5) ⟨by decide, by decide⟩ (t1 246 (by decide +kernel)) (t1 137 (by decide +kernel)) (t1 857 (by decide +kernel)) (t1 858 (by decide +kernel))
    · exact ma_sel_below (n := 9) (n' := 5) ⟨by decide, by decide⟩ (t1 268 (by decide +kernel)) (t1 137 (by decide +kernel)) (t1 834 (by decide +kernel)) (t1 835 (by decide +kernel))
    · exact ma_sel_below (n := 9) (n' := 5) ⟨by decide, by decide⟩ (t1 268 (by decide +kernel)) (t1 137 (by decide +kernel)) (t1 853 (by decide +kernel)) (t1 854 (by decide +kernel))
    · exact ma_sel_below (n := 9) (n' := 5) ⟨by decide, by decide⟩ (t1 268 (by decide +kernel)) (t1 137 (by decide +kernel)) (t1 857 (by decide +kernel)) (t1 858 (by decide +kernel))
  · exact hts w h
theorem ma_nw_tab : ∀ w ∈ ma_nw, (decide (w ∈ tables_1) && w.onTables) = true := List.all_eq_true.mp (by decide +kernel)
theorem ma_nc_tab : ∀ q ∈ ma_nc, Cond.not (.castable q.1 q.2) ∈ flatC (Jvm.Cond.and given_1 narrow_1) := by decide +kernel
theorem ma_clw0 : ∀ w ∈ u_ws RJx3273f TJx3273f 6, w ∈ ma_TB := ma_lay_in [1219, 1220, 1221, 1222, 1223, 1228] (by decide +kernel)
def ma_txt (i : Nat) : Term := Term.string (ma_txr.getD i ("", 0, "", 0)).1 (ma_txr.getD i ("", 0, "", 0)).2.1
theorem ma_tx1 : ∀ i, i < 19 → Cond.exactly (ma_txt i) "java/lang/String" ∈ flatC (Jvm.Cond.and given_1 narrow_1) := by decide +kernel
theorem ma_tx2 : ∀ i, i < 19 → Cond.eq (.field (ma_txt i) "java/lang/String" "coder" "B") (.int 0) ∈ flatC (Jvm.Cond.and given_1 narrow_1) := by decide +kernel
theorem ma_tx3 : ∀ i, i < 19 → Cond.arrayOf (.field (ma_txt i) "java/lang/String" "value" "[B") .byte ∈ flatC (Jvm.Cond.and given_1 narrow_1) := by decide +kernel
theorem ma_tx4 : ∀ i, i < 19 → Cond.eq (.length (.field (ma_txt i) "java/lang/String" "value" "[B")) (.int (Int32.ofNat (ma_txl.getD i 0))) ∈ flatC (Jvm.Cond.and given_1 narrow_1) := by decide +kernel
theorem ma_tx5 : ∀ i, i < 19 → ∀ j, j < ma_txl.getD i 0 → Cond.eq (.elem (.field (ma_txt i) "java/lang/String" "value" "[B") (.int (Int32.ofNat j))) (.int ((ma_txb.getD i []).getD j 0)) ∈ flatC (Jvm.Cond.and given_1 narrow_1) := by decide +kernel
theorem ma_tx6_0 : ∀ j, j < 19 → 0 < j → Cond.not (Cond.eq (ma_txt 0) (ma_txt j)) ∈ flatC (Jvm.Cond.and given_1 narrow_1) := by decide +kernel
theorem ma_tx6_1 : ∀ j, j < 19 → 1 < j → Cond.not (Cond.eq (ma_txt 1) (ma_txt j)) ∈ flatC (Jvm.Cond.and given_1 narrow_1) := by decide +kernel
theorem ma_tx6_2 : ∀ j, j < 19 → 2 < j → Cond.not (Cond.eq (ma_txt 2) (ma_txt j)) ∈ flatC (Jvm.Cond.and given_1 narrow_1) := by decide +kernel
theorem ma_tx6_3 : ∀ j, j < 19 → 3 < j → Cond.not (Cond.eq (ma_txt 3) (ma_txt j)) ∈ flatC (Jvm.Cond.and given_1 narrow_1) := by decide +kernel
theorem ma_tx6_4 : ∀ j, j < 19 → 4 < j → Cond.not (Cond.eq (ma_txt 4) (ma_txt j)) ∈ flatC (Jvm.Cond.and given_1 narrow_1) := by decide +kernel
theorem ma_tx6_5 : ∀ j, j < 19 → 5 < j → Cond.not (Cond.eq (ma_txt 5) (ma_txt j)) ∈ flatC (Jvm.Cond.and given_1 narrow_1) := by decide +kernel
theorem ma_tx6_6 : ∀ j, j < 19 → 6 < j → Cond.not (Cond.eq (ma_txt 6) (ma_txt j)) ∈ flatC (Jvm.Cond.and given_1 narrow_1) := by decide +kernel
theorem ma_tx6_7 : ∀ j, j < 19 → 7 < j → Cond.not (Cond.eq (ma_txt 7) (ma_txt j)) ∈ flatC (Jvm.Cond.and given_1 narrow_1) := by decide +kernel
theorem ma_tx6_8 : ∀ j, j < 19 → 8 < j → Cond.not (Cond.eq (ma_txt 8) (ma_txt j)) ∈ flatC (Jvm.Cond.and given_1 narrow_1) := by decide +kernel
theorem ma_tx6_9 : ∀ j, j < 19 → 9 < j → Cond.not (Cond.eq (ma_txt 9) (ma_txt j)) ∈ flatC (Jvm.Cond.and given_1 narrow_1) := by decide +kernel
theorem ma_tx6_10 : ∀ j, j < 19 → 10 < j → Cond.not (Cond.eq (ma_txt 10) (ma_txt j)) ∈ flatC (Jvm.Cond.and given_1 narrow_1) := by decide +kernel
theorem ma_tx6_11 : ∀ j, j < 19 → 11 < j → Cond.not (Cond.eq (ma_txt 11) (ma_txt j)) ∈ flatC (Jvm.Cond.and given_1 narrow_1) := by decide +kernel
theorem ma_tx6_12 : ∀ j, j < 19 → 12 < j → Cond.not (Cond.eq (ma_txt 12) (ma_txt j)) ∈ flatC (Jvm.Cond.and given_1 narrow_1) := by decide +kernel
theorem ma_tx6_13 : ∀ j, j < 19 → 13 < j → Cond.not (Cond.eq (ma_txt 13) (ma_txt j)) ∈ flatC (Jvm.Cond.and given_1 narrow_1) := by decide +kernel
theorem ma_tx6_14 : ∀ j, j < 19 → 14 < j → Cond.not (Cond.eq (ma_txt 14) (ma_txt j)) ∈ flatC (Jvm.Cond.and given_1 narrow_1) := by decide +kernel
theorem ma_tx6_15 : ∀ j, j < 19 → 15 < j → Cond.not (Cond.eq (ma_txt 15) (ma_txt j)) ∈ flatC (Jvm.Cond.and given_1 narrow_1) := by decide +kernel
theorem ma_tx6_16 : ∀ j, j < 19 → 16 < j → Cond.not (Cond.eq (ma_txt 16) (ma_txt j)) ∈ flatC (Jvm.Cond.and given_1 narrow_1) := by decide +kernel
theorem ma_tx6_17 : ∀ j, j < 19 → 17 < j → Cond.not (Cond.eq (ma_txt 17) (ma_txt j)) ∈ flatC (Jvm.Cond.and given_1 narrow_1) := by decide +kernel
theorem ma_tx6_18 : ∀ j, j < 19 → 18 < j → Cond.not (Cond.eq (ma_txt 18) (ma_txt j)) ∈ flatC (Jvm.Cond.and given_1 narrow_1) := by decide +kernel
theorem ma_tx6a : ∀ i, i < 19 → ∀ j, j < 19 → i < j → Cond.not (Cond.eq (ma_txt i) (ma_txt j)) ∈ flatC (Jvm.Cond.and given_1 narrow_1) := by
  intro i hi j hj hij
  have h : i = 0 ∨ i = 1 ∨ i = 2 ∨ i = 3 ∨ i = 4 ∨ i = 5 ∨ i = 6 ∨ i = 7 ∨ i = 8 ∨ i = 9 ∨ i = 10 ∨ i = 11 ∨ i = 12 ∨ i = 13 ∨ i = 14 ∨ i = 15 ∨ i = 16 ∨ i = 17 ∨ i = 18 := by omega
  rcases h with rfl | rfl | rfl | rfl | rfl | rfl | rfl | rfl | rfl | rfl | rfl | rfl | rfl | rfl | rfl | rfl | rfl | rfl | rfl
  · exact ma_tx6_0 j hj hij
  · exact ma_tx6_1 j hj hij
  · exact ma_tx6_2 j hj hij
  · exact ma_tx6_3 j hj hij
  · exact ma_tx6_4 j hj hij
  · exact ma_tx6_5 j hj hij
  · exact ma_tx6_6 j hj hij
  · exact ma_tx6_7 j hj hij
  · exact ma_tx6_8 j hj hij
  · exact ma_tx6_9 j hj hij
  · exact ma_tx6_10 j hj hij
  · exact ma_tx6_11 j hj hij
  · exact ma_tx6_12 j hj hij
  · exact ma_tx6_13 j hj hij
  · exact ma_tx6_14 j hj hij
  · exact ma_tx6_15 j hj hij
  · exact ma_tx6_16 j hj hij
  · exact ma_tx6_17 j hj hij
  · exact ma_tx6_18 j hj hij
theorem ma_tx6 : ∀ i, i < 19 → ∀ j, j < 19 → i ≠ j → Cond.not (Cond.eq (ma_txt i) (ma_txt j)) ∈ flatC (Jvm.Cond.and given_1 narrow_1) ∨ Cond.not (Cond.eq (ma_txt j) (ma_txt i)) ∈ flatC (Jvm.Cond.and given_1 narrow_1) := by
  intro i hi j hj hij
  rcases Nat.lt_or_gt_of_ne hij with h | h
  · exact Or.inl (ma_tx6a i hi j hj h)
  · exact Or.inr (ma_tx6a j hj i hi h)
theorem ma_tx7 : ∀ i, i < 19 → ma_txl.getD i 0 < 2 ^ 31 := by decide +kernel
theorem ma_tx8 : ∀ q ∈ ma_txr, Cond.stringRef q.1 q.2.1 q.2.2.1 ∈ tables_1 ∧ q.2.2.2 < 19 ∧ ma_txt q.2.2.2 = Term.string q.1 q.2.1 := by decide +kernel
theorem ma_st1 : Cond.eq (.static "java/lang/String" "COMPACT_STRINGS" "Z") (.int 1) ∈ flatC (Jvm.Cond.and given_1 narrow_1) := by decide +kernel
theorem ma_st2 : Cond.isRef (.static "jdk/internal/util/Preconditions" "SIOOBE_FORMATTER" "Ljava/util/function/BiFunction;") ∈ flatC (Jvm.Cond.and given_1 narrow_1) := by decide +kernel
theorem ma_st3 : Cond.isRef (.static Bundle.tN "UNASSIGNED_STACK" Bundle.steD) ∈ flatC (Jvm.Cond.and given_1 narrow_1) := by decide +kernel
theorem ma_st4 : Cond.isRef (.static Bundle.tN "SUPPRESSED_SENTINEL" Bundle.listD) ∈ flatC (Jvm.Cond.and given_1 narrow_1) := by decide +kernel
theorem ma_ls1 : Cond.laysStatic "java/lang/String" "COMPACT_STRINGS" "Z" ∈ tables_1 := by decide +kernel
theorem ma_ls2 : Cond.laysStatic "jdk/internal/util/Preconditions" "SIOOBE_FORMATTER" "Ljava/util/function/BiFunction;" ∈ tables_1 := by decide +kernel
theorem ma_ls3 : Cond.laysStatic Bundle.tN "UNASSIGNED_STACK" Bundle.steD ∈ tables_1 := by decide +kernel
theorem ma_ls4 : Cond.laysStatic Bundle.tN "SUPPRESSED_SENTINEL" Bundle.listD ∈ tables_1 := by decide +kernel
theorem ma_in1 : Cond.initialized "java/lang/String" ∈ tables_1 ∧ Cond.initialized "jdk/internal/util/Preconditions" ∈ tables_1 ∧ Cond.initialized Bundle.tN ∈ tables_1 := by decide +kernel
theorem ma_ao1 : Cond.arrayOver (.object RX9) ∈ tables_1 ∧ Cond.arrayOver (.object RX1) ∈ tables_1 := by decide +kernel
theorem ma_ac1 : Cond.arrayClass .int ∈ tables_1 ∧ Cond.arrayClass .byte ∈ tables_1 ∧ Cond.arrayClass .boolean ∈ tables_1 ∧ Cond.arrayClass .long ∈ tables_1 := by decide +kernel
theorem ma_ins1 : ∀ k, k < 13 → ∃ q : vw_C, vwCl[k]? = some q ∧ Cond.instantiable q.1 q.2.2 ∈ tables_1 := by
  intro k hk
  have h : k = 0 ∨ k = 1 ∨ k = 2 ∨ k = 3 ∨ k = 4 ∨ k = 5 ∨ k = 6 ∨ k = 7 ∨ k = 8 ∨ k = 9 ∨ k = 10 ∨ k = 11 ∨ k = 12 := by omega
  rcases h with rfl | rfl | rfl | rfl | rfl | rfl | rfl | rfl | rfl | rfl | rfl | rfl | rfl <;> exact ⟨_, rfl, by decide +kernel⟩
end
section
/-- no cell yet -/
def ma_S0 : ma_S := (64, 0, 0, fun _ => (0, 0), fun _ _ => 0, fun _ _ => 0, fun _ _ => none)
theorem ma_arr {args : Array Value} {s : State} {ty : FieldType} (hno : ∀ C, ty ≠ .object C) (h : (Cond.arrayClass ty).before args s = true) : ∃ cA : ClassId, ArrOfT s cA ty ∧ va_RA s cA ty := by
  obtain ⟨cA, k, comp, h1, h2, h3⟩ := Cond.arrayClass_spec h
  refine ⟨cA, fun n z => ⟨fun k h => (by cases h), k, h2, comp, h3⟩, ?_⟩
  cases ty <;> first | exact h1 | exact absurd rfl (hno _)
theorem ma_arrO {args : Array Value} {s : State} {C : String} (h : (Cond.arrayOver (.object C)).before args s = true) : ∃ cA : ClassId, ArrOfT s cA (.object C) ∧ va_RA s cA (.object C) := by
  obtain ⟨comp, cA, k, h1, -, h2, h3, h4⟩ := Cond.arrayOver_spec h
  exact ⟨cA, fun n z => ⟨fun k h => (by cases h), k, h2, comp, h3⟩, k, comp, h2, h3, h1, h4⟩
set_option maxHeartbeats 4000000 in
/-- THE LAW, out of its run in the small machine -/
theorem ma_start {p : Program} {e : Env} {s : State} {m : MethodId} {below : List Frame} {meth : Method} {c : Code} (l : Launch) (hlt : l.stackTraces = false) {b L : Nat} {xs : Nat → Int32} (C0 : lw_At p s m meth c b L xs)
    (hrun : ∀ ys : Nat → Int32, (∀ j, j < L → ys j = xs j) → ∃ (f : Nat) (S' : ma_S), ma_frun (L, ys) f 0 13 494 0 [(0, .inr (.inr (some 30)))] [] ma_S0 = some (some (.inl 1), S') ∧ mC S' ≤ 600002 ∧ mZ S' ≤ 7302232) :
    W p l e room_1 s m #[Value.ref b] below meth c s.heap [] 0 0 (lw_Z below #[Value.ref b] s) (entryFrame m ([Value.ref b] : List Value).toArray 7) := by
  obtain ⟨hx, hb, hr, hml, hown, hts, hX, hbl, hlocks, hgv⟩ := C0
  have htt : ∀ w ∈ tables_1, w.before #[Value.ref b] s = true := fun w hw => hts w (List.mem_append_right _ hw)
  have hfl := flat_of_before _ hgv
  have hTB := ma_tb_all hts
  have hA0 : ∀ a : Nat, a < s.heap.size → ¬ (fun q : Nat => s.heap.size ≤ q) a := fun a h z => absurd h (Nat.not_lt.mpr z)
  -- the classes
  have hk : ∀ k : Nat, ∃ z : ClassId × (Nat → Nat), ∀ q : vw_C, vwCl[k]? = some q → u_Kn s q.1 q.2.1 q.2.2 z.1 z.2 := by
    intro k
    by_cases hk : k < 13
    · obtain ⟨q, hq, hi⟩ := ma_ins1 k hk
      have hw : ∀ w ∈ u_ws q.1 q.2.1 q.2.2, w ∈ ma_TB := by
        by_cases h0 : k = 0
        · subst h0; cases hq; exact ma_clw0
        · obtain ⟨C, T, hcl, hw, -, -⟩ := ma_clok_all (t := k) (by omega) (by omega)
          cases hq.symm.trans hcl
          exact hw
      obtain ⟨cC, iS, h⟩ := u_known hTB hw (htt _ hi)
      exact ⟨(cC, iS), fun q' hq' => by cases hq.symm.trans hq'; exact h⟩
    · exact ⟨(0, fun _ => 0), fun q hq => by
        have := (List.getElem?_eq_some_iff.mp hq).1
        exact absurd this (by show ¬ k < 13; exact hk)⟩
  obtain ⟨dz, hdz⟩ := Classical.axiomOfChoice hk
  obtain ⟨a20, h20⟩ := ma_arr (fun _ h => by cases h) (htt _ ma_ac1.1)
  obtain ⟨a21, h21⟩ := ma_arr (fun _ h => by cases h) (htt _ ma_ac1.2.1)
  obtain ⟨a22, h22⟩ := ma_arr (fun _ h => by cases h) (htt _ ma_ac1.2.2.1)
  obtain ⟨a23, h23⟩ := ma_arr (fun _ h => by cases h) (htt _ ma_ac1.2.2.2)
  obtain ⟨a24, h24⟩ := ma_arrO (htt _ ma_ao1.1)
  obtain ⟨a25, h25⟩ := ma_arrO (htt _ ma_ao1.2)
  obtain ⟨kA, e20, e21, e22, e23, e24, e25⟩ : ∃ kA : Nat → ClassId, kA 20 = a20 ∧ kA 21 = a21 ∧ kA 22 = a22 ∧ kA 23 = a23 ∧ kA 24 = a24 ∧ kA 25 = a25 :=
    ⟨fun k => if k = 20 then a20 else if k = 21 then a21 else if k = 22 then a22 else if k = 23 then a23 else if k = 24 then a24 else a25, rfl, rfl, rfl, rfl, rfl, rfl⟩
  have hK : va_K (fun k => (dz k).1, fun k => (dz k).2) vwCl (ma_tys kA) s := by
    refine ⟨fun k q hq => hdz k q hq, fun k q hq => ?_⟩
    have hm := List.mem_of_getElem? hq
    simp only [ma_tys, List.mem_cons, List.not_mem_nil, or_false, e20, e21, e22, e23, e24, e25] at hm
    rcases hm with rfl | rfl | rfl | rfl | rfl | rfl
    · exact h20
    · exact h21
    · exact h22
    · exact h23
    · exact h24
    · exact h25
  have hN : ma_Nx s := by
    refine ⟨fun w hw => ?_, ⟨va_AO.of (htt _ ma_ao1.1), va_AO.of (htt _ ma_ao1.2)⟩, fun q hq => va_Nc.of (hfl _ (ma_nc_tab q hq))⟩
    have h9 := ma_nw_tab w hw
    simp only [Bool.and_eq_true, decide_eq_true_eq] at h9
    exact va_Nw.of h9.2 (htt _ h9.1)
  -- the texts and statics
  obtain ⟨adK, adV, hS1, hS2⟩ := vk_Sof (args := #[Value.ref b]) (s := s) (N := 19) (tm := ma_txt) (len := ma_txl) (byt := ma_txb) (A := fun q : Nat => s.heap.size ≤ q) ma_tx7 (fun i hi => hfl _ (ma_tx1 i hi)) (fun i hi => hfl _ (ma_tx2 i hi)) (fun i hi => hfl _ (ma_tx3 i hi)) (fun i hi => hfl _ (ma_tx4 i hi)) (fun i hi j hj => hfl _ (ma_tx5 i hi j hj)) (fun i j hi hj hij => (ma_tx6 i hi j hj hij).imp (hfl _) (hfl _)) hA0
  have hC := va_Zof (A := fun q : Nat => s.heap.size ≤ q) (htt _ ma_ls1) (htt _ ma_in1.1) (va_eqi (hfl _ ma_st1)) hA0
  have hF := va_Zqof (A := fun q : Nat => s.heap.size ≤ q) (htt _ ma_ls2) (htt _ ma_in1.2.1) (hfl _ ma_st2) hA0
  have hU := vx_Zqof (A := fun q : Nat => s.heap.size ≤ q) (htt _ ma_ls3) (htt _ ma_in1.2.2) (hfl _ ma_st3) hA0
  have hZ := vx_Zqof (A := fun q : Nat => s.heap.size ≤ q) (htt _ ma_ls4) (htt _ ma_in1.2.2) (hfl _ ma_st4) hA0
  obtain ⟨fz, ft, hF⟩ : ∃ (fz : Int32) (ft : Nat), va_Z "jdk/internal/util/Preconditions" "SIOOBE_FORMATTER" "Ljava/util/function/BiFunction;" (va_rf (if fz = 0 then none else some ft)) (fun q : Nat => s.heap.size ≤ q) s s.heap := by
    rcases hF with h | ⟨t, h⟩
    · exact ⟨0, 0, h⟩
    · exact ⟨1, t, h⟩
  obtain ⟨ys, hys, hyL⟩ : ∃ ys : Nat → Int32, (∀ j, j < L → ys j = xs j) ∧ ys L = fz := ⟨fun j => if j < L then xs j else fz, fun j hj => if_pos hj, if_neg (Nat.lt_irrefl L)⟩
  obtain ⟨ad, ad1, ad2, ad3, ad4⟩ : ∃ ad : Nat → Nat, (∀ i, i < 19 → ad i = adK i) ∧ (∀ i, i < 19 → ad (32 + i) = adV i) ∧ ad 30 = b ∧ ad 29 = ft := by
    refine ⟨fun k => if k < 19 then adK k else if k = 29 then ft else if k = 30 then b else adV (k - 32), fun i hi => if_pos hi, fun i hi => ?_, rfl, rfl⟩
    show (if 32 + i < 19 then adK (32 + i) else if 32 + i = 29 then ft else if 32 + i = 30 then b else adV (32 + i - 32)) = adV i
    rw [if_neg (by omega), if_neg (by omega), if_neg (by omega), Nat.add_sub_cancel_left]
  obtain ⟨f, S', hrn, hc1, hc2⟩ := hrun ys hys
  have hXt : ma_Xt (L, ys) ad (fun q : Nat => s.heap.size ≤ q) s s.heap := by
    refine ⟨⟨hU, hZ⟩, ⟨?_, by rw [ad3]; exact hA0 b hbl, by rw [ad3]; exact hbl⟩, ?_, ?_, hC, ?_⟩
    · rw [ad3]
      obtain ⟨scr, q1, q2, q3, q4, q5⟩ := hX
      exact ⟨scr, q1, q2, q3, q4, fun j hj => by show scr.slots[j]? = some (.int (ys j)); rw [hys j hj]; exact q5 j hj⟩
    · refine ⟨fun i hi => ?_, fun i j hi hj hij => ?_⟩
      · have := hS1.1 i hi
        simp only [ad1 i hi, ad2 i hi]
        exact this
      · rw [ad1 i hi, ad1 j hj] at hij
        exact hS1.2 i j hi hj hij
    · intro q hq
      obtain ⟨t1, t2, t3⟩ := ma_tx8 q hq
      have := hS2 q.2.2.2 t2
      rw [t3] at this
      rw [ad1 _ t2]
      exact vk_R.of (htt _ t1) this
    · have : va_rf ((ma_fm (L, ys)).map ad) = va_rf (if fz = 0 then none else some ft) := by
        unfold ma_fm
        rw [show (L, ys).2 (L, ys).1 = fz from hyL]
        split
        · rfl
        · show va_rf (some (ad 29)) = _; rw [ad4]
      rw [this]
      exact hF
  have hl := lv_entry ([.ref b]) (n := 7) (Nat.le_of_ble_eq_true rfl)
  rw [lg_entry_eq]
  generalize (lg_sl ([.ref b]) ++ List.replicate (7 - (lg_sl ([.ref b])).length) Slot.unset).toArray = ls at hl ⊢
  have hl : lv_has ls 7 (ma_tl ad [(0, .inr (.inr (some 30)))]) := by
    show lv_has ls 7 [(0, .ref (ad 30))]
    rw [ad3]
    exact hl
  refine ma_fok_all (L, ys) l hlt f 0 13 494 0 [(0, .inr (.inr (some 30)))] [] ma_S0 (some (.inl 1)) S' hrn code 7 (some .boolean) [] rfl p e room_1 s m #[Value.ref b] below meth c s.heap [] 0 0 _ ls ad kA (fun k => (dz k).1, fun k => (dz k).2) (fun q : Nat => s.heap.size ≤ q)
    ⟨hx, hb, hml, hown, hTB, hK, hN, (fun h => (by cases h)), Nat.le_refl _, Nat.le_refl _, fun q h => h⟩ (fun h => (by cases h))
    ⟨hl, ⟨fun c k b h => (by cases h), Nat.le_refl 64⟩, fun q hq => ?_, ma_nil_cs, fun k q hk => (by cases hk), ⟨fun i j p q h => (by cases h), fun k q h => (by cases h)⟩, va_S.rf, hXt⟩ (by show 0 + (mC S' - 0) ≤ 600002; omega) (by show 0 + (mZ S' - 0) ≤ 7302232; omega) ?_
  · rw [List.mem_singleton] at hq
    subst hq
    exact fun b hb => by cases hb; show 30 < 64; omega
  · intro ad' H1 locs1 ls1 pc1 n1 i1 st1 hag Wd1 hd1 hr1
    obtain ⟨hl1, hh1, hL1, hcs1, hP1, hD1, hS3, hX1⟩ := Wd1
    have hi : i1 = .ireturn ∧ n1 = 1 ∧ st1 = [.inl 1] := by
      unfold ma_ret at hr1
      split at hr1
      · split at hr1
        · split at hr1
          · cases hr1; exact ⟨rfl, rfl, rfl⟩
          · cases hr1
        · cases hr1
      · split at hr1 <;> cases hr1
      · split at hr1 <;> cases hr1
      · cases hr1
    obtain ⟨rfl, rfl, rfl⟩ := hi
    refine va_forget (fun q hq => hS3.2.2 q hq) ?_
    refine W.widen (k := 600002) (n := 7302232) (by show 0 + (mC S' - 0) ≤ 600002; omega) (by show 0 + (mZ S' - 0) ≤ 7302232; omega) ?_
    exact lw_ret hx hb hr hlocks hd1
end
section
/-! THE VALUE OF A RUN: what a run of the small machine comes to, without fuel; its equations -/
abbrev ma_R : Type := (Option ma_V ⊕ (Nat × Nat)) × ma_S
def ma_body (X : Nat × (Nat → Int32)) (rc : Nat → Nat → Nat → Nat → ma_L → List ma_V → ma_S → Option ma_R) (d w M pc : Nat) (L : ma_L) (st : List ma_V) (S : ma_S) : Option ma_R := match ma_md M with
  | none => none
  | some (o, y, cc, nL, ret) => match decode cc pc with
    | .error _ => none
    | .ok (i, n) => match ma_one X o (decide (y.name = "<init>")) nL d w i n pc L st S with
      | some (pc', L', st', S') => rc d w M pc' L' st' S'
      | none => match ma_ret ret i n st with
        | some v => some (.inl v, S)
        | none => match ma_thr o cc pc with
          | some x => if 6 ≤ d ∧ ma_sz st + 81 ≤ w then some (.inr (x, pc), ma_bump S) else none
          | none => match ma_cl o i n st S with
            | none => none
            | some ((k, M'), as, rest) => match ma_md M' with
              | none => none
              | some (_, _, _, nL', _) => if 1 ≤ d ∧ 19 + nL' ≤ w ∧ ma_sz as ≤ nL' ∧ ma_sz rest ≤ 8 then (match rc (d - 1) (w - (19 + nL')) M' 0 (ma_args 0 as) [] S with
                | some (.inl v, S') => rc d w M (pc + 3) L (v.toList ++ rest) S'
                | some (.inr (x, _), S') => if k ≤ 1 then some (.inr (x, pc), S') else none
                | none => none) else none
theorem ma_run_s (X : Nat × (Nat → Int32)) (f d w M pc : Nat) (L : ma_L) (st : List ma_V) (S : ma_S) : ma_run X (f + 1) d w M pc L st S = ma_body X (ma_run X f) d w M pc L st S := rfl
theorem ma_run_up {X : Nat × (Nat → Int32)} : ∀ (f d w M pc : Nat) (L : ma_L) (st : List ma_V) (S : ma_S) (r : ma_R), ma_run X f d w M pc L st S = some r → ma_run X (f + 1) d w M pc L st S = some r := by
  intro f
  induction f with
  | zero => intro d w M pc L st S r h; cases h
  | succ f ih =>
    intro d w M pc L st S r h
    rw [ma_run_s] at h ⊢
    unfold ma_body at h ⊢
    split at h
    · cases h
    · next o y cc nL ret hmd =>
      split at h
      · cases h
      · next i n hd =>
        split at h
        · exact ih _ _ _ _ _ _ _ _ h
        · split at h
          · exact h
          · split at h
            · exact h
            · split at h
              · cases h
              · split at h
                · cases h
                · split at h
                  · next hroom =>
                    rw [if_pos hroom]
                    split at h
                    · next v2 S1 hr =>
                      rw [ih _ _ _ _ _ _ _ _ hr]
                      exact ih _ _ _ _ _ _ _ _ h
                    · next x2 px S1 hr =>
                      rw [ih _ _ _ _ _ _ _ _ hr]
                      exact h
                    · cases h
                  · cases h
theorem ma_run_le {X : Nat × (Nat → Int32)} {f g d w M pc : Nat} {L : ma_L} {st : List ma_V} {S : ma_S} {r : ma_R} (hfg : f ≤ g) (h : ma_run X f d w M pc L st S = some r) : ma_run X g d w M pc L st S = some r := by
  induction hfg with
  | refl => exact h
  | step _ ih => exact ma_run_up _ _ _ _ _ _ _ _ _ ih
theorem ma_run_one {X : Nat × (Nat → Int32)} {f g d w M pc : Nat} {L : ma_L} {st : List ma_V} {S : ma_S} {r r' : ma_R} (h : ma_run X f d w M pc L st S = some r) (h' : ma_run X g d w M pc L st S = some r') : r = r' := by
  have a := ma_run_le (Nat.le_max_left f g) h
  have b := ma_run_le (Nat.le_max_right f g) h'
  exact Option.some.inj (a.symm.trans b)
noncomputable def ma_ev (X : Nat × (Nat → Int32)) (d w M pc : Nat) (L : ma_L) (st : List ma_V) (S : ma_S) : Option ma_R :=
  haveI := Classical.propDecidable (∃ r : ma_R, ∃ f, ma_run X f d w M pc L st S = some r)
  if h : ∃ r : ma_R, ∃ f, ma_run X f d w M pc L st S = some r then some (Classical.choose h) else none
theorem ma_ev_iff {X : Nat × (Nat → Int32)} {d w M pc : Nat} {L : ma_L} {st : List ma_V} {S : ma_S} {r : ma_R} : ma_ev X d w M pc L st S = some r ↔ ∃ f, ma_run X f d w M pc L st S = some r := by
  unfold ma_ev
  constructor
  · intro h
    split at h
    · next hh =>
      obtain ⟨f, hf⟩ := Classical.choose_spec hh
      rw [Option.some.inj h] at hf
      exact ⟨f, hf⟩
    · cases h
  · intro ⟨f, hf⟩
    have hh : ∃ r : ma_R, ∃ f, ma_run X f d w M pc L st S = some r := ⟨r, f, hf⟩
    rw [dif_pos hh]
    obtain ⟨g, hg⟩ := Classical.choose_spec hh
    rw [ma_run_one hg hf]
theorem ma_ev_ext {X : Nat × (Nat → Int32)} {d w M pc : Nat} {L : ma_L} {st : List ma_V} {S : ma_S} {v : Option ma_R} (h : ∀ r, (∃ f, ma_run X f d w M pc L st S = some r) ↔ v = some r) : ma_ev X d w M pc L st S = v := by
  apply Option.ext
  intro r
  rw [ma_ev_iff]
  exact h r
section MA15
variable {X : Nat × (Nat → Int32)} {d w M pc : Nat} {L : ma_L} {st : List ma_V} {S : ma_S} {o nL : Nat} {y : MethodName} {cc : ByteArray} {ret : Option FieldType} {i : Instr} {n : Nat}
/-- a step that is no call -/
theorem ma_ev_one (hm : ma_md M = some (o, y, cc, nL, ret)) (hd : decode cc pc = .ok (i, n)) {pc' : Nat} {L' : ma_L} {st' : List ma_V} {S' : ma_S} (h : ma_one X o (decide (y.name = "<init>")) nL d w i n pc L st S = some (pc', L', st', S')) : ma_ev X d w M pc L st S = ma_ev X d w M pc' L' st' S' := by
  have key : ∀ f, ma_run X (f + 1) d w M pc L st S = ma_run X f d w M pc' L' st' S' := by
    intro f
    rw [ma_run_s]
    simp only [ma_body, hm, hd, h]
  apply ma_ev_ext
  intro r
  rw [ma_ev_iff]
  constructor
  · intro ⟨f, hf⟩
    cases f with
    | zero => cases hf
    | succ f => exact ⟨f, (key f).symm.trans hf⟩
  · intro ⟨f, hf⟩
    exact ⟨f + 1, (key f).trans hf⟩
theorem ma_ev_ret (hm : ma_md M = some (o, y, cc, nL, ret)) (hd : decode cc pc = .ok (i, n)) (h1 : ma_one X o (decide (y.name = "<init>")) nL d w i n pc L st S = none) {v : Option ma_V} (h : ma_ret ret i n st = some v) : ma_ev X d w M pc L st S = some (.inl v, S) := by
  refine ma_ev_iff.mpr ⟨1, ?_⟩
  rw [ma_run_s]
  simp only [ma_body, hm, hd, h1, h]
theorem ma_ev_thr (hm : ma_md M = some (o, y, cc, nL, ret)) (hd : decode cc pc = .ok (i, n)) (h1 : ma_one X o (decide (y.name = "<init>")) nL d w i n pc L st S = none) (h2 : ma_ret ret i n st = none) {x : Nat} (h : ma_thr o cc pc = some x) (h6 : 6 ≤ d ∧ ma_sz st + 81 ≤ w) : ma_ev X d w M pc L st S = some (.inr (x, pc), ma_bump S) := by
  refine ma_ev_iff.mpr ⟨1, ?_⟩
  rw [ma_run_s]
  simp only [ma_body, hm, hd, h1, h2, h]
  rw [if_pos h6]
/-- a call: the callee's value, then what follows -/
theorem ma_ev_call (hm : ma_md M = some (o, y, cc, nL, ret)) (hd : decode cc pc = .ok (i, n)) (h1 : ma_one X o (decide (y.name = "<init>")) nL d w i n pc L st S = none) (h2 : ma_ret ret i n st = none) (h3 : ma_thr o cc pc = none) {k M' : Nat} {as rest : List ma_V} (h4 : ma_cl o i n st S = some ((k, M'), as, rest)) {o' nL' : Nat} {y' : MethodName} {cc' : ByteArray} {ret' : Option FieldType} (hm' : ma_md M' = some (o', y', cc', nL', ret')) (hr : 1 ≤ d ∧ 19 + nL' ≤ w ∧ ma_sz as ≤ nL' ∧ ma_sz rest ≤ 8) :
    ma_ev X d w M pc L st S = (match ma_ev X (d - 1) (w - (19 + nL')) M' 0 (ma_args 0 as) [] S with
      | some (.inl v, S') => ma_ev X d w M (pc + 3) L (v.toList ++ rest) S'
      | some (.inr (x, _), S') => if k ≤ 1 then some (.inr (x, pc), S') else none
      | none => none) := by
  have key : ∀ f, ma_run X (f + 1) d w M pc L st S = (match ma_run X f (d - 1) (w - (19 + nL')) M' 0 (ma_args 0 as) [] S with
      | some (.inl v, S') => ma_run X f d w M (pc + 3) L (v.toList ++ rest) S'
      | some (.inr (x, _), S') => if k ≤ 1 then some (.inr (x, pc), S') else none
      | none => none) := by
    intro f
    rw [ma_run_s]
    simp only [ma_body, hm, hd, h1, h2, h3, h4, hm']
    rw [if_pos hr]
    rfl
  apply ma_ev_ext
  intro r
  constructor
  · intro ⟨f, hf⟩
    cases f with
    | zero => cases hf
    | succ f =>
      rw [key] at hf
      split at hf
      · next v S1 hc =>
        rw [ma_ev_iff.mpr ⟨f, hc⟩]
        exact ma_ev_iff.mpr ⟨f, hf⟩
      · next x px S1 hc =>
        rw [ma_ev_iff.mpr ⟨f, hc⟩]
        exact hf
      · cases hf
  · intro hf
    split at hf
    · next v S1 hc =>
      obtain ⟨f1, h5⟩ := ma_ev_iff.mp hc
      obtain ⟨f2, h6⟩ := ma_ev_iff.mp hf
      refine ⟨max f1 f2 + 1, ?_⟩
      rw [key, ma_run_le (Nat.le_max_left f1 f2) h5]
      exact ma_run_le (Nat.le_max_right f1 f2) h6
    · next x px S1 hc =>
      obtain ⟨f1, h5⟩ := ma_ev_iff.mp hc
      refine ⟨f1 + 1, ?_⟩
      rw [key, h5]
      exact hf
    · cases hf
end MA15
end
section
/-! EQUATIONS OF THE VALUE, an instruction each, with nothing asked of the heap: what the machine itself would stumble over is 'none' -/
/-- a reference that must not be null -/
def k_r (r : Option Nat) (K : Nat → Option ma_R) : Option ma_R := match r with
  | some c => K c
  | none => none
/-- a cell of one of these kinds -/
def k_c (S : ma_S) (c : Nat) (ts : List Nat) (K : Option ma_R) : Option ma_R := if ma_is S c = true ∧ (mH S c).1 ∈ ts then K else none
/-- a place in a row of that kind -/
def k_x (S : ma_S) (c t : Nat) (i : Int32) (K : Option ma_R) : Option ma_R := if ma_is S c = true ∧ (mH S c).1 = t ∧ ma_ix S c i = true then K else none
/-- an answer that is an int, a reference, nothing; or an exception, which goes on from pc where the call may throw -/
def k_i (e : Option ma_R) (k pc : Nat) (K : Int32 → ma_S → Option ma_R) : Option ma_R := match e with
  | some (.inl (some (.inl x)), S) => K x S
  | some (.inr (x, _), S) => if k ≤ 1 then some (.inr (x, pc), S) else none
  | _ => none
def k_o (e : Option ma_R) (k pc : Nat) (K : Option Nat → ma_S → Option ma_R) : Option ma_R := match e with
  | some (.inl (some (.inr (.inr r))), S) => K r S
  | some (.inr (x, _), S) => if k ≤ 1 then some (.inr (x, pc), S) else none
  | _ => none
def k_v (e : Option ma_R) (k pc : Nat) (K : ma_S → Option ma_R) : Option ma_R := match e with
  | some (.inl none, S) => K S
  | some (.inr (x, _), S) => if k ≤ 1 then some (.inr (x, pc), S) else none
  | _ => none
/-- an answer is of its method's type -/
def ma_rt9 (ret : Option FieldType) (v : Option ma_V) : Prop := match ret with
  | none => v = none
  | some (.object _) => ∃ r, v = some (.inr (.inr r))
  | some (.array _) => ∃ r, v = some (.inr (.inr r))
  | some _ => ∃ x, v = some (.inl x)
theorem ma_ret_ty {ret : Option FieldType} {i : Instr} {n : Nat} {st : List ma_V} {v : Option ma_V} (h : ma_ret ret i n st = some v) : (∃ x, v = some (.inl x)) ∨ (∃ r, v = some (.inr (.inr r)) ∧ ((∃ C, ret = some (.object C)) ∨ ∃ t, ret = some (.array t))) ∨ (v = none ∧ ret = none) := by
  unfold ma_ret at h
  split at h
  · split at h
    · split at h
      · cases h; exact Or.inl ⟨_, rfl⟩
      · cases h
    · cases h
  · split at h
    · cases h; exact Or.inr (Or.inl ⟨_, rfl, Or.inl ⟨_, rfl⟩⟩)
    · cases h; exact Or.inr (Or.inl ⟨_, rfl, Or.inr ⟨_, rfl⟩⟩)
    · cases h
  · split at h
    · cases h; exact Or.inr (Or.inr ⟨rfl, rfl⟩)
    · cases h
  · cases h
section MA16
variable {X : Nat × (Nat → Int32)} {d w M pc : Nat} {L : ma_L} {st r : List ma_V} {S : ma_S} {o nL : Nat} {y : MethodName} {cc : ByteArray} {ret : Option FieldType} {i : Instr} {n : Nat}
theorem e_push (hm : ma_md M = some (o, y, cc, nL, ret)) (hd : decode cc pc = .ok (i, n)) {v : ma_V} (h : ma_push i n L = some v) : ma_ev X d w M pc L st S = ma_ev X d w M (pc + n) L (v :: st) S :=
  ma_ev_one hm hd (by unfold ma_one; rw [h])
theorem e_stk (hm : ma_md M = some (o, y, cc, nL, ret)) (hd : decode cc pc = .ok (i, n)) {st' : List ma_V} (h0 : ma_push i n L = none) (h : ma_stk i n st = some st') : ma_ev X d w M pc L st S = ma_ev X d w M (pc + n) L st' S :=
  ma_ev_one hm hd (by unfold ma_one; rw [h0, h])
theorem e_sto (hm : ma_md M = some (o, y, cc, nL, ret)) (hd : decode cc pc = .ok (i, n)) {L' : ma_L} {st' : List ma_V} (h0 : ma_push i n L = none) (h1 : ma_stk i n st = none) (h : ma_sto i n nL L st = some (L', st')) : ma_ev X d w M pc L st S = ma_ev X d w M (pc + n) L' st' S :=
  ma_ev_one hm hd (by unfold ma_one; rw [h0, h1]; simp only [h])
theorem e_jmp (hm : ma_md M = some (o, y, cc, nL, ret)) (hd : decode cc pc = .ok (i, n)) {t : Nat} {st' : List ma_V} (h0 : ma_push i n L = none) (h1 : ma_stk i n st = none) (h2 : ma_sto i n nL L st = none) (h : ma_jmp i n pc st = some (t, st')) : ma_ev X d w M pc L st S = ma_ev X d w M t L st' S :=
  ma_ev_one hm hd (by unfold ma_one; rw [h0, h1]; simp only [h2, h])
theorem e_goto (hm : ma_md M = some (o, y, cc, nL, ret)) {off : Int} (hd : decode cc pc = .ok (.goto off, 3)) {t : Nat} (ht : ma_to pc off = some t) : ma_ev X d w M pc L st S = ma_ev X d w M t L st S :=
  e_jmp hm hd rfl rfl rfl (by unfold ma_jmp; simp only [ht, Option.map_some])
theorem e_if0 (hm : ma_md M = some (o, y, cc, nL, ret)) {c : ClassFile.Cond} {off : Int} (hd : decode cc pc = .ok (.ifCond c off, 3)) {t : Nat} (ht : ma_to pc off = some t) {x : Int32} : ma_ev X d w M pc L (.inl x :: r) S = if ma_c0 c x = true then ma_ev X d w M t L r S else ma_ev X d w M (pc + 3) L r S := by
  rw [e_jmp (t := if ma_c0 c x = true then t else pc + 3) (st' := r) hm hd rfl rfl rfl (by unfold ma_jmp; simp only [ht, Option.map_some])]
  split <;> rfl
theorem e_if2 (hm : ma_md M = some (o, y, cc, nL, ret)) {c : ClassFile.Cond} {off : Int} (hd : decode cc pc = .ok (.if_icmp c off, 3)) {t : Nat} (ht : ma_to pc off = some t) {x z : Int32} : ma_ev X d w M pc L (.inl z :: .inl x :: r) S = if ma_c2 c x z = true then ma_ev X d w M t L r S else ma_ev X d w M (pc + 3) L r S := by
  rw [e_jmp (t := if ma_c2 c x z = true then t else pc + 3) (st' := r) hm hd rfl rfl rfl (by unfold ma_jmp; simp only [ht, Option.map_some])]
  split <;> rfl
theorem e_ifnull (hm : ma_md M = some (o, y, cc, nL, ret)) {off : Int} (hd : decode cc pc = .ok (.ifnull off, 3)) {t : Nat} (ht : ma_to pc off = some t) {q : Option Nat} : ma_ev X d w M pc L (.inr (.inr q) :: r) S = if q = none then ma_ev X d w M t L r S else ma_ev X d w M (pc + 3) L r S := by
  cases q with
  | none => rw [if_pos rfl]; exact e_jmp hm hd rfl rfl rfl (by unfold ma_jmp; simp only [ht, Option.map_some])
  | some c => rw [if_neg (fun h => by cases h)]; exact e_jmp hm hd rfl rfl rfl rfl
theorem e_ifnonnull (hm : ma_md M = some (o, y, cc, nL, ret)) {off : Int} (hd : decode cc pc = .ok (.ifnonnull off, 3)) {t : Nat} (ht : ma_to pc off = some t) {q : Option Nat} : ma_ev X d w M pc L (.inr (.inr q) :: r) S = if q = none then ma_ev X d w M (pc + 3) L r S else ma_ev X d w M t L r S := by
  cases q with
  | none => rw [if_pos rfl]; exact e_jmp hm hd rfl rfl rfl rfl
  | some c => rw [if_neg (fun h => by cases h)]; exact e_jmp hm hd rfl rfl rfl (by unfold ma_jmp; simp only [ht, Option.map_some])
/-- where nothing fits the value is none -/
theorem ma_ev_none (hm : ma_md M = some (o, y, cc, nL, ret)) (hd : decode cc pc = .ok (i, n)) (h1 : ma_one X o (decide (y.name = "<init>")) nL d w i n pc L st S = none) (h2 : ma_ret ret i n st = none) (h3 : ma_thr o cc pc = none) (h4 : ma_cl o i n st S = none) : ma_ev X d w M pc L st S = none := by
  have key : ∀ f, ma_run X (f + 1) d w M pc L st S = none := by
    intro f
    rw [ma_run_s]
    simp only [ma_body, hm, hd, h1, h2, h3, h4]
  apply ma_ev_ext
  intro q
  constructor
  · intro ⟨f, hf⟩
    cases f with
    | zero => cases hf
    | succ f => rw [key] at hf; cases hf
  · intro h; cases h
theorem ma_thr_no {x : Instr} {m : Nat} (hd : decode cc pc = .ok (x, m)) (hx : ∀ ik, x ≠ .new ik) : ma_thr o cc pc = none := by
  unfold ma_thr
  rw [hd]
  split
  · next ik ic h0 h3 h4 h7 => exact absurd (congrArg Prod.fst (Except.ok.inj h0)) (hx ik)
  · rfl
/-- a field, of objects of the kinds ts, all with it at place k -/
theorem e_getf (hm : ma_md M = some (o, y, cc, nL, ret)) {x : Nat} (hd : decode cc pc = .ok (.getfield x, 3)) (ho : o ≠ 17) {q : Option Nat} {ts : List Nat} {k : Nat} {ty : FieldType} (ht : ∀ t, 1 ≤ t → t ≤ 12 → if t ∈ ts then ma_fld o x t = some k ∧ ma_ft t k = ty else ma_fld o x t = none) (hts : ∀ t ∈ ts, 1 ≤ t ∧ t ≤ 12) :
    ma_ev X d w M pc L (.inr (.inr q) :: r) S = k_r q (fun c => k_c S c ts (ma_ev X d w M (pc + 3) L (ma_rd S c k ty :: r) S)) := by
  cases q with
  | none =>
    refine ma_ev_none hm hd ?_ rfl (ma_thr_no hd (fun _ h => by cases h)) rfl
    unfold ma_one
    rfl
  | some c =>
    show _ = k_c S c ts _
    unfold k_c
    by_cases hc : ma_is S c = true ∧ (mH S c).1 ∈ ts
    · rw [if_pos hc]
      have hb := hts _ hc.2
      have h9 := ht (mH S c).1 hb.1 hb.2
      rw [if_pos hc.2] at h9
      refine ma_ev_one hm hd ?_
      have hh : ma_hp o (decide (y.name = "<init>")) (.getfield x) 3 (.inr (.inr (some c)) :: r) S = some (ma_rd S c k ty :: r, S) := by
        unfold ma_hp
        simp only [hc.1, hb.1, hb.2, decide_true, Bool.and_self, if_true, h9.1, Option.map_some, h9.2]
      show (match ma_hp o (decide (y.name = "<init>")) (.getfield x) 3 (.inr (.inr (some c)) :: r) S with | some (st', S') => _ | none => _) = _
      rw [hh]
    · rw [if_neg hc]
      refine ma_ev_none hm hd ?_ rfl (ma_thr_no hd (fun _ h => by cases h)) rfl
      have hh : ma_hp o (decide (y.name = "<init>")) (.getfield x) 3 (.inr (.inr (some c)) :: r) S = none := by
        unfold ma_hp
        simp only
        split
        · next hg =>
          simp only [Bool.and_eq_true, decide_eq_true_eq] at hg
          have h9 := ht (mH S c).1 hg.1.2 hg.2
          rw [if_neg (fun z => hc ⟨hg.1.1, z⟩)] at h9
          rw [h9]
          rfl
        · rfl
      unfold ma_one
      simp only [ma_push, ma_stk, ma_sto, ma_jmp, hh, ma_sc, ma_ex, ma_al, ma_pr, ma_tx, ho, false_and, if_false]
end MA16
end
section
/-! EQUATIONS OF THE VALUE, on: locals by what they hold, fields, rows, answers, calls -/
theorem ma_get_self (L : ma_L) (i : Nat) (v : ma_V) : ma_get (ma_st L i v) i = some v := by
  unfold ma_get ma_st
  rw [List.find?_cons_of_pos (by simp)]
  rfl
theorem ma_get_other {L : ma_L} {i j : Nat} {u v : ma_V} (h : ma_get L j = some u) (h2 : ma_2 u = false) (hn : j ≠ i) : ma_get (ma_st L i v) j = some u := by
  unfold ma_get ma_st at *
  rw [List.find?_cons_of_neg (by simp; exact fun z => hn z.symm)]
  induction L with
  | nil => cases h
  | cons q L ih =>
    by_cases hq : q.1 = j
    · rw [List.find?_cons_of_pos (by simpa using hq)] at h
      have hu : q.2 = u := Option.some.inj h
      have hk : (!(q.1 == i) && !(q.1 + 1 == i && ma_2 q.2)) = true := by
        rw [hu, h2, hq]
        simp [hn]
      rw [List.filter_cons, if_pos hk, List.find?_cons_of_pos (by simpa using hq)]
      exact h
    · rw [List.find?_cons_of_neg (by simpa using hq)] at h
      by_cases hk : (!(q.1 == i) && !(q.1 + 1 == i && ma_2 q.2)) = true
      · rw [List.filter_cons, if_pos hk, List.find?_cons_of_neg (by simpa using hq)]
        exact ih h
      · rw [List.filter_cons, if_neg hk]
        exact ih h
/-- what a method begins with -/
theorem ma_get_args0 {as : List ma_V} {v : ma_V} : ma_get (ma_args 0 (v :: as)) 0 = some v := by
  unfold ma_get ma_args
  rw [List.find?_cons_of_pos (by simp)]
  rfl
section MA17
variable {X : Nat × (Nat → Int32)} {d w M pc : Nat} {L : ma_L} {st r : List ma_V} {S : ma_S} {o nL : Nat} {y : MethodName} {cc : ByteArray} {ret : Option FieldType} {i : Instr} {n : Nat}
theorem e_iload (hm : ma_md M = some (o, y, cc, nL, ret)) {k : Nat} (hd : decode cc pc = .ok (.iload k, 2)) {x : Int32} (h : ma_get L k = some (.inl x)) : ma_ev X d w M pc L st S = ma_ev X d w M (pc + 2) L (.inl x :: st) S := e_push hm hd (by simp only [ma_push, h])
theorem e_iload_n (hm : ma_md M = some (o, y, cc, nL, ret)) {k : Fin 4} (hd : decode cc pc = .ok (.iload_n k, 1)) {x : Int32} (h : ma_get L (k : Nat) = some (.inl x)) : ma_ev X d w M pc L st S = ma_ev X d w M (pc + 1) L (.inl x :: st) S := e_push hm hd (by simp only [ma_push, h])
theorem e_aload (hm : ma_md M = some (o, y, cc, nL, ret)) {k : Nat} (hd : decode cc pc = .ok (.aload k, 2)) {x : Option Nat} (h : ma_get L k = some (.inr (.inr x))) : ma_ev X d w M pc L st S = ma_ev X d w M (pc + 2) L (.inr (.inr x) :: st) S := e_push hm hd (by simp only [ma_push, h])
theorem e_aload_n (hm : ma_md M = some (o, y, cc, nL, ret)) {k : Fin 4} (hd : decode cc pc = .ok (.aload_n k, 1)) {x : Option Nat} (h : ma_get L (k : Nat) = some (.inr (.inr x))) : ma_ev X d w M pc L st S = ma_ev X d w M (pc + 1) L (.inr (.inr x) :: st) S := e_push hm hd (by simp only [ma_push, h])
theorem e_lload (hm : ma_md M = some (o, y, cc, nL, ret)) {k : Nat} (hd : decode cc pc = .ok (.lload k, 2)) {x : Int64} (h : ma_get L k = some (.inr (.inl x))) : ma_ev X d w M pc L st S = ma_ev X d w M (pc + 2) L (.inr (.inl x) :: st) S := e_push hm hd (by simp only [ma_push, h])
theorem e_lload_n (hm : ma_md M = some (o, y, cc, nL, ret)) {k : Fin 4} (hd : decode cc pc = .ok (.lload_n k, 1)) {x : Int64} (h : ma_get L (k : Nat) = some (.inr (.inl x))) : ma_ev X d w M pc L st S = ma_ev X d w M (pc + 1) L (.inr (.inl x) :: st) S := e_push hm hd (by simp only [ma_push, h])
theorem e_istore (hm : ma_md M = some (o, y, cc, nL, ret)) {k : Nat} (hd : decode cc pc = .ok (.istore k, 2)) (hk : k < nL) {x : Int32} : ma_ev X d w M pc L (.inl x :: r) S = ma_ev X d w M (pc + 2) (ma_st L k (.inl x)) r S := e_sto hm hd rfl rfl (if_pos hk)
theorem e_istore_n (hm : ma_md M = some (o, y, cc, nL, ret)) {k : Fin 4} (hd : decode cc pc = .ok (.istore_n k, 1)) (hk : (k : Nat) < nL) {x : Int32} : ma_ev X d w M pc L (.inl x :: r) S = ma_ev X d w M (pc + 1) (ma_st L k (.inl x)) r S := e_sto hm hd rfl rfl (if_pos hk)
theorem e_astore (hm : ma_md M = some (o, y, cc, nL, ret)) {k : Nat} (hd : decode cc pc = .ok (.astore k, 2)) (hk : k < nL) {x : Option Nat} : ma_ev X d w M pc L (.inr (.inr x) :: r) S = ma_ev X d w M (pc + 2) (ma_st L k (.inr (.inr x))) r S := e_sto hm hd rfl rfl (if_pos hk)
theorem e_astore_n (hm : ma_md M = some (o, y, cc, nL, ret)) {k : Fin 4} (hd : decode cc pc = .ok (.astore_n k, 1)) (hk : (k : Nat) < nL) {x : Option Nat} : ma_ev X d w M pc L (.inr (.inr x) :: r) S = ma_ev X d w M (pc + 1) (ma_st L k (.inr (.inr x))) r S := e_sto hm hd rfl rfl (if_pos hk)
theorem e_iinc (hm : ma_md M = some (o, y, cc, nL, ret)) {k : Nat} {c : Int} (hd : decode cc pc = .ok (.iinc k c, 3)) (hk : k < nL) {x : Int32} (h : ma_get L k = some (.inl x)) : ma_ev X d w M pc L st S = ma_ev X d w M (pc + 3) (ma_st L k (.inl (x + Int32.ofInt c))) st S :=
  e_sto hm hd rfl rfl (by unfold ma_sto; simp only [h, if_pos hk])
theorem e_idiv (hm : ma_md M = some (o, y, cc, nL, ret)) (hd : decode cc pc = .ok (.idiv, 1)) {x z : Int32} : ma_ev X d w M pc L (.inl z :: .inl x :: r) S = if z = 0 then none else ma_ev X d w M (pc + 1) L (.inl (x / z) :: r) S := by
  split
  · next h =>
    refine ma_ev_none hm hd ?_ rfl (ma_thr_no hd (fun _ h => by cases h)) rfl
    unfold ma_one
    simp only [ma_push, ma_stk, h, if_true, ma_sto, ma_jmp, ma_hp, ma_sc, ma_ex, ma_al, ma_pr, ma_tx]
  · next h => exact e_stk hm hd rfl (if_neg h)
theorem e_ret (hm : ma_md M = some (o, y, cc, nL, ret)) (hd : decode cc pc = .ok (i, n)) (h0 : ma_one X o (decide (y.name = "<init>")) nL d w i n pc L st S = none) {v : Option ma_V} (h : ma_ret ret i n st = some v) : ma_ev X d w M pc L st S = some (.inl v, S) := ma_ev_ret hm hd h0 h
theorem e_ireturn (hm : ma_md M = some (o, y, cc, nL, some .int)) (hd : decode cc pc = .ok (.ireturn, 1)) {x : Int32} : ma_ev X d w M pc L [.inl x] S = some (.inl (some (.inl x)), S) := by
  refine ma_ev_ret hm hd ?_ (by unfold ma_ret; simp [narrow])
  unfold ma_one
  rfl
theorem e_zreturn (hm : ma_md M = some (o, y, cc, nL, some .boolean)) (hd : decode cc pc = .ok (.ireturn, 1)) {x : Int32} (hx : x = 0 ∨ x = 1) : ma_ev X d w M pc L [.inl x] S = some (.inl (some (.inl x)), S) := by
  refine ma_ev_ret hm hd ?_ (by unfold ma_ret; rcases hx with rfl | rfl <;> simp [narrow])
  unfold ma_one
  rfl
theorem e_areturn {C : String} (hm : ma_md M = some (o, y, cc, nL, some (.object C))) (hd : decode cc pc = .ok (.areturn, 1)) {x : Option Nat} : ma_ev X d w M pc L [.inr (.inr x)] S = some (.inl (some (.inr (.inr x))), S) := by
  refine ma_ev_ret hm hd ?_ rfl
  unfold ma_one
  rfl
theorem e_return (hm : ma_md M = some (o, y, cc, nL, none)) (hd : decode cc pc = .ok (.return_, 1)) : ma_ev X d w M pc L [] S = some (.inl none, S) := by
  refine ma_ev_ret hm hd ?_ rfl
  unfold ma_one
  rfl
end MA17
end
section
/-! EQUATIONS OF THE VALUE, on: fields written, rows read and written -/
section MA18
variable {X : Nat × (Nat → Int32)} {d w M pc : Nat} {L : ma_L} {st r : List ma_V} {S : ma_S} {o nL : Nat} {y : MethodName} {cc : ByteArray} {ret : Option FieldType} {i : Instr} {n : Nat}
/-- an instruction of which all but one family know nothing -/
theorem e_hp (hm : ma_md M = some (o, y, cc, nL, ret)) (hd : decode cc pc = .ok (i, n)) (h0 : ma_push i n L = none) (h1 : ma_stk i n st = none) (h2 : ma_sto i n nL L st = none) (h3 : ma_jmp i n pc st = none) (h5 : ma_sc X i n st = none) (h6 : ma_ex o i n st S = none) (h7 : ma_al o i n st S = none) (h8 : ma_pr o d w i n st S = none) (h9 : ma_tx X o i n st = none) (h10 : ma_ret ret i n st = none) (h11 : ∀ ik, i ≠ .new ik) (h12 : ma_cl o i n st S = none) :
    ma_ev X d w M pc L st S = (ma_hp o (decide (y.name = "<init>")) i n st S).bind (fun z => ma_ev X d w M (pc + n) L z.1 z.2) := by
  cases hh : ma_hp o (decide (y.name = "<init>")) i n st S with
  | none =>
    refine ma_ev_none hm hd ?_ h10 (ma_thr_no hd h11) h12
    unfold ma_one
    simp only [h0, h1, h2, h3, hh, h5, h6, h7, h8, h9]
  | some z =>
    refine ma_ev_one hm hd ?_
    unfold ma_one
    simp only [h0, h1, h2, h3, hh]
/-- a field is written -/
theorem e_putf (hm : ma_md M = some (o, y, cc, nL, ret)) {x : Nat} (hd : decode cc pc = .ok (.putfield x, 3)) {v : ma_V} {q : Option Nat} {ts : List Nat} {k : Nat} {ty : FieldType}
    (ht : ∀ t, 1 ≤ t → t ≤ 12 → if t ∈ ts then ma_fld o x t = some k ∧ ma_ft t k = ty ∧ (∃ C T N, vwCl[t]? = some (C, T, N) ∧ (!(T k).2.2.2 || (decide (y.name = "<init>") && decide ((T k).1 = ma_cn o))) = true) else ma_fld o x t = none) (hts : ∀ t ∈ ts, 1 ≤ t ∧ t ≤ 12) :
    ma_ev X d w M pc L (v :: .inr (.inr q) :: r) S = k_r q (fun c => k_c S c ts (if ma_ok ty v = true then ma_ev X d w M (pc + 3) L r (ma_put S c k v) else none)) := by
  rw [e_hp hm hd rfl rfl rfl rfl rfl rfl rfl rfl rfl rfl (fun _ h => by cases h) rfl]
  cases q with
  | none => rfl
  | some c =>
    show _ = k_c S c ts _
    unfold k_c
    by_cases hc : ma_is S c = true ∧ (mH S c).1 ∈ ts
    · rw [if_pos hc]
      have hb := hts _ hc.2
      have h9 := ht (mH S c).1 hb.1 hb.2
      rw [if_pos hc.2] at h9
      obtain ⟨g1, g2, C, T, N, g3, g4⟩ := h9
      unfold ma_hp
      simp only [hc.1, hb.1, hb.2, decide_true, Bool.and_self, if_true, g1, g3, g2, g4, Bool.and_true]
      split <;> rfl
    · rw [if_neg hc]
      have hh : ma_hp o (decide (y.name = "<init>")) (.putfield x) 3 (v :: .inr (.inr (some c)) :: r) S = none := by
        unfold ma_hp
        simp only
        split
        · next hg =>
          simp only [Bool.and_eq_true, decide_eq_true_eq] at hg
          have h9 := ht (mH S c).1 hg.1.2 hg.2
          rw [if_neg (fun z => hc ⟨hg.1.1, z⟩)] at h9
          rw [h9]
        · rfl
      rw [hh]
      rfl
theorem ma_is30 {S : ma_S} {c : Nat} (h : c < 64) : ma_is S c = false := by
  unfold ma_is
  rw [decide_eq_false (by omega)]
  rfl
/-- an int out of a row -/
theorem e_iald (hm : ma_md M = some (o, y, cc, nL, ret)) (hd : decode cc pc = .ok (.iaload, 1)) {j : Int32} {q : Option Nat} (hq : q ≠ some 30) : ma_ev X d w M pc L (.inl j :: .inr (.inr q) :: r) S = k_r q (fun c => k_x S c 20 j (ma_ev X d w M (pc + 1) L (.inl (mI S c j.toNatClampNeg) :: r) S)) := by
  have h5 : ma_sc X .iaload 1 (.inl j :: .inr (.inr q) :: r) = none := by
    unfold ma_sc
    split
    · next h => cases h; exact absurd rfl hq
    · next h => cases h
    · rfl
  rw [e_hp hm hd rfl rfl rfl rfl h5 rfl rfl rfl rfl rfl (fun _ h => by cases h) rfl]
  cases q with
  | none => rfl
  | some c =>
    show _ = k_x S c 20 j _
    unfold k_x ma_hp
    simp only [Bool.and_eq_true, decide_eq_true_eq, and_assoc]
    split <;> rfl
theorem e_iast (hm : ma_md M = some (o, y, cc, nL, ret)) (hd : decode cc pc = .ok (.iastore, 1)) {j x : Int32} {q : Option Nat} : ma_ev X d w M pc L (.inl x :: .inl j :: .inr (.inr q) :: r) S = k_r q (fun c => k_x S c 20 j (ma_ev X d w M (pc + 1) L r (ma_put S c j.toNatClampNeg (.inl x)))) := by
  rw [e_hp hm hd rfl rfl rfl rfl rfl rfl rfl rfl rfl rfl (fun _ h => by cases h) rfl]
  cases q with
  | none => rfl
  | some c =>
    show _ = k_x S c 20 j _
    unfold k_x ma_hp
    simp only [Bool.and_eq_true, decide_eq_true_eq, and_assoc]
    split <;> rfl
/-- a byte or a boolean -/
theorem e_bald (hm : ma_md M = some (o, y, cc, nL, ret)) (hd : decode cc pc = .ok (.baload, 1)) {j : Int32} {q : Option Nat} (hq : ∀ c, q = some c → 64 ≤ c) : ma_ev X d w M pc L (.inl j :: .inr (.inr q) :: r) S = k_r q (fun c => if (mH S c).1 = 22 then k_x S c 22 j (ma_ev X d w M (pc + 1) L (.inl (mI S c j.toNatClampNeg) :: r) S) else k_x S c 21 j (ma_ev X d w M (pc + 1) L (.inl (mI S c j.toNatClampNeg) :: r) S)) := by
  have h9 : ma_tx X o .baload 1 (.inl j :: .inr (.inr q) :: r) = none := by
    cases q with
    | none => rfl
    | some c =>
      have := hq c rfl
      show (if 32 ≤ c ∧ c < 32 + 19 ∧ 0 ≤ j ∧ j.toNatClampNeg < ma_txl.getD (c - 32) 0 then _ else none) = none
      rw [if_neg (by omega)]
  rw [e_hp hm hd rfl rfl rfl rfl rfl rfl rfl rfl h9 rfl (fun _ h => by cases h) rfl]
  cases q with
  | none => rfl
  | some c =>
    show _ = (if (mH S c).1 = 22 then k_x S c 22 j _ else k_x S c 21 j _)
    unfold k_x ma_hp
    simp only [Bool.and_eq_true, Bool.or_eq_true, decide_eq_true_eq, and_assoc]
    by_cases h22 : (mH S c).1 = 22
    · simp only [h22, or_true, true_and, if_true]
      split <;> rfl
    · simp only [h22, or_false, if_false]
      split <;> rfl
theorem e_bast (hm : ma_md M = some (o, y, cc, nL, ret)) (hd : decode cc pc = .ok (.bastore, 1)) {j x : Int32} {q : Option Nat} : ma_ev X d w M pc L (.inl x :: .inl j :: .inr (.inr q) :: r) S = k_r q (fun c => if (mH S c).1 = 22 then k_x S c 22 j (ma_ev X d w M (pc + 1) L r (ma_put S c j.toNatClampNeg (.inl (x &&& 1)))) else k_x S c 21 j (ma_ev X d w M (pc + 1) L r (ma_put S c j.toNatClampNeg (.inl x.toInt8.toInt32)))) := by
  rw [e_hp hm hd rfl rfl rfl rfl rfl rfl rfl rfl rfl rfl (fun _ h => by cases h) rfl]
  cases q with
  | none => rfl
  | some c =>
    show _ = (if (mH S c).1 = 22 then k_x S c 22 j _ else k_x S c 21 j _)
    unfold k_x ma_hp
    simp only [Bool.and_eq_true]
    by_cases h22 : (mH S c).1 = 22
    · simp only [h22, true_and, if_true]
      by_cases hg : ma_is S c = true ∧ ma_ix S c j = true
      · rw [if_pos hg, if_neg (by omega), if_pos hg]; rfl
      · rw [if_neg hg, if_neg hg]; rfl
    · simp only [h22, if_false]
      by_cases hg : ma_is S c = true ∧ ma_ix S c j = true
      · rw [if_pos hg]
        by_cases h21 : (mH S c).1 = 21
        · rw [if_pos h21, if_pos ⟨hg.1, h21, hg.2⟩]; rfl
        · rw [if_neg h21, if_neg (fun z => h21 z.2.1)]; rfl
      · rw [if_neg hg, if_neg (fun z => hg ⟨z.1, z.2.2⟩)]; rfl
/-- a reference out of a row -/
theorem e_aald (hm : ma_md M = some (o, y, cc, nL, ret)) (hd : decode cc pc = .ok (.aaload, 1)) {j : Int32} {q : Option Nat} : ma_ev X d w M pc L (.inl j :: .inr (.inr q) :: r) S = k_r q (fun c => if (mH S c).1 = 25 then k_x S c 25 j (ma_ev X d w M (pc + 1) L (.inr (.inr (mR S c j.toNatClampNeg)) :: r) S) else k_x S c 24 j (ma_ev X d w M (pc + 1) L (.inr (.inr (mR S c j.toNatClampNeg)) :: r) S)) := by
  rw [e_hp hm hd rfl rfl rfl rfl rfl rfl rfl rfl rfl rfl (fun _ h => by cases h) rfl]
  cases q with
  | none => rfl
  | some c =>
    show _ = (if (mH S c).1 = 25 then k_x S c 25 j _ else k_x S c 24 j _)
    unfold k_x ma_hp
    simp only [Bool.and_eq_true, Bool.or_eq_true, decide_eq_true_eq, and_assoc]
    by_cases h22 : (mH S c).1 = 25
    · simp only [h22, or_true, true_and, if_true]
      split <;> rfl
    · simp only [h22, or_false, if_false]
      split <;> rfl
end MA18
end
section
/-! WHAT A RUN COMES TO: from here on runs are reasoned of backwards, an instruction a lemma -/
def ma_oc (o : Option ma_V ⊕ (Nat × Nat)) : Option ma_V ⊕ Nat := match o with
  | .inl v => .inl v
  | .inr q => .inr q.1
/-- the run from here comes to an end, with an answer (or an exception) and a heap of which Q holds -/
def ma_wp (X : Nat × (Nat → Int32)) (d w M pc : Nat) (L : ma_L) (st : List ma_V) (S : ma_S) (Q : Option ma_V ⊕ Nat → ma_S → Prop) : Prop := ∃ f o S', ma_run X f d w M pc L st S = some (o, S') ∧ Q (ma_oc o) S'
def zi (K : Int32 → ma_S → Prop) (E : Nat → ma_S → Prop) : Option ma_V ⊕ Nat → ma_S → Prop := fun o S => match o with
  | .inl (some (.inl v)) => K v S
  | .inr x => E x S
  | _ => False
def zo (K : Option Nat → ma_S → Prop) (E : Nat → ma_S → Prop) : Option ma_V ⊕ Nat → ma_S → Prop := fun o S => match o with
  | .inl (some (.inr (.inr v))) => K v S
  | .inr x => E x S
  | _ => False
def zv (K : ma_S → Prop) (E : Nat → ma_S → Prop) : Option ma_V ⊕ Nat → ma_S → Prop := fun o S => match o with
  | .inl none => K S
  | .inr x => E x S
  | _ => False
section ZW1
variable {X : Nat × (Nat → Int32)} {d w M pc : Nat} {L : ma_L} {st r : List ma_V} {S : ma_S} {o nL : Nat} {y : MethodName} {cc : ByteArray} {ret : Option FieldType} {i : Instr} {n : Nat} {Q Q' : Option ma_V ⊕ Nat → ma_S → Prop}
theorem zw_mono (h : ma_wp X d w M pc L st S Q) (k : ∀ o S', Q o S' → Q' o S') : ma_wp X d w M pc L st S Q' := by
  obtain ⟨f, o, S', h1, h2⟩ := h
  exact ⟨f, o, S', h1, k _ _ h2⟩
theorem zw_one (hm : ma_md M = some (o, y, cc, nL, ret)) (hd : decode cc pc = .ok (i, n)) {pc' : Nat} {L' : ma_L} {st' : List ma_V} {S' : ma_S} (h : ma_one X o (decide (y.name = "<init>")) nL d w i n pc L st S = some (pc', L', st', S')) (k : ma_wp X d w M pc' L' st' S' Q) : ma_wp X d w M pc L st S Q := by
  obtain ⟨f, o', S1, h1, h2⟩ := k
  refine ⟨f + 1, o', S1, ?_, h2⟩
  rw [ma_run_s]
  simp only [ma_body, hm, hd, h]
  exact h1
theorem zw_push (hm : ma_md M = some (o, y, cc, nL, ret)) (hd : decode cc pc = .ok (i, n)) {v : ma_V} (h : ma_push i n L = some v) (k : ma_wp X d w M (pc + n) L (v :: st) S Q) : ma_wp X d w M pc L st S Q :=
  zw_one hm hd (by unfold ma_one; rw [h]) k
theorem zw_stk (hm : ma_md M = some (o, y, cc, nL, ret)) (hd : decode cc pc = .ok (i, n)) {st' : List ma_V} (h0 : ma_push i n L = none) (h : ma_stk i n st = some st') (k : ma_wp X d w M (pc + n) L st' S Q) : ma_wp X d w M pc L st S Q :=
  zw_one hm hd (by unfold ma_one; rw [h0, h]) k
theorem zw_sto (hm : ma_md M = some (o, y, cc, nL, ret)) (hd : decode cc pc = .ok (i, n)) (L' : ma_L) {st' : List ma_V} (h0 : ma_push i n L = none) (h1 : ma_stk i n st = none) (h : ma_sto i n nL L st = some (L', st')) (k : ma_wp X d w M (pc + n) L' st' S Q) : ma_wp X d w M pc L st S Q :=
  zw_one hm hd (by unfold ma_one; rw [h0, h1]; simp only [h]) k
theorem zw_jmp (hm : ma_md M = some (o, y, cc, nL, ret)) (hd : decode cc pc = .ok (i, n)) {t : Nat} {st' : List ma_V} (h0 : ma_push i n L = none) (h1 : ma_stk i n st = none) (h2 : ma_sto i n nL L st = none) (h : ma_jmp i n pc st = some (t, st')) (k : ma_wp X d w M t L st' S Q) : ma_wp X d w M pc L st S Q :=
  zw_one hm hd (by unfold ma_one; rw [h0, h1]; simp only [h2, h]) k
theorem zw_goto (hm : ma_md M = some (o, y, cc, nL, ret)) {off : Int} (hd : decode cc pc = .ok (.goto off, 3)) {t : Nat} (ht : ma_to pc off = some t) (k : ma_wp X d w M t L st S Q) : ma_wp X d w M pc L st S Q :=
  zw_jmp hm hd rfl rfl rfl (by unfold ma_jmp; simp only [ht, Option.map_some]) k
theorem zw_if0 (hm : ma_md M = some (o, y, cc, nL, ret)) {c : ClassFile.Cond} {off : Int} (hd : decode cc pc = .ok (.ifCond c off, 3)) {t : Nat} (ht : ma_to pc off = some t) {x : Int32} {P : Prop} (hP : ma_c0 c x = true ↔ P) (k1 : P → ma_wp X d w M t L r S Q) (k2 : ¬ P → ma_wp X d w M (pc + 3) L r S Q) : ma_wp X d w M pc L (.inl x :: r) S Q := by
  refine zw_jmp (t := if ma_c0 c x = true then t else pc + 3) (st' := r) hm hd rfl rfl rfl (by unfold ma_jmp; simp only [ht, Option.map_some]) ?_
  by_cases h : ma_c0 c x = true
  · rw [if_pos h]; exact k1 (hP.mp h)
  · rw [if_neg h]; exact k2 (fun z => h (hP.mpr z))
theorem zw_if2 (hm : ma_md M = some (o, y, cc, nL, ret)) {c : ClassFile.Cond} {off : Int} (hd : decode cc pc = .ok (.if_icmp c off, 3)) {t : Nat} (ht : ma_to pc off = some t) {x z : Int32} {P : Prop} (hP : ma_c2 c x z = true ↔ P) (k1 : P → ma_wp X d w M t L r S Q) (k2 : ¬ P → ma_wp X d w M (pc + 3) L r S Q) : ma_wp X d w M pc L (.inl z :: .inl x :: r) S Q := by
  refine zw_jmp (t := if ma_c2 c x z = true then t else pc + 3) (st' := r) hm hd rfl rfl rfl (by unfold ma_jmp; simp only [ht, Option.map_some]) ?_
  by_cases h : ma_c2 c x z = true
  · rw [if_pos h]; exact k1 (hP.mp h)
  · rw [if_neg h]; exact k2 (fun z => h (hP.mpr z))
theorem zw_ifnull (hm : ma_md M = some (o, y, cc, nL, ret)) {off : Int} (hd : decode cc pc = .ok (.ifnull off, 3)) {t : Nat} (ht : ma_to pc off = some t) {q : Option Nat} (k1 : q = none → ma_wp X d w M t L r S Q) (k2 : ∀ c, q = some c → ma_wp X d w M (pc + 3) L r S Q) : ma_wp X d w M pc L (.inr (.inr q) :: r) S Q := by
  cases q with
  | none => exact zw_jmp hm hd rfl rfl rfl (by unfold ma_jmp; simp only [ht, Option.map_some]) (k1 rfl)
  | some c => exact zw_jmp hm hd rfl rfl rfl rfl (k2 c rfl)
theorem zw_ifnonnull (hm : ma_md M = some (o, y, cc, nL, ret)) {off : Int} (hd : decode cc pc = .ok (.ifnonnull off, 3)) {t : Nat} (ht : ma_to pc off = some t) {q : Option Nat} (k1 : q = none → ma_wp X d w M (pc + 3) L r S Q) (k2 : ∀ c, q = some c → ma_wp X d w M t L r S Q) : ma_wp X d w M pc L (.inr (.inr q) :: r) S Q := by
  cases q with
  | none => exact zw_jmp hm hd rfl rfl rfl rfl (k1 rfl)
  | some c => exact zw_jmp hm hd rfl rfl rfl (by unfold ma_jmp; simp only [ht, Option.map_some]) (k2 c rfl)
theorem zw_hp (hm : ma_md M = some (o, y, cc, nL, ret)) (hd : decode cc pc = .ok (i, n)) {st' : List ma_V} {S' : ma_S} (h0 : ma_push i n L = none) (h1 : ma_stk i n st = none) (h2 : ma_sto i n nL L st = none) (h3 : ma_jmp i n pc st = none) (h : ma_hp o (decide (y.name = "<init>")) i n st S = some (st', S')) (k : ma_wp X d w M (pc + n) L st' S' Q) : ma_wp X d w M pc L st S Q :=
  zw_one hm hd (by unfold ma_one; simp only [h0, h1, h2, h3, h]) k
/-- a field is read -/
theorem zw_gf (hm : ma_md M = some (o, y, cc, nL, ret)) {x : Nat} (hd : decode cc pc = .ok (.getfield x, 3)) {c t k : Nat} {v : ma_V} (hs : ma_is S c = true) (ht : (mH S c).1 = t) (h1 : (decide (1 ≤ t) && decide (t ≤ 12)) = true) (hf : ma_fld o x t = some k) (hv : ma_rd S c k (ma_ft t k) = v) (K : ma_wp X d w M (pc + 3) L (v :: r) S Q) : ma_wp X d w M pc L (.inr (.inr (some c)) :: r) S Q := by
  refine zw_hp hm hd rfl rfl rfl rfl ?_ K
  rw [Bool.and_eq_true] at h1
  unfold ma_hp
  simp only [hs, ht, h1.1, h1.2, Bool.and_self, if_true, hf, Option.map_some, hv]
/-- which fields a method that is no constructor may write -/
def ma_pk (o x t k : Nat) : Bool := match vwCl[t]? with
  | some (_, T, _) => decide (ma_fld o x t = some k) && !(T k).2.2.2 && decide (1 ≤ t) && decide (t ≤ 12)
  | none => false
theorem zw_pf (hm : ma_md M = some (o, y, cc, nL, ret)) {x : Nat} (hd : decode cc pc = .ok (.putfield x, 3)) {c t k : Nat} {v : ma_V} (hs : ma_is S c = true) (ht : (mH S c).1 = t) (hp : ma_pk o x t k = true) (hv : ma_ok (ma_ft t k) v = true) (K : ma_wp X d w M (pc + 3) L r (ma_put S c k v) Q) : ma_wp X d w M pc L (v :: .inr (.inr (some c)) :: r) S Q := by
  refine zw_hp hm hd rfl rfl rfl rfl ?_ K
  unfold ma_pk at hp
  split at hp
  · next C T N hc =>
    simp only [Bool.and_eq_true, decide_eq_true_eq, Bool.not_eq_true'] at hp
    unfold ma_hp
    simp only [hs, ht, hp.1.2, hp.2, decide_true, Bool.and_self, if_true, hp.1.1.1, hc, hp.1.1.2, hv, Bool.not_false, Bool.true_or]
  · cases hp
theorem zk_int {x : Int32} : ma_ok .int (.inl x) = true := by simp [ma_ok, narrow, fits]
theorem zk_bool {x : Int32} (h : x = 0 ∨ x = 1) : ma_ok .boolean (.inl x) = true := by
  rcases h with rfl | rfl <;> decide
/-- rows -/
theorem zw_ia (hm : ma_md M = some (o, y, cc, nL, ret)) (hd : decode cc pc = .ok (.iaload, 1)) {c N a : Nat} {j : Int32} (hs : ma_is S c = true) (ht : mH S c = (20, N)) (ha : j.toNatClampNeg = a) (hj : 0 ≤ j ∧ a < N) (K : ma_wp X d w M (pc + 1) L (.inl (mI S c a) :: r) S Q) : ma_wp X d w M pc L (.inl j :: .inr (.inr (some c)) :: r) S Q := by
  subst ha
  refine zw_hp hm hd rfl rfl rfl rfl ?_ K
  unfold ma_hp ma_ix
  simp only [hs, ht, hj.1, hj.2, decide_true, Bool.and_self, if_true]
theorem zw_ias (hm : ma_md M = some (o, y, cc, nL, ret)) (hd : decode cc pc = .ok (.iastore, 1)) {c N a : Nat} {j x : Int32} (hs : ma_is S c = true) (ht : mH S c = (20, N)) (ha : j.toNatClampNeg = a) (hj : 0 ≤ j ∧ a < N) (K : ma_wp X d w M (pc + 1) L r (ma_put S c a (.inl x)) Q) : ma_wp X d w M pc L (.inl x :: .inl j :: .inr (.inr (some c)) :: r) S Q := by
  subst ha
  refine zw_hp hm hd rfl rfl rfl rfl ?_ K
  unfold ma_hp ma_ix
  simp only [hs, ht, hj.1, hj.2, decide_true, Bool.and_self, if_true]
theorem zw_ba (hm : ma_md M = some (o, y, cc, nL, ret)) (hd : decode cc pc = .ok (.baload, 1)) {c N a t : Nat} {j : Int32} (hs : ma_is S c = true) (ht : mH S c = (t, N)) (h2 : (decide (t = 21) || decide (t = 22)) = true) (ha : j.toNatClampNeg = a) (hj : 0 ≤ j ∧ a < N) (K : ma_wp X d w M (pc + 1) L (.inl (mI S c a) :: r) S Q) : ma_wp X d w M pc L (.inl j :: .inr (.inr (some c)) :: r) S Q := by
  subst ha
  refine zw_hp hm hd rfl rfl rfl rfl ?_ K
  unfold ma_hp ma_ix
  simp only [hs, ht, h2, hj.1, hj.2, decide_true, Bool.and_self, if_true]
theorem zw_bas21 (hm : ma_md M = some (o, y, cc, nL, ret)) (hd : decode cc pc = .ok (.bastore, 1)) {c N a : Nat} {j x : Int32} (hs : ma_is S c = true) (ht : mH S c = (21, N)) (ha : j.toNatClampNeg = a) (hj : 0 ≤ j ∧ a < N) (K : ma_wp X d w M (pc + 1) L r (ma_put S c a (.inl (vp_nar .byte x))) Q) : ma_wp X d w M pc L (.inl x :: .inl j :: .inr (.inr (some c)) :: r) S Q := by
  subst ha
  refine zw_hp hm hd rfl rfl rfl rfl ?_ K
  unfold ma_hp ma_ix
  simp only [hs, ht, hj.1, hj.2, decide_true, Bool.and_self, if_true]
theorem zw_bas22 (hm : ma_md M = some (o, y, cc, nL, ret)) (hd : decode cc pc = .ok (.bastore, 1)) {c N a : Nat} {j x : Int32} (hs : ma_is S c = true) (ht : mH S c = (22, N)) (ha : j.toNatClampNeg = a) (hj : 0 ≤ j ∧ a < N) (K : ma_wp X d w M (pc + 1) L r (ma_put S c a (.inl (vp_nar .boolean x))) Q) : ma_wp X d w M pc L (.inl x :: .inl j :: .inr (.inr (some c)) :: r) S Q := by
  subst ha
  refine zw_hp hm hd rfl rfl rfl rfl ?_ K
  unfold ma_hp ma_ix
  simp only [hs, ht, hj.1, hj.2, decide_true, Bool.and_self, if_true, Nat.reduceEqDiff, if_false]
theorem zw_aa (hm : ma_md M = some (o, y, cc, nL, ret)) (hd : decode cc pc = .ok (.aaload, 1)) {c N a t : Nat} {j : Int32} {v : Option Nat} (hs : ma_is S c = true) (ht : mH S c = (t, N)) (h2 : (decide (t = 24) || decide (t = 25)) = true) (ha : j.toNatClampNeg = a) (hj : 0 ≤ j ∧ a < N) (hv : mR S c a = v) (K : ma_wp X d w M (pc + 1) L (.inr (.inr v) :: r) S Q) : ma_wp X d w M pc L (.inl j :: .inr (.inr (some c)) :: r) S Q := by
  subst ha
  subst hv
  refine zw_hp hm hd rfl rfl rfl rfl ?_ K
  unfold ma_hp ma_ix
  simp only [hs, ht, h2, hj.1, hj.2, decide_true, Bool.and_self, if_true]
theorem zw_len (hm : ma_md M = some (o, y, cc, nL, ret)) (hd : decode cc pc = .ok (.arraylength, 1)) {c N t : Nat} {v : Int32} (hs : ma_is S c = true) (ht : mH S c = (t, N)) (h2 : (decide (20 ≤ t) && decide (t ≤ 25)) = true) (hv : Int32.ofNat N = v) (K : ma_wp X d w M (pc + 1) L (.inl v :: r) S Q) : ma_wp X d w M pc L (.inr (.inr (some c)) :: r) S Q := by
  subst hv
  refine zw_hp hm hd rfl rfl rfl rfl ?_ K
  rw [Bool.and_eq_true] at h2
  unfold ma_hp
  simp only [hs, ht, h2.1, h2.2, Bool.and_self, if_true]
/-- answers -/
theorem zw_ret (hm : ma_md M = some (o, y, cc, nL, ret)) (hd : decode cc pc = .ok (i, n)) (h1 : ma_one X o (decide (y.name = "<init>")) nL d w i n pc L st S = none) {v : Option ma_V} (h : ma_ret ret i n st = some v) (k : Q (.inl v) S) : ma_wp X d w M pc L st S Q := by
  refine ⟨1, .inl v, S, ?_, k⟩
  rw [ma_run_s]
  simp only [ma_body, hm, hd, h1, h]
theorem zw_iret (hm : ma_md M = some (o, y, cc, nL, some .int)) (hd : decode cc pc = .ok (.ireturn, 1)) {x : Int32} (k : Q (.inl (some (.inl x))) S) : ma_wp X d w M pc L [.inl x] S Q := by
  refine zw_ret (v := some (.inl x)) hm hd ?_ (by unfold ma_ret; simp [narrow]) k
  unfold ma_one
  rfl
theorem zw_bret (hm : ma_md M = some (o, y, cc, nL, some .boolean)) (hd : decode cc pc = .ok (.ireturn, 1)) {x : Int32} (hx : x = 0 ∨ x = 1) (k : Q (.inl (some (.inl x))) S) : ma_wp X d w M pc L [.inl x] S Q := by
  refine zw_ret (v := some (.inl x)) hm hd ?_ (by unfold ma_ret; rcases hx with rfl | rfl <;> simp [narrow]) k
  unfold ma_one
  rfl
theorem zw_aret {C : String} (hm : ma_md M = some (o, y, cc, nL, some (.object C))) (hd : decode cc pc = .ok (.areturn, 1)) {x : Option Nat} (k : Q (.inl (some (.inr (.inr x)))) S) : ma_wp X d w M pc L [.inr (.inr x)] S Q := by
  refine zw_ret hm hd ?_ rfl k
  unfold ma_one
  rfl
theorem zw_vret (hm : ma_md M = some (o, y, cc, nL, none)) (hd : decode cc pc = .ok (.return_, 1)) (k : Q (.inl none) S) : ma_wp X d w M pc L [] S Q := by
  refine zw_ret hm hd ?_ rfl k
  unfold ma_one
  rfl
/-- new E; dup; its constructor; athrow -/
theorem zw_thr (hm : ma_md M = some (o, y, cc, nL, ret)) {ik ic x : Nat} (d0 : decode cc pc = .ok (.new ik, 3)) (d3 : decode cc (pc + 3) = .ok (.dup, 1)) (d4 : decode cc (pc + 4) = .ok (.invokespecial ic, 3)) (d7 : decode cc (pc + 7) = .ok (.athrow, 1)) (hx : ma_xt o ik ic = some x) (hn : ma_nwt o ik = none) (h6 : 6 ≤ d) (hw : ma_sz st + 81 ≤ w) (k : Q (.inr x) (ma_bump S)) : ma_wp X d w M pc L st S Q := by
  have h1 : ma_one X o (decide (y.name = "<init>")) nL d w (.new ik) 3 pc L st S = none := by
    unfold ma_one
    simp only [ma_push, ma_stk, ma_sto, ma_jmp, ma_hp, ma_sc, ma_ex, ma_al, hn, Option.map_none, ma_pr, ma_tx]
  have h2 : ma_thr o cc pc = some x := by
    unfold ma_thr
    rw [d0, d3, d4, d7]
    exact hx
  refine ⟨1, .inr (x, pc), ma_bump S, ?_, k⟩
  rw [ma_run_s]
  have h3 : ma_ret ret (.new ik) 3 st = none := rfl
  simp only [ma_body, hm, d0, h1, h2, h3]
  rw [if_pos ⟨h6, hw⟩]
/-- a call -/
theorem zw_call (hm : ma_md M = some (o, y, cc, nL, ret)) (hd : decode cc pc = .ok (i, n)) (h1 : ma_one X o (decide (y.name = "<init>")) nL d w i n pc L st S = none) (h2 : ma_ret ret i n st = none) (h3 : ma_thr o cc pc = none) {k M' : Nat} {as rest : List ma_V} (h4 : ma_cl o i n st S = some ((k, M'), as, rest)) {o' nL' : Nat} {y' : MethodName} {cc' : ByteArray} {ret' : Option FieldType} (hm' : ma_md M' = some (o', y', cc', nL', ret')) (hr : 1 ≤ d ∧ 19 + nL' ≤ w ∧ ma_sz as ≤ nL' ∧ ma_sz rest ≤ 8)
    (hk : ma_wp X (d - 1) (w - (19 + nL')) M' 0 (ma_args 0 as) [] S (fun z S' => match z with
      | .inl v => ma_wp X d w M (pc + 3) L (v.toList ++ rest) S' Q
      | .inr x => k ≤ 1 ∧ Q (.inr x) S')) : ma_wp X d w M pc L st S Q := by
  obtain ⟨f, z, S1, e1, e2⟩ := hk
  rcases z with v | ⟨x, px⟩
  · obtain ⟨g, z2, S2, e3, e4⟩ := (e2 : ma_wp X d w M (pc + 3) L (v.toList ++ rest) S1 Q)
    refine ⟨max f g + 1, z2, S2, ?_, e4⟩
    rw [ma_run_s]
    simp only [ma_body, hm, hd, h1, h2, h3, h4, hm']
    rw [if_pos hr, ma_run_le (Nat.le_max_left f g) e1]
    exact ma_run_le (Nat.le_max_right f g) e3
  · obtain ⟨e5, e6⟩ := (e2 : k ≤ 1 ∧ Q (.inr x) S1)
    refine ⟨f + 1, .inr (x, pc), S1, ?_, e6⟩
    rw [ma_run_s]
    simp only [ma_body, hm, hd, h1, h2, h3, h4, hm']
    rw [if_pos hr, e1]
    simp only [if_pos e5]
/-- what a call of that pool entry on an object of that kind is: kind of call, method, number of arguments -/
def ma_vl (o x t : Nat) : Option (Nat × Nat × Nat) := match ma_fd o x 0 true 0 4, ma_fd o x t false 0 4 with
  | some q0, some q => if q.2.1.2.2 = q0.2.1.2.2 then some q.2.1 else none
  | _, _ => none
theorem ma_vl_cl {x t k M' m b : Nat} {asr rest : List ma_V} (hv : ma_vl o x t = some (k, M', m)) (hl : asr.length = m) (hrt : ma_rt S b = some t) : ma_cl o (.invokevirtual x) 3 (asr ++ .inr (.inr (some b)) :: rest) S = some ((k, M'), .inr (.inr (some b)) :: asr.reverse, rest) := by
  unfold ma_vl at hv
  split at hv
  · next q0 q h0 hq =>
    split at hv
    · next he =>
      have hq2 : q.2.1 = (k, M', m) := Option.some.inj hv
      have e1 : q.2.1.2.2 = m := by rw [hq2]
      have e0 : q0.2.1.2.2 = asr.length := by rw [hl, ← e1, he]
      unfold ma_cl
      simp only [h0, e0, List.drop_left, hrt, hq, List.take_left]
      rw [if_pos (by rw [e1, hl]), hq2]
    · cases hv
  · cases hv
theorem zw_cv (hm : ma_md M = some (o, y, cc, nL, ret)) {x t k M' m b nL' o' : Nat} {y' : MethodName} {cc' : ByteArray} {ret' : Option FieldType} (hd : decode cc pc = .ok (.invokevirtual x, 3)) (hv : ma_vl o x t = some (k, M', m)) (hm' : ma_md M' = some (o', y', cc', nL', ret')) (asr rest : List ma_V) (hl : asr.length = m) (hrt : ma_rt S b = some t) (hr : 1 ≤ d ∧ 19 + nL' ≤ w) (hz : (decide (ma_sz (.inr (.inr (some b)) :: asr.reverse) ≤ nL') && decide (ma_sz rest ≤ 8)) = true)
    (hk : ma_wp X (d - 1) (w - (19 + nL')) M' 0 (ma_args 0 (.inr (.inr (some b)) :: asr.reverse)) [] S (fun z S' => match z with
      | .inl v => ma_wp X d w M (pc + 3) L (v.toList ++ rest) S' Q
      | .inr x => k ≤ 1 ∧ Q (.inr x) S')) : ma_wp X d w M pc L (asr ++ .inr (.inr (some b)) :: rest) S Q := by
  rw [Bool.and_eq_true, decide_eq_true_eq, decide_eq_true_eq] at hz
  refine zw_call hm hd ?_ ?_ (ma_thr_no hd (fun _ h => by cases h)) (ma_vl_cl hv hl hrt) hm' ⟨hr.1, hr.2, hz.1, hz.2⟩ hk
  · unfold ma_one
    rfl
  · rfl
/-- static calls -/
def ma_sl (o x : Nat) : Option (Nat × Nat × Nat) := match ma_fd o x 0 true 5 8 with
  | some q => if q.2.1.1 ≠ 6 ∧ q.2.1.1 ≠ 7 then some q.2.1 else none
  | none => none
theorem ma_sl_cl {x k M' m : Nat} {asr rest : List ma_V} (hv : ma_sl o x = some (k, M', m)) (hl : asr.length = m) : ma_cl o (.invokestatic x) 3 (asr ++ rest) S = some ((k, M'), asr.reverse, rest) := by
  unfold ma_sl at hv
  split at hv
  · next q hq =>
    split at hv
    · next he =>
      have hq2 : q.2.1 = (k, M', m) := Option.some.inj hv
      have e1 : q.2.1.2.2 = asr.length := by rw [hq2, hl]
      unfold ma_cl
      simp only [hq, e1, List.drop_left, List.take_left]
      rw [if_pos ⟨he.1, he.2, by rw [List.length_append]; omega⟩, hq2]
    · cases hv
  · cases hv
theorem ma_pr_st {x : Nat} (h : ma_prt o x = none) : ma_pr o d w (.invokestatic x) 3 st S = none := by
  unfold ma_pr
  split
  · next h0 _ => cases h0
  · next e _ => cases e; simp [h]
  · next e _ => cases e; simp [h]
  · rfl
theorem zw_cs (hm : ma_md M = some (o, y, cc, nL, ret)) {x k M' m nL' o' : Nat} {y' : MethodName} {cc' : ByteArray} {ret' : Option FieldType} (hd : decode cc pc = .ok (.invokestatic x, 3)) (hpr : ma_prt o x = none) (hv : ma_sl o x = some (k, M', m)) (hm' : ma_md M' = some (o', y', cc', nL', ret')) (asr rest : List ma_V) (hl : asr.length = m) (hr : 1 ≤ d ∧ 19 + nL' ≤ w) (hz : (decide (ma_sz asr.reverse ≤ nL') && decide (ma_sz rest ≤ 8)) = true)
    (hk : ma_wp X (d - 1) (w - (19 + nL')) M' 0 (ma_args 0 asr.reverse) [] S (fun z S' => match z with
      | .inl v => ma_wp X d w M (pc + 3) L (v.toList ++ rest) S' Q
      | .inr x => k ≤ 1 ∧ Q (.inr x) S')) : ma_wp X d w M pc L (asr ++ rest) S Q := by
  rw [Bool.and_eq_true, decide_eq_true_eq, decide_eq_true_eq] at hz
  refine zw_call hm hd ?_ ?_ (ma_thr_no hd (fun _ h => by cases h)) (ma_sl_cl hv hl) hm' ⟨hr.1, hr.2, hz.1, hz.2⟩ hk
  · unfold ma_one
    rw [ma_pr_st hpr]
    rfl
  · rfl
end ZW1
end
section
/-! Runs know of the locals only what they read: more locals do no harm -/
def ma_nd (L : ma_L) : Prop := (L.map (·.1)).Nodup
def ma_le (L L' : ma_L) : Prop := ∀ k v, ma_get L k = some v → ma_get L' k = some v
theorem ma_le_nil (L : ma_L) : ma_le [] L := fun k v h => by cases h
theorem ma_le_cons {L T : ma_L} {k : Nat} {v : ma_V} (h : ma_get L k = some v) (t : ma_le T L) : ma_le ((k, v) :: T) L := by
  intro j u hj
  unfold ma_get at hj
  by_cases e : k = j
  · rw [List.find?_cons_of_pos (by simpa using e)] at hj
    rw [← Option.some.inj hj, ← e]
    exact h
  · rw [List.find?_cons_of_neg (by simpa using e)] at hj
    exact t j u hj
theorem ma_find_filter (p : Nat × ma_V → Bool) (k : Nat) : ∀ L : ma_L, ma_nd L → (L.filter p).find? (fun q => q.1 == k) = (L.find? (fun q => q.1 == k)).filter p := by
  intro L
  induction L with
  | nil => intro _; rfl
  | cons q T ih =>
    intro hn
    have hn' : q.1 ∉ T.map (·.1) ∧ (T.map (·.1)).Nodup := List.nodup_cons.mp hn
    by_cases hq : q.1 = k
    · have hq' : (q.1 == k) = true := by simpa using hq
      rw [List.find?_cons_of_pos (p := fun q : Nat × ma_V => q.1 == k) hq']
      cases hp : p q with
      | true =>
        rw [List.filter_cons_of_pos hp, List.find?_cons_of_pos (p := fun q : Nat × ma_V => q.1 == k) hq']
        simp [Option.filter, hp]
      | false =>
        rw [List.filter_cons_of_neg (by simp [hp])]
        simp only [Option.filter, hp]
        refine List.find?_eq_none.mpr ?_
        intro z hz hk
        have hz1 : z ∈ T := (List.mem_filter.mp hz).1
        have hk1 : z.1 = k := by simpa using hk
        exact hn'.1 (by rw [hq, ← hk1]; exact List.mem_map.mpr ⟨z, hz1, rfl⟩)
    · have hq' : ¬ (q.1 == k) = true := by simpa using hq
      rw [List.find?_cons_of_neg (p := fun q : Nat × ma_V => q.1 == k) hq']
      cases hp : p q with
      | true => rw [List.filter_cons_of_pos hp, List.find?_cons_of_neg (p := fun q : Nat × ma_V => q.1 == k) hq']; exact ih hn'.2
      | false => rw [List.filter_cons_of_neg (by simp [hp])]; exact ih hn'.2
theorem ma_find_key {L : ma_L} {k : Nat} {q : Nat × ma_V} (h : L.find? (fun q => q.1 == k) = some q) : q.1 = k := by
  have := List.find?_some h
  simpa using this
theorem ma_get_st {L : ma_L} (hn : ma_nd L) {i k : Nat} {u v : ma_V} (hk : k ≠ i) : ma_get (ma_st L i v) k = some u ↔ (ma_get L k = some u ∧ ¬ (k + 1 = i ∧ ma_2 u = true)) := by
  unfold ma_st
  unfold ma_get
  rw [List.find?_cons_of_neg (by simp; exact fun z => hk z.symm), ma_find_filter _ _ _ hn]
  cases hf : L.find? (fun q => q.1 == k) with
  | none => simp [Option.filter]
  | some q =>
    have e := ma_find_key hf
    simp only [Option.filter, Option.map_some, Option.some.injEq]
    by_cases hp : (!(q.1 == i) && !(q.1 + 1 == i && ma_2 q.2)) = true
    · rw [if_pos hp]
      simp only [Option.map_some, Option.some.injEq]
      constructor
      · intro h
        refine ⟨h, fun z => ?_⟩
        rw [e, h] at hp
        simp [z.1, z.2] at hp
      · intro h; exact h.1
    · rw [if_neg hp]
      constructor
      · intro h; cases h
      · intro h
        refine absurd ?_ hp
        rw [e, h.1]
        have h1 : (k == i) = false := by simpa using hk
        rw [h1]
        cases hm : ma_2 u with
        | false => simp
        | true =>
          have : (k + 1 == i) = false := by
            simp only [beq_eq_false_iff_ne]
            exact fun z => h.2 ⟨z, hm⟩
          simp [this]
theorem ma_nd_st {L : ma_L} (hn : ma_nd L) (i : Nat) (v : ma_V) : ma_nd (ma_st L i v) := by
  unfold ma_nd ma_st
  rw [List.map_cons, List.nodup_cons]
  refine ⟨?_, ?_⟩
  · intro h
    obtain ⟨q, h1, h2⟩ := List.mem_map.mp h
    have h3 := (List.mem_filter.mp h1).2
    have h4 : q.1 = i := h2
    simp [h4] at h3
  · exact List.Nodup.sublist (List.Sublist.map _ List.filter_sublist) hn
theorem ma_le_st {L L' : ma_L} (hn : ma_nd L) (hn' : ma_nd L') (h : ma_le L L') (i : Nat) (v : ma_V) : ma_le (ma_st L i v) (ma_st L' i v) := by
  intro k u hk
  by_cases e : k = i
  · subst e
    rw [ma_get_self] at hk ⊢
    exact hk
  · rw [ma_get_st hn e] at hk
    rw [ma_get_st hn' e]
    exact ⟨h k u hk.1, hk.2⟩
section ZL1
variable {X : Nat × (Nat → Int32)} {d w M pc : Nat} {L L' L1 : ma_L} {st st1 : List ma_V} {S S1 : ma_S} {o nL : Nat} {ini : Bool} {i : Instr} {n : Nat}
theorem ma_push_le (hle : ma_le L L') {v : ma_V} (h : ma_push i n L = some v) : ma_push i n L' = some v := by
  unfold ma_push at h ⊢
  split at h
  · exact h
  · exact h
  · exact h
  · exact h
  · exact h
  · split at h
    · next hg => simp only [hle _ _ hg]; exact h
    · cases h
  · split at h
    · next hg => simp only [hle _ _ hg]; exact h
    · cases h
  · split at h
    · next hg => simp only [hle _ _ hg]; exact h
    · cases h
  · split at h
    · next hg => simp only [hle _ _ hg]; exact h
    · cases h
  · split at h
    · next hg => simp only [hle _ _ hg]; exact h
    · cases h
  · split at h
    · next hg => simp only [hle _ _ hg]; exact h
    · cases h
  · cases h
theorem ma_sto_le (hn : ma_nd L) (hn' : ma_nd L') (hle : ma_le L L') (h : ma_sto i n nL L st = some (L1, st1)) : ∃ L2, ma_sto i n nL L' st = some (L2, st1) ∧ ma_le L1 L2 ∧ ma_nd L1 ∧ ma_nd L2 := by
  unfold ma_sto at h ⊢
  split at h
  · split at h
    · next hk => cases h; exact ⟨_, if_pos hk, ma_le_st hn hn' hle _ _, ma_nd_st hn _ _, ma_nd_st hn' _ _⟩
    · cases h
  · split at h
    · next hk => cases h; exact ⟨_, if_pos hk, ma_le_st hn hn' hle _ _, ma_nd_st hn _ _, ma_nd_st hn' _ _⟩
    · cases h
  · split at h
    · next hk => cases h; exact ⟨_, if_pos hk, ma_le_st hn hn' hle _ _, ma_nd_st hn _ _, ma_nd_st hn' _ _⟩
    · cases h
  · split at h
    · next hk => cases h; exact ⟨_, if_pos hk, ma_le_st hn hn' hle _ _, ma_nd_st hn _ _, ma_nd_st hn' _ _⟩
    · cases h
  · split at h
    · next hg =>
      split at h
      · next hk => cases h; exact ⟨_, by simp only [hle _ _ hg, if_pos hk], ma_le_st hn hn' hle _ _, ma_nd_st hn _ _, ma_nd_st hn' _ _⟩
      · cases h
    · cases h
  · cases h
/-- the families that know nothing of the locals -/
def ma_rest (X : Nat × (Nat → Int32)) (o : Nat) (ini : Bool) (d w : Nat) (i : Instr) (n pc : Nat) (st : List ma_V) (S : ma_S) : Option (Nat × List ma_V × ma_S) :=
  match ma_jmp i n pc st with
  | some (t, st') => some (t, st', S)
  | none => match ma_hp o ini i n st S with
    | some (st', S') => some (pc + n, st', S')
    | none => match ma_sc X i n st with
      | some st' => some (pc + n, st', S)
      | none => match ma_ex o i n st S with
        | some (st', S') => some (pc + n, st', S')
        | none => match ma_al o i n st S with
          | some (st', S') => some (pc + n, st', S')
          | none => match ma_pr o d w i n st S with
            | some (st', S') => some (pc + n, st', S')
            | none => match ma_tx X o i n st with
              | some st' => some (pc + n, st', S)
              | none => none
theorem ma_one_eq : ma_one X o ini nL d w i n pc L st S = (match ma_push i n L with
    | some v => some (pc + n, L, v :: st, S)
    | none => match ma_stk i n st with
      | some st' => some (pc + n, L, st', S)
      | none => match ma_sto i n nL L st with
        | some (L', st') => some (pc + n, L', st', S)
        | none => (ma_rest X o ini d w i n pc st S).map (fun z => (z.1, L, z.2.1, z.2.2))) := by
  unfold ma_one ma_rest
  cases ma_push i n L with
  | some z => rfl
  | none =>
    cases ma_stk i n st with
    | some z => rfl
    | none =>
      cases ma_sto i n nL L st with
      | some z => rfl
      | none =>
        cases ma_jmp i n pc st with
        | some z => rfl
        | none =>
          cases ma_hp o ini i n st S with
          | some z => rfl
          | none =>
            cases ma_sc X i n st with
            | some z => rfl
            | none =>
              cases ma_ex o i n st S with
              | some z => rfl
              | none =>
                cases ma_al o i n st S with
                | some z => rfl
                | none =>
                  cases ma_pr o d w i n st S with
                  | some z => rfl
                  | none =>
                    cases ma_tx X o i n st with
                    | some z => rfl
                    | none =>
                      rfl
/-- what reads a local does nothing else -/
theorem ma_load_only {v : ma_V} (h : ma_push i n L = none) (h' : ma_push i n L' = some v) (ret : Option FieldType) : ma_stk i n st = none ∧ ma_sto i n nL L st = none ∧ ma_rest X o ini d w i n pc st S = none ∧ ma_ret ret i n st = none ∧ ma_cl o i n st S = none ∧ ∀ ik, i ≠ .new ik ∧ i ≠ .invokestatic ik := by
  unfold ma_push at h'
  split at h'
  · cases h
  · cases h
  · cases h
  · cases h
  · cases h
  all_goals first | (cases h'; done) | exact ⟨rfl, rfl, rfl, rfl, rfl, fun ik => ⟨fun h => (by cases h), fun h => (by cases h)⟩⟩
theorem ma_inc_only {z : ma_L × List ma_V} (h : ma_sto i n nL L st = none) (h' : ma_sto i n nL L' st = some z) (ret : Option FieldType) : ma_rest X o ini d w i n pc st S = none ∧ ma_ret ret i n st = none ∧ ma_cl o i n st S = none ∧ ∀ ik, i ≠ .new ik ∧ i ≠ .invokestatic ik := by
  unfold ma_sto at h'
  split at h'
  all_goals first | (cases h'; done) | exact ⟨rfl, rfl, rfl, fun ik => ⟨fun h => (by cases h), fun h => (by cases h)⟩⟩
theorem ma_one_le (hn : ma_nd L) (hn' : ma_nd L') (hle : ma_le L L') {pc1 : Nat} (h : ma_one X o ini nL d w i n pc L st S = some (pc1, L1, st1, S1)) : ∃ L2, ma_one X o ini nL d w i n pc L' st S = some (pc1, L2, st1, S1) ∧ ma_le L1 L2 ∧ ma_nd L1 ∧ ma_nd L2 := by
  rw [ma_one_eq] at h ⊢
  split at h
  · next v hv =>
    cases h
    rw [ma_push_le hle hv]
    exact ⟨L', rfl, hle, hn, hn'⟩
  · next hp =>
    cases hp' : ma_push i n L' with
    | some v' =>
      obtain ⟨a1, a2, a3, -⟩ := ma_load_only (X := X) (d := d) (w := w) (pc := pc) (st := st) (S := S) (o := o) (nL := nL) (ini := ini) hp hp' none
      rw [a1, a2, a3] at h
      cases h
    | none =>
      simp only
      split at h
      · next hs => cases h; exact ⟨L', rfl, hle, hn, hn'⟩
      · split at h
        · next hs =>
          cases h
          obtain ⟨L2, b1, b2, b3, b4⟩ := ma_sto_le hn hn' hle hs
          rw [b1]
          exact ⟨L2, rfl, b2, b3, b4⟩
        · next hs =>
          cases hs' : ma_sto i n nL L' st with
          | some z =>
            obtain ⟨a1, -⟩ := ma_inc_only (X := X) (d := d) (w := w) (pc := pc) (S := S) (o := o) (ini := ini) hs hs' none
            rw [a1] at h
            cases h
          | none =>
            cases hr : ma_rest X o ini d w i n pc st S with
            | none => rw [hr] at h; cases h
            | some z => rw [hr] at h; cases h; exact ⟨L', rfl, hle, hn, hn'⟩
theorem ma_one_no (hle : ma_le L L') (h : ma_one X o ini nL d w i n pc L st S = none) (ret : Option FieldType) : ma_one X o ini nL d w i n pc L' st S = none ∨ (ma_ret ret i n st = none ∧ ma_cl o i n st S = none ∧ ∀ ik, i ≠ .new ik ∧ i ≠ .invokestatic ik) := by
  rw [ma_one_eq] at h ⊢
  split at h
  · cases h
  · next hp =>
    cases hp' : ma_push i n L' with
    | some v' =>
      obtain ⟨-, -, -, a4, a5, a6⟩ := ma_load_only (X := X) (d := d) (w := w) (pc := pc) (st := st) (S := S) (o := o) (nL := nL) (ini := ini) hp hp' ret
      exact Or.inr ⟨a4, a5, a6⟩
    | none =>
      simp only
      split at h
      · cases h
      · split at h
        · cases h
        · next hs =>
          cases hs' : ma_sto i n nL L' st with
          | some z =>
            obtain ⟨-, a4, a5, a6⟩ := ma_inc_only (X := X) (d := d) (w := w) (pc := pc) (S := S) (o := o) (ini := ini) hs hs' ret
            exact Or.inr ⟨a4, a5, a6⟩
          | none =>
            cases hr : ma_rest X o ini d w i n pc st S with
            | none => exact Or.inl rfl
            | some z => rw [hr] at h; cases h
end ZL1
theorem ma_run_sub {X : Nat × (Nat → Int32)} : ∀ (f d w M pc : Nat) (L L' : ma_L) (st : List ma_V) (S : ma_S) (r : ma_R), ma_nd L → ma_nd L' → ma_le L L' → ma_run X f d w M pc L st S = some r → ma_run X f d w M pc L' st S = some r := by
  intro f
  induction f with
  | zero => intro d w M pc L L' st S r _ _ _ h; cases h
  | succ f ih =>
    intro d w M pc L L' st S r hn hn' hle h
    rw [ma_run_s] at h ⊢
    unfold ma_body at h ⊢
    split at h
    · cases h
    · next o y cc nL ret hmd =>
      split at h
      · cases h
      · next i n hd =>
        split at h
        · next pc1 L1 st1 S1 h1 =>
          obtain ⟨L2, b1, b2, b3, b4⟩ := ma_one_le hn hn' hle h1
          simp only [b1]
          exact ih _ _ _ _ _ _ _ _ _ b3 b4 b2 h
        · next h1 =>
          rcases ma_one_no hle h1 ret with b1 | ⟨a4, a5, a6⟩
          · simp only [b1]
            split at h
            · exact h
            · split at h
              · exact h
              · split at h
                · cases h
                · split at h
                  · cases h
                  · split at h
                    · next hroom =>
                      rw [if_pos hroom]
                      split at h
                      · next v2 S2 hr =>
                        skip
                        exact ih _ _ _ _ _ _ _ _ _ hn hn' hle h
                      · next x2 px S2 hr =>
                        skip
                        exact h
                      · cases h
                    · cases h
          · rw [a4, ma_thr_no hd (fun ik => (a6 ik).1), a5] at h
            cases h
theorem zw_sub {X : Nat × (Nat → Int32)} {d w M pc : Nat} {L L' : ma_L} {st : List ma_V} {S : ma_S} {Q : Option ma_V ⊕ Nat → ma_S → Prop} (hn : ma_nd L) (hn' : ma_nd L') (hle : ma_le L L') (h : ma_wp X d w M pc L st S Q) : ma_wp X d w M pc L' st S Q := by
  obtain ⟨f, z, S', h1, h2⟩ := h
  exact ⟨f, z, S', ma_run_sub _ _ _ _ _ _ _ _ _ _ hn hn' hle h1, h2⟩
end
section
/-! THE HOUSE: the cells that stand behind the constructors, by number; and the law's frames, reasoned of backwards -/
def zshp : List (Nat × Nat) := [(11, 12), (21, 100), (20, 4), (20, 16), (20, 16), (7, 13), (24, 512), (20, 4500), (20, 16), (20, 16), (20, 512), (10, 6), (20, 512), (20, 512), (25, 7), (8, 5), (5, 4), (3, 5), (1, 10), (20, 375), (2, 8), (24, 512), (20, 512), (6, 9), (10, 6), (20, 512), (20, 512), (4, 9), (20, 93), (20, 93), (12, 85), (21, 100), (21, 100), (20, 16), (20, 16), (22, 3100), (20, 3100), (20, 3100), (20, 3100), (20, 3100), (20, 3100), (20, 3100), (20, 3100), (20, 3100), (20, 186000), (22, 3100), (22, 3100), (20, 4600), (20, 16), (20, 16), (20, 3100), (20, 3100), (20, 128), (22, 512), (20, 3100), (20, 3100), (20, 3100), (20, 3100), (20, 128), (22, 128), (22, 128), (23, 1)]
def zs (c : Nat) : Option (Nat × Nat) := if 64 ≤ c then zshp[c - 64]? else none
def zfl : List (Nat × Nat × Nat) := [(64, 0, 65), (64, 4, 66), (64, 5, 67), (64, 6, 68), (64, 8, 69), (64, 9, 75), (64, 10, 78), (69, 0, 70), (69, 1, 71), (69, 2, 72), (69, 3, 73), (69, 4, 74), (75, 0, 69), (75, 1, 76), (75, 2, 77), (78, 0, 79), (78, 1, 80), (78, 2, 81), (78, 3, 82), (78, 4, 84), (78, 5, 87), (78, 6, 91), (79, 0, 69), (79, 1, 75), (80, 0, 69), (80, 1, 75), (81, 0, 69), (81, 1, 75), (82, 0, 69), (82, 1, 75), (82, 9, 83), (84, 3, 69), (84, 4, 75), (84, 5, 85), (84, 6, 86), (87, 3, 69), (87, 4, 75), (87, 5, 88), (88, 0, 69), (88, 1, 89), (88, 2, 90), (91, 0, 69), (91, 1, 75), (91, 7, 92), (91, 8, 93), (94, 1, 95), (94, 2, 96), (94, 5, 97), (94, 6, 98), (94, 31, 99), (94, 32, 100), (94, 33, 101), (94, 34, 102), (94, 35, 103), (94, 36, 104), (94, 37, 105), (94, 38, 106), (94, 39, 107), (94, 40, 108), (94, 41, 109), (94, 42, 110), (94, 43, 111), (94, 51, 112), (94, 52, 113), (94, 53, 114), (94, 54, 115), (94, 65, 116), (94, 66, 117), (94, 72, 118), (94, 74, 119), (94, 78, 120), (94, 79, 121), (94, 81, 122), (94, 82, 123), (94, 83, 124)]
def zfi (c k : Nat) : Option Nat := (zfl.find? (fun q => q.1 == c && q.2.1 == k)).map (fun q => q.2.2)
/-- all of them are there, of their kinds and lengths, and the fields that never change have what they had -/
def zO (S : ma_S) : Prop := (∀ c t n, zs c = some (t, n) → ma_is S c = true ∧ mH S c = (t, n)) ∧ ∀ c k r, zfi c k = some r → mR S c k = some r
section ZO1
variable {S : ma_S} {c k r t n : Nat}
theorem zO_is (h : zO S) (e : zs c = some (t, n)) : ma_is S c = true := (h.1 _ _ _ e).1
theorem zO_h (h : zO S) (e : zs c = some (t, n)) : mH S c = (t, n) := (h.1 _ _ _ e).2
theorem zO_t (h : zO S) (e : zs c = some (t, n)) : (mH S c).1 = t := by rw [(h.1 _ _ _ e).2]
theorem zO_rt (h : zO S) (e : zs c = some (t, n)) (ht : (decide (1 ≤ t) && decide (t ≤ 12)) = true) : ma_rt S c = some t := by
  have h1 := zO_is h e
  have h2 := zO_t h e
  rw [Bool.and_eq_true] at ht
  unfold ma_rt
  have h64 : ¬ c < 19 := by
    unfold ma_is at h1
    rw [Bool.and_eq_true, decide_eq_true_eq] at h1
    omega
  rw [if_neg h64]
  simp only [h1, h2, ht.1, ht.2, Bool.and_self, if_true]
theorem zO_f (h : zO S) (e : zfi c k = some r) : (Sum.inr (Sum.inr (mR S c k)) : ma_V) = .inr (.inr (some r)) := by rw [h.2 _ _ _ e]
theorem zO_pi (h : zO S) {x : Int32} : zO (ma_put S c k (.inl x)) := h
theorem zO_pl (h : zO S) {x : Int64} : zO (ma_put S c k (.inr (.inl x))) := h
theorem zO_pr (h : zO S) {q : Option Nat} (e : zfi c k = none) : zO (ma_put S c k (.inr (.inr q))) := by
  refine ⟨h.1, fun c' k' r' e' => ?_⟩
  show ma_u (mR S) c k q c' k' = some r'
  unfold ma_u
  rw [if_neg (fun z => by rw [z.1, z.2, e] at e'; cases e')]
  exact h.2 _ _ _ e'
theorem zO_b (h : zO S) : zO (ma_bump S) := h
end ZO1
theorem zc0_lt {x : Int32} : ma_c0 .lt x = true ↔ x < 0 := decide_eq_true_iff
theorem zc0_ge {x : Int32} : ma_c0 .ge x = true ↔ 0 ≤ x := decide_eq_true_iff
theorem zc0_eq {x : Int32} : ma_c0 .eq x = true ↔ x = 0 := decide_eq_true_iff
theorem zc0_ne {x : Int32} : ma_c0 .ne x = true ↔ ¬ x = 0 := decide_eq_true_iff
theorem zc0_gt {x : Int32} : ma_c0 .gt x = true ↔ 0 < x := decide_eq_true_iff
theorem zc0_le {x : Int32} : ma_c0 .le x = true ↔ x ≤ 0 := decide_eq_true_iff
theorem zc2_lt {x z : Int32} : ma_c2 .lt x z = true ↔ x < z := decide_eq_true_iff
theorem zc2_ge {x z : Int32} : ma_c2 .ge x z = true ↔ z ≤ x := decide_eq_true_iff
theorem zc2_eq {x z : Int32} : ma_c2 .eq x z = true ↔ x = z := decide_eq_true_iff
theorem zc2_ne {x z : Int32} : ma_c2 .ne x z = true ↔ ¬ x = z := decide_eq_true_iff
theorem zc2_gt {x z : Int32} : ma_c2 .gt x z = true ↔ z < x := decide_eq_true_iff
theorem zc2_le {x z : Int32} : ma_c2 .le x z = true ↔ x ≤ z := decide_eq_true_iff
theorem ma_nd_of {L : ma_L} {ks : List Nat} (h : L.map (·.1) = ks) (hk : ks.Nodup) : ma_nd L := by
  unfold ma_nd; rw [h]; exact hk
theorem zi_go {K : Int32 → ma_S → Prop} {E : Nat → ma_S → Prop} {G : Option ma_V ⊕ Nat → ma_S → Prop} (h1 : ∀ v S, K v S → G (.inl (some (.inl v))) S) (h2 : ∀ x S, E x S → G (.inr x) S) : ∀ z S, zi K E z S → G z S := by
  intro z S h
  rcases z with v | x
  · rcases v with _ | v
    · exact h.elim
    · rcases v with v | v
      · exact h1 _ _ h
      · rcases v with v | v <;> exact h.elim
  · exact h2 _ _ h
theorem zo_go {K : Option Nat → ma_S → Prop} {E : Nat → ma_S → Prop} {G : Option ma_V ⊕ Nat → ma_S → Prop} (h1 : ∀ v S, K v S → G (.inl (some (.inr (.inr v)))) S) (h2 : ∀ x S, E x S → G (.inr x) S) : ∀ z S, zo K E z S → G z S := by
  intro z S h
  rcases z with v | x
  · rcases v with _ | v
    · exact h.elim
    · rcases v with v | v
      · exact h.elim
      · rcases v with v | v
        · exact h.elim
        · exact h1 _ _ h
  · exact h2 _ _ h
theorem zv_go {K : ma_S → Prop} {E : Nat → ma_S → Prop} {G : Option ma_V ⊕ Nat → ma_S → Prop} (h1 : ∀ S, K S → G (.inl none) S) (h2 : ∀ x S, E x S → G (.inr x) S) : ∀ z S, zv K E z S → G z S := by
  intro z S h
  rcases z with v | x
  · rcases v with _ | v
    · exact h1 _ h
    · exact h.elim
  · exact h2 _ _ h
/-! the law's frames -/
def ma_fp (X : Nat × (Nat → Int32)) (k d w pc : Nat) (L : ma_L) (st : List ma_V) (S : ma_S) (Q : Option ma_V → ma_S → Prop) : Prop := ∃ f v S', ma_frun X f k d w pc L st S = some (v, S') ∧ Q v S'
def zfi_ (K : Int32 → ma_S → Prop) : Option ma_V → ma_S → Prop := fun o S => match o with
  | some (.inl v) => K v S
  | _ => False
theorem zfi_go {K : Int32 → ma_S → Prop} {G : Option ma_V → ma_S → Prop} (h1 : ∀ v S, K v S → G (some (.inl v)) S) : ∀ z S, zfi_ K z S → G z S := by
  intro z S h
  rcases z with _ | v
  · exact h.elim
  · rcases v with v | v
    · exact h1 _ _ h
    · exact h.elim
theorem ma_frun_up {X : Nat × (Nat → Int32)} : ∀ (f k d w pc : Nat) (L : ma_L) (st : List ma_V) (S : ma_S) (r : Option ma_V × ma_S), ma_frun X f k d w pc L st S = some r → ma_frun X (f + 1) k d w pc L st S = some r := by
  intro f
  induction f with
  | zero => intro k d w pc L st S r h; cases h
  | succ f ih =>
    intro k d w pc L st S r h
    unfold ma_frun at h ⊢
    split at h
    · cases h
    · next cc nL ret hh hfi =>
      split at h
      · cases h
      · next i n hd =>
        split at h
        · exact ih _ _ _ _ _ _ _ _ h
        · split at h
          · exact h
          · split at h
            · split at h
              · cases h
              · split at h
                · next hroom =>
                  rw [if_pos hroom]
                  split at h
                  · next v2 S1 hr =>
                    rw [ma_run_up _ _ _ _ _ _ _ _ _ hr]
                    exact ih _ _ _ _ _ _ _ _ h
                  · next x2 px S1 hr =>
                    rw [ma_run_up _ _ _ _ _ _ _ _ _ hr]
                    exact h
                  · cases h
                · cases h
            · split at h
              · cases h
              · split at h
                · cases h
                · split at h
                  · next hroom =>
                    rw [if_pos hroom]
                    split at h
                    · next v2 S1 hr =>
                      rw [ih _ _ _ _ _ _ _ _ hr]
                      exact ih _ _ _ _ _ _ _ _ h
                    · cases h
                  · cases h
theorem ma_frun_le {X : Nat × (Nat → Int32)} {f g k d w pc : Nat} {L : ma_L} {st : List ma_V} {S : ma_S} {r : Option ma_V × ma_S} (hfg : f ≤ g) (h : ma_frun X f k d w pc L st S = some r) : ma_frun X g k d w pc L st S = some r := by
  induction hfg with
  | refl => exact h
  | step _ ih => exact ma_frun_up _ _ _ _ _ _ _ _ _ ih
def ma_fbody (X : Nat × (Nat → Int32)) (f k d w pc : Nat) (L : ma_L) (st : List ma_V) (S : ma_S) : Option (Option ma_V × ma_S) := match ma_fi k with
    | none => none
    | some (cc, nL, ret, hh) => match decode cc pc with
      | .error _ => none
      | .ok (i, n) => match ma_one X 14 false nL d w i n pc L st S with
        | some (pc', L', st', S') => ma_frun X f k d w pc' L' st' S'
        | none => match ma_ret ret i n st with
          | some v => some (v, S)
          | none => match ma_cl 14 i n st S with
            | some ((kd, M'), as, rest) => (match ma_md M' with
              | none => none
              | some (_, _, _, nL', _) => if 1 ≤ d ∧ 19 + nL' ≤ w ∧ ma_sz as ≤ nL' ∧ ma_sz rest ≤ 8 then (match ma_run X f (d - 1) (w - (19 + nL')) M' 0 (ma_args 0 as) [] S with
                | some (.inl v, S') => ma_frun X f k d w (pc + 3) L (v.toList ++ rest) S'
                | some (.inr (x, _), S') => if kd ≤ 1 ∧ ret = some .int then (ma_hd cc nL x pc hh).map (fun c => (some (.inl c), S')) else none
                | none => none) else none)
            | none => match ma_cw i n st with
              | none => none
              | some (k', as, rest) => match ma_fi k' with
                | none => none
                | some (_, nL', _, _) => if 1 ≤ d ∧ 19 + nL' ≤ w ∧ ma_sz as ≤ nL' ∧ ma_sz rest ≤ 8 then (match ma_frun X f k' (d - 1) (w - (19 + nL')) 0 (ma_args 0 as) [] S with
                  | some (v, S') => ma_frun X f k d w (pc + 3) L (v.toList ++ rest) S'
                  | none => none) else none
theorem ma_frun_s (X : Nat × (Nat → Int32)) (f k d w pc : Nat) (L : ma_L) (st : List ma_V) (S : ma_S) : ma_frun X (f + 1) k d w pc L st S = ma_fbody X f k d w pc L st S := rfl
section ZF1
variable {X : Nat × (Nat → Int32)} {d w k pc : Nat} {L : ma_L} {st r : List ma_V} {S : ma_S} {o nL : Nat} {ini : Bool} {cc : ByteArray} {ret : Option FieldType} {hh : List (Nat × Nat × Nat × Nat)} {i : Instr} {n : Nat} {Q Q' : Option ma_V → ma_S → Prop}
theorem zf_mono (h : ma_fp X k d w pc L st S Q) (g : ∀ o S', Q o S' → Q' o S') : ma_fp X k d w pc L st S Q' := by
  obtain ⟨f, o, S', h1, h2⟩ := h
  exact ⟨f, o, S', h1, g _ _ h2⟩
theorem zf_one (hm : ma_fi k = some (cc, nL, ret, hh)) (hd : decode cc pc = .ok (i, n)) {pc' : Nat} {L' : ma_L} {st' : List ma_V} {S' : ma_S} (h : ma_one X 14 false nL d w i n pc L st S = some (pc', L', st', S')) (K : ma_fp X k d w pc' L' st' S' Q) : ma_fp X k d w pc L st S Q := by
  obtain ⟨f, o', S1, h1, h2⟩ := K
  refine ⟨f + 1, o', S1, ?_, h2⟩
  rw [ma_frun_s]
  simp only [ma_fbody, hm, hd, h]
  exact h1
theorem zf_push (hm : ma_fi k = some (cc, nL, ret, hh)) (hd : decode cc pc = .ok (i, n)) {v : ma_V} (h : ma_push i n L = some v) (K : ma_fp X k d w (pc + n) L (v :: st) S Q) : ma_fp X k d w pc L st S Q :=
  zf_one hm hd (by unfold ma_one; rw [h]) K
theorem zf_stk (hm : ma_fi k = some (cc, nL, ret, hh)) (hd : decode cc pc = .ok (i, n)) {st' : List ma_V} (h0 : ma_push i n L = none) (h : ma_stk i n st = some st') (K : ma_fp X k d w (pc + n) L st' S Q) : ma_fp X k d w pc L st S Q :=
  zf_one hm hd (by unfold ma_one; rw [h0, h]) K
theorem zf_sto (hm : ma_fi k = some (cc, nL, ret, hh)) (hd : decode cc pc = .ok (i, n)) (L' : ma_L) {st' : List ma_V} (h0 : ma_push i n L = none) (h1 : ma_stk i n st = none) (h : ma_sto i n nL L st = some (L', st')) (K : ma_fp X k d w (pc + n) L' st' S Q) : ma_fp X k d w pc L st S Q :=
  zf_one hm hd (by unfold ma_one; rw [h0, h1]; simp only [h]) K
theorem zf_jmp (hm : ma_fi k = some (cc, nL, ret, hh)) (hd : decode cc pc = .ok (i, n)) {t : Nat} {st' : List ma_V} (h0 : ma_push i n L = none) (h1 : ma_stk i n st = none) (h2 : ma_sto i n nL L st = none) (h : ma_jmp i n pc st = some (t, st')) (K : ma_fp X k d w t L st' S Q) : ma_fp X k d w pc L st S Q :=
  zf_one hm hd (by unfold ma_one; rw [h0, h1]; simp only [h2, h]) K
theorem zf_goto (hm : ma_fi k = some (cc, nL, ret, hh)) {off : Int} (hd : decode cc pc = .ok (.goto off, 3)) {t : Nat} (ht : ma_to pc off = some t) (K : ma_fp X k d w t L st S Q) : ma_fp X k d w pc L st S Q :=
  zf_jmp hm hd rfl rfl rfl (by unfold ma_jmp; simp only [ht, Option.map_some]) K
theorem zf_if0 (hm : ma_fi k = some (cc, nL, ret, hh)) {c : ClassFile.Cond} {off : Int} (hd : decode cc pc = .ok (.ifCond c off, 3)) {t : Nat} (ht : ma_to pc off = some t) {x : Int32} {P : Prop} (hP : ma_c0 c x = true ↔ P) (k1 : P → ma_fp X k d w t L r S Q) (k2 : ¬ P → ma_fp X k d w (pc + 3) L r S Q) : ma_fp X k d w pc L (.inl x :: r) S Q := by
  refine zf_jmp (t := if ma_c0 c x = true then t else pc + 3) (st' := r) hm hd rfl rfl rfl (by unfold ma_jmp; simp only [ht, Option.map_some]) ?_
  by_cases h : ma_c0 c x = true
  · rw [if_pos h]; exact k1 (hP.mp h)
  · rw [if_neg h]; exact k2 (fun z => h (hP.mpr z))
theorem zf_if2 (hm : ma_fi k = some (cc, nL, ret, hh)) {c : ClassFile.Cond} {off : Int} (hd : decode cc pc = .ok (.if_icmp c off, 3)) {t : Nat} (ht : ma_to pc off = some t) {x z : Int32} {P : Prop} (hP : ma_c2 c x z = true ↔ P) (k1 : P → ma_fp X k d w t L r S Q) (k2 : ¬ P → ma_fp X k d w (pc + 3) L r S Q) : ma_fp X k d w pc L (.inl z :: .inl x :: r) S Q := by
  refine zf_jmp (t := if ma_c2 c x z = true then t else pc + 3) (st' := r) hm hd rfl rfl rfl (by unfold ma_jmp; simp only [ht, Option.map_some]) ?_
  by_cases h : ma_c2 c x z = true
  · rw [if_pos h]; exact k1 (hP.mp h)
  · rw [if_neg h]; exact k2 (fun z => h (hP.mpr z))
theorem oo_sc {j : Int32} (hg : 0 ≤ j ∧ j.toNatClampNeg < X.1) : ma_one X o ini nL d w .iaload 1 pc L (.inl j :: .inr (.inr (some 30)) :: r) S = some (pc + 1, L, .inl (X.2 j.toNatClampNeg) :: r, S) := by
  have h1 : ma_hp o ini .iaload 1 (.inl j :: .inr (.inr (some 30)) :: r) S = none := by
    unfold ma_hp
    simp only [ma_is30 (S := S) (c := 30) (by decide), Bool.false_and, Bool.false_eq_true, if_false]
  have h2 : ma_sc X .iaload 1 (.inl j :: .inr (.inr (some 30)) :: r) = some (.inl (X.2 j.toNatClampNeg) :: r) := by
    unfold ma_sc
    simp only [hg.1, hg.2, decide_true, Bool.and_self, if_true]
  unfold ma_one
  simp only [ma_push, ma_stk, ma_sto, ma_jmp, h1, h2]
theorem oo_sl : ma_one X o ini nL d w .arraylength 1 pc L (.inr (.inr (some 30)) :: r) S = some (pc + 1, L, .inl (Int32.ofNat X.1) :: r, S) := by
  have h1 : ma_hp o ini .arraylength 1 (.inr (.inr (some 30)) :: r) S = none := by
    unfold ma_hp
    simp only [ma_is30 (S := S) (c := 30) (by decide), Bool.false_and, Bool.false_eq_true, if_false]
  have h2 : ma_sc X .arraylength 1 (.inr (.inr (some 30)) :: r) = some (.inl (Int32.ofNat X.1) :: r) := rfl
  unfold ma_one
  simp only [ma_push, ma_stk, ma_sto, ma_jmp, h1, h2]
theorem oo_la {c N a : Nat} {j : Int32} (hs : ma_is S c = true) (ht : mH S c = (23, N)) (ha : j.toNatClampNeg = a) (hj : 0 ≤ j ∧ a < N) : ma_one X o ini nL d w .laload 1 pc L (.inl j :: .inr (.inr (some c)) :: r) S = some (pc + 1, L, .inr (.inl (mL S c a)) :: r, S) := by
  subst ha
  have h1 : ma_hp o ini .laload 1 (.inl j :: .inr (.inr (some c)) :: r) S = some (.inr (.inl (mL S c j.toNatClampNeg)) :: r, S) := by
    unfold ma_hp ma_ix
    simp only [hs, ht, hj.1, hj.2, decide_true, Bool.and_self, if_true]
  unfold ma_one
  simp only [ma_push, ma_stk, ma_sto, ma_jmp, h1]
theorem oo_las {c N a : Nat} {j : Int32} {x : Int64} (hs : ma_is S c = true) (ht : mH S c = (23, N)) (ha : j.toNatClampNeg = a) (hj : 0 ≤ j ∧ a < N) : ma_one X o ini nL d w .lastore 1 pc L (.inr (.inl x) :: .inl j :: .inr (.inr (some c)) :: r) S = some (pc + 1, L, r, ma_put S c a (.inr (.inl x))) := by
  subst ha
  have h1 : ma_hp o ini .lastore 1 (.inr (.inl x) :: .inl j :: .inr (.inr (some c)) :: r) S = some (r, ma_put S c j.toNatClampNeg (.inr (.inl x))) := by
    unfold ma_hp ma_ix
    simp only [hs, ht, hj.1, hj.2, decide_true, Bool.and_self, if_true]
  unfold ma_one
  simp only [ma_push, ma_stk, ma_sto, ma_jmp, h1]
theorem zf_ret (hm : ma_fi k = some (cc, nL, ret, hh)) (hd : decode cc pc = .ok (i, n)) (h1 : ma_one X 14 false nL d w i n pc L st S = none) {v : Option ma_V} (h : ma_ret ret i n st = some v) (q : Q v S) : ma_fp X k d w pc L st S Q := by
  refine ⟨1, v, S, ?_, q⟩
  rw [ma_frun_s]
  simp only [ma_fbody, hm, hd, h1, h]
theorem zf_iret (hm : ma_fi k = some (cc, nL, some .int, hh)) (hd : decode cc pc = .ok (.ireturn, 1)) {x : Int32} (q : Q (some (.inl x)) S) : ma_fp X k d w pc L [.inl x] S Q := by
  refine zf_ret (v := some (.inl x)) hm hd ?_ (by unfold ma_ret; simp [narrow]) q
  unfold ma_one
  rfl
theorem zf_bret (hm : ma_fi k = some (cc, nL, some .boolean, hh)) (hd : decode cc pc = .ok (.ireturn, 1)) {x : Int32} (hx : x = 0 ∨ x = 1) (q : Q (some (.inl x)) S) : ma_fp X k d w pc L [.inl x] S Q := by
  refine zf_ret (v := some (.inl x)) hm hd ?_ (by unfold ma_ret; rcases hx with rfl | rfl <;> simp [narrow]) q
  unfold ma_one
  rfl
/-- a call of a method of the class or of the reference -/
theorem zf_cv (hm : ma_fi k = some (cc, nL, ret, hh)) {x t kd M' m b nL' o' : Nat} {y' : MethodName} {cc' : ByteArray} {ret' : Option FieldType} (hd : decode cc pc = .ok (.invokevirtual x, 3)) (hv : ma_vl 14 x t = some (kd, M', m)) (hm' : ma_md M' = some (o', y', cc', nL', ret')) (asr rest : List ma_V) (hl : asr.length = m) (hrt : ma_rt S b = some t) (hr : 1 ≤ d ∧ 19 + nL' ≤ w) (hz : (decide (ma_sz (.inr (.inr (some b)) :: asr.reverse) ≤ nL') && decide (ma_sz rest ≤ 8)) = true)
    (hk : ma_wp X (d - 1) (w - (19 + nL')) M' 0 (ma_args 0 (.inr (.inr (some b)) :: asr.reverse)) [] S (fun z S' => match z with
      | .inl v => ma_fp X k d w (pc + 3) L (v.toList ++ rest) S' Q
      | .inr x => (kd ≤ 1 ∧ ret = some .int) ∧ ∃ c, ma_hd cc nL x pc hh = some c ∧ Q (some (.inl c)) S')) : ma_fp X k d w pc L (asr ++ .inr (.inr (some b)) :: rest) S Q := by
  rw [Bool.and_eq_true, decide_eq_true_eq, decide_eq_true_eq] at hz
  have h1 : ma_one X 14 false nL d w (.invokevirtual x) 3 pc L (asr ++ .inr (.inr (some b)) :: rest) S = none := by
    unfold ma_one
    rfl
  have h2 : ma_ret ret (.invokevirtual x) 3 (asr ++ .inr (.inr (some b)) :: rest) = none := rfl
  obtain ⟨f, z, S1, e1, e2⟩ := hk
  rcases z with v | ⟨x, px⟩
  · obtain ⟨g, z2, S2, e3, e4⟩ := (e2 : ma_fp X k d w (pc + 3) L (v.toList ++ rest) S1 Q)
    refine ⟨max f g + 1, z2, S2, ?_, e4⟩
    rw [ma_frun_s]
    simp only [ma_fbody, hm, hd, h1, h2, ma_vl_cl hv hl hrt, hm']
    rw [if_pos ⟨hr.1, hr.2, hz.1, hz.2⟩, ma_run_le (Nat.le_max_left f g) e1]
    exact ma_frun_le (Nat.le_max_right f g) e3
  · obtain ⟨e5, c, e6, e7⟩ := (e2 : (kd ≤ 1 ∧ ret = some .int) ∧ ∃ c, ma_hd cc nL x pc hh = some c ∧ Q (some (.inl c)) S1)
    refine ⟨f + 1, some (.inl c), S1, ?_, e7⟩
    rw [ma_frun_s]
    simp only [ma_fbody, hm, hd, h1, h2, ma_vl_cl hv hl hrt, hm']
    rw [if_pos ⟨hr.1, hr.2, hz.1, hz.2⟩, e1]
    simp only [if_pos e5, e6, Option.map_some]
def ma_cwl (x : Nat) : Option (Nat × Nat) := match ma_fd 14 x 0 true 5 8, ma_prt 14 x, ma_cwh.find? (fun q => q.1.1 == x) with
  | none, none, some q => some (q.1.2.1, q.1.2.2)
  | _, _, _ => none
/-- a call of a frame that catches -/
theorem zf_cw (hm : ma_fi k = some (cc, nL, ret, hh)) {x k' m nL' : Nat} {cc' : ByteArray} {ret' : Option FieldType} {hh' : List (Nat × Nat × Nat × Nat)} (hd : decode cc pc = .ok (.invokestatic x, 3)) (hv : ma_cwl x = some (k', m)) (hm' : ma_fi k' = some (cc', nL', ret', hh')) (asr rest : List ma_V) (hl : asr.length = m) (hr1 : 1 ≤ d) (hr2 : 19 + nL' ≤ w) (hz : (decide (ma_sz asr.reverse ≤ nL') && decide (ma_sz rest ≤ 8)) = true)
    (hk : ma_fp X k' (d - 1) (w - (19 + nL')) 0 (ma_args 0 asr.reverse) [] S (fun v S' => ma_fp X k d w (pc + 3) L (v.toList ++ rest) S' Q)) : ma_fp X k d w pc L (asr ++ rest) S Q := by
  rw [Bool.and_eq_true, decide_eq_true_eq, decide_eq_true_eq] at hz
  unfold ma_cwl at hv
  split at hv
  · next q g1 g2 g3 =>
    have e0 : (q.1.2.1, q.1.2.2) = (k', m) := Option.some.inj hv
    have e1 : q.1.2.1 = k' := congrArg Prod.fst e0
    have e2 : q.1.2.2 = m := congrArg Prod.snd e0
    have h1 : ma_one X 14 false nL d w (.invokestatic x) 3 pc L (asr ++ rest) S = none := by
      unfold ma_one
      rw [ma_pr_st g2]
      rfl
    have h2 : ma_ret ret (.invokestatic x) 3 (asr ++ rest) = none := rfl
    have h3 : ma_cl 14 (.invokestatic x) 3 (asr ++ rest) S = none := by
      unfold ma_cl
      simp only [g1]
    have h4 : ma_cw (.invokestatic x) 3 (asr ++ rest) = some (k', asr.reverse, rest) := by
      unfold ma_cw
      simp only [g3, e2, ← hl, List.take_left, List.drop_left, e1]
      rw [if_pos (by rw [List.length_append]; omega)]
    obtain ⟨f, v, S1, e3, e4⟩ := hk
    obtain ⟨g, z2, S2, e5, e6⟩ := e4
    refine ⟨max f g + 1, z2, S2, ?_, e6⟩
    rw [ma_frun_s]
    simp only [ma_fbody, hm, hd, h1, h2, h3, h4, hm']
    rw [if_pos ⟨hr1, hr2, hz.1, hz.2⟩, ma_frun_le (Nat.le_max_left f g) e3]
    exact ma_frun_le (Nat.le_max_right f g) e5
  · cases hv
end ZF1
theorem ma_frun_sub {X : Nat × (Nat → Int32)} : ∀ (f k d w pc : Nat) (L L' : ma_L) (st : List ma_V) (S : ma_S) (r : Option ma_V × ma_S), ma_nd L → ma_nd L' → ma_le L L' → ma_frun X f k d w pc L st S = some r → ma_frun X f k d w pc L' st S = some r := by
  intro f
  induction f with
  | zero => intro k d w pc L L' st S r _ _ _ h; cases h
  | succ f ih =>
    intro k d w pc L L' st S r hn hn' hle h
    rw [ma_frun_s] at h ⊢
    unfold ma_fbody at h ⊢
    split at h
    · cases h
    · next cc nL ret hh hfi =>
      split at h
      · cases h
      · next i n hd =>
        split at h
        · next pc1 L1 st1 S1 h1 =>
          obtain ⟨L2, b1, b2, b3, b4⟩ := ma_one_le hn hn' hle h1
          simp only [b1]
          exact ih _ _ _ _ _ _ _ _ _ b3 b4 b2 h
        · next h1 =>
          rcases ma_one_no hle h1 ret with b1 | ⟨a4, a5, a6⟩
          · simp only [b1]
            split at h
            · exact h
            · split at h
              · split at h
                · cases h
                · split at h
                  · next hroom =>
                    rw [if_pos hroom]
                    split at h
                    · exact ih _ _ _ _ _ _ _ _ _ hn hn' hle h
                    · exact h
                    · cases h
                  · cases h
              · split at h
                · cases h
                · split at h
                  · cases h
                  · split at h
                    · next hroom =>
                      rw [if_pos hroom]
                      split at h
                      · exact ih _ _ _ _ _ _ _ _ _ hn hn' hle h
                      · cases h
                    · cases h
          · rw [a4, a5] at h
            simp only at h
            split at h
            · cases h
            · next k' as rest hcw =>
              unfold ma_cw at hcw
              split at hcw
              · exact absurd rfl (a6 _).2
              · cases hcw
theorem zf_sub {X : Nat × (Nat → Int32)} {k d w pc : Nat} {L L' : ma_L} {st : List ma_V} {S : ma_S} {Q : Option ma_V → ma_S → Prop} (hn : ma_nd L) (hn' : ma_nd L') (hle : ma_le L L') (h : ma_fp X k d w pc L st S Q) : ma_fp X k d w pc L' st S Q := by
  obtain ⟨f, z, S', h1, h2⟩ := h
  exact ⟨f, z, S', ma_frun_sub _ _ _ _ _ _ _ _ _ _ hn hn' hle h1, h2⟩
end
section
/-! THE CLAIM. What is owed of the program itself stands in ma_pure: for every script the law's run in the small machine answers 1, within the room -/
theorem ma_pure {L : Nat} (hL : L ≤ 6) (ys : Nat → Int32) : ∃ (f : Nat) (S' : ma_S), ma_frun (L, ys) f 0 13 494 0 [(0, .inr (.inr (some 30)))] [] ma_S0 = some (some (.inl 1), S') ∧ mC S' ≤ 600002 ∧ mZ S' ≤ 7302232 := sorry
set_option maxHeartbeats 4000000 in
theorem lw_walk (l : Launch) (hlt : l.stackTraces = false) (b : Addr) (xs : List Int32) : MetFree l x (headSpec (Jvm.Cond.code x code maxLocals ret :: tables_1) room_1) (lw_P b xs) (fun _ _ _ _ _ => True) lw_Q := by
  refine MetFree.of_bodyS (code := code) (maxLocals := maxLocals) (ret := ret) (by decide) ?_ ?_
  · intro args s m h hn
    obtain ⟨meth, c, h1, h2, h3, h4, h5, h6, -, -⟩ := Cond.code_spec hn (atoms_spec (ws := Jvm.Cond.code x code maxLocals ret :: tables_1) h _ List.mem_cons_self)
    exact ⟨meth, c, h1, h2, h3, h4, h5, h6⟩
  · intro p e s m args below meth c s₁ B hml0 hP _
    obtain ⟨rfl, hx, hbd, hgv⟩ := hP
    obtain ⟨scr, harrAt, hlist, hof, hsmall⟩ := hx
    obtain ⟨hcb, hkn, -, -⟩ := State.arrayAt?_spec harrAt
    have hown : s.vm.findClass R_law = some m.cls := findClass_of_methodNamed B.named
    have hts0 : ∀ c ∈ (Jvm.Cond.code x code maxLocals ret :: tables_1), c.before #[Value.ref b] s = true := atoms_spec (ws := Jvm.Cond.code x code maxLocals ret :: tables_1) B.pre
    have hts : ∀ w ∈ lw_tbl, w.before #[Value.ref b] s = true := k2_hts_sels lw_privs (fun w hw => hts0 w (List.mem_cons_of_mem _ hw)) lw_privs_ok
    have hml : c.maxLocals = 7 := B.maxLocals_eq (hts0 _ List.mem_cons_self)
    have X₀ : Stand p l e room_1 s m #[Value.ref b] below meth c s₁ [] 0 0 := Stand.of_body B
    have hh0 : s₁.heap = s.heap := by rw [B.state]; rfl
    have hsz : scr.slots.size = xs.length := by rw [← Array.length_toList, hlist, List.length_map]
    have hval : ∀ j : Nat, j < xs.length → scr.slots[j]? = some (.int (xs.getD j 0)) := fun j hj => by
      rw [← Array.getElem?_toList, hlist]
      simp [hj]
    have hbl : b < s.heap.size := (Array.getElem?_eq_some_iff.mp hcb).1
    have hX : va_X b xs.length (fun j => xs.getD j 0) s s.heap := ⟨scr, hcb, hof, hkn, hsz, hval⟩
    have K : W p l e room_1 s m #[Value.ref b] below meth c s₁.heap [] 0 0 (lw_Z below #[Value.ref b] s) (entryFrame m ([Value.ref b] : List Value).toArray 7) := by
      rw [hh0]
      exact ma_start l hlt ⟨B.exec, B.bytes, B.returns, hml, hown, hts, hX, hbl, B.notSynchronized, hgv⟩ (fun ys _ => ma_pure hbd ys)
    obtain ⟨t, a1, o, b1, b2, b3⟩ := K s₁ rfl X₀
    exact ⟨t, o, a1, b1, b2, b3⟩
theorem lw_pre_spec {args : Array Value} {s : State} (h : (Jvm.Cond.and given_1 narrow_1).before args s = true) (hr : rest_1_c.before args s = true) : ∃ (b : Addr) (xs : List Int32), lw_P b xs args s := by
  have hs := flat_of_before _ h
  have hq := flat_of_before _ hr
  have hc : (Cond.count 1).before args s = true := hs _ (by decide +kernel)
  have harr : (Cond.arrayOf (.arg 0) .int).before args s = true := hs _ (by decide +kernel)
  have hle : (Cond.le (.length (.arg 0)) (.int 6)).before args s = true := hs _ (by decide +kernel)
  have hlen : (Cond.isInt (.length (.arg 0))).before args s = true := hq _ (by decide +kernel)
  have hall : (Cond.all (.arg 0) (.isInt (.elem (.arg 0) (.index 0)))).before args s = true := hq _ (by decide +kernel)
  obtain ⟨b, xs, hb, hx⟩ := State.ints_of_pre rfl harr hlen hall
  have hsm : xs.length < 2 ^ 31 := hx.choose_spec.2.2.2
  have hev : (Term.length (.arg 0)).eval args s none [] s = some (.int xs.length.toInt32) := hx.length_eval hb
  have hv := Cond.le_ints hev (show (Term.int 6).eval args s none [] s = some (.int 6) from rfl)
  have hd : xs.length.toInt32 ≤ 6 := by
    simpa [Cond.before, Cond.holds, hv] using hle
  have hN : xs.length ≤ 6 := (Int32.ofNat_le_ofNat hsm (by decide)).mp (show Int32.ofNat xs.length ≤ Int32.ofNat 6 from hd)
  exact ⟨b, xs, Cond.one_arg hc (show args[0]? = some (.ref b) from hb), hx, hN, h⟩
theorem lw_comes (l : Launch) (hlt : l.stackTraces = false) : Comes l x (Jvm.Cond.code x code maxLocals ret :: tables_1) room_1 (fun tb e args s => Calls_1 tb e args s ∧ rest_1 tb e args s ∧ Pre_1 tb e args s)
    (fun _ _ args s o t => lw_Q args s o t) := by
  intro p e ha hc hk s m args below hf hfit hheap happ hpre
  obtain ⟨b, xs, hP⟩ := lw_pre_spec hpre.2.2 hpre.2.1
  obtain ⟨k, o, h1, h2, h3, hQ⟩ := lw_walk l hlt b xs p e ha hc hk s m args below hf ((Spec.applies_iff_loose hf).mp happ).1 hP trivial
  exact ⟨k, o, h1, h2, h3, hQ⟩
theorem lw_frame {s t : State} {o : Outcome} {args : Array Value} (h : Framed s o t [] 600002 7302232) :
    Framed s o t (fieldLocs frame_1_writes args s ++ arrayLocs frame_1_arrays args s ++ staticLocs frame_1_statics s) 600002 7302232 := h
theorem lw_limb (L : Cond) (hL : ∀ (args : Array Value) (s t : State), L.after args s (.returned (some (.int 1))) t = true) :
    ArmFor flags0 classFile x code maxLocals ret World_1 tables_1 room_1 Calls_1 rest_1 Pre_1
      (fun tb e a s o t => postC L tb e a s o t ∧ Framed s o t (fieldLocs frame_1_writes a s ++ arrayLocs frame_1_arrays a s ++ staticLocs frame_1_statics s) 600002 7302232) := by
  intro l hfl _ _ p e ha hc hk s m args below hf hfit hheap happ hpre
  have hlt : l.stackTraces = false := by
    unfold Launch.stackTraces
    rw [hfl]
    decide
  obtain ⟨k, o, h1, h2, h3, rfl, hF⟩ := lw_comes l hlt p e ha hc hk s m args below hf hfit hheap happ hpre
  exact ⟨k, _, h1, h2, h3, hL args s _, lw_frame hF⟩
theorem i_vc : Claimed_1_1 ∧ Claimed_1_2 := ⟨lw_limb limb_1_1 (fun args s t => by simp [limb_1_1, Cond.after, Cond.holds, Cond.value]), lw_limb limb_1_2 (fun args s t => Cond.after_iff.mpr (by
  first | (rw [show limb_1_2 = Cond.eq .result (.int 1) from rfl, Cond.eq_ints (x := 1) (y := 1) rfl rfl]; simp; done) | (simp [limb_1_2, Cond.value, Term.eval]; done)))⟩
end
