/-! from 00.tables -/
-- ===== PART A: goes FIRST, ahead of the names: the tables' words, and 'selects' of the private methods out of them =====
/-- a word of the tables by its number, looked up in its own list -/
def ma_ti (j : Nat) : Option Cond := bif Nat.blt j 240 then tables_1_1[j]? else bif Nat.blt j 480 then tables_1_2[(j - 240)]? else bif Nat.blt j 720 then tables_1_3[(j - 480)]? else bif Nat.blt j 960 then tables_1_4[(j - 720)]? else bif Nat.blt j 1200 then tables_1_5[(j - 960)]? else bif Nat.blt j 1440 then tables_1_6[(j - 1200)]? else bif Nat.blt j 1680 then tables_1_7[(j - 1440)]? else bif Nat.blt j 1920 then tables_1_8[(j - 1680)]? else bif Nat.blt j 2160 then tables_1_9[(j - 1920)]? else tables_1_10[(j - 2160)]?
theorem tb_s {a b : Option Cond} {l m : List Cond} {w : Cond} {c : Bool} (h : (bif c then a else b) = some w) (ha : a = some w → w ∈ l) (hb : b = some w → w ∈ m) : w ∈ l ++ m := by
  cases c
  · exact List.mem_append_right _ (hb h)
  · exact List.mem_append_left _ (ha h)
theorem tb_in {w : Cond} {j : Nat} (h : ma_ti j = some w) : w ∈ tables_1 := by
  unfold ma_ti at h
  unfold tables_1
  exact tb_s h (fun h => List.mem_of_getElem? h) (fun h => tb_s h (fun h => List.mem_of_getElem? h) (fun h => tb_s h (fun h => List.mem_of_getElem? h) (fun h => tb_s h (fun h => List.mem_of_getElem? h) (fun h => tb_s h (fun h => List.mem_of_getElem? h) (fun h => tb_s h (fun h => List.mem_of_getElem? h) (fun h => tb_s h (fun h => List.mem_of_getElem? h) (fun h => tb_s h (fun h => List.mem_of_getElem? h) (fun h => tb_s h (fun h => List.mem_of_getElem? h) (fun h => List.mem_of_getElem? h)))))))))
/-- a private method of a class that the tables say can be made, by its rows of tables_1 -/
def lw_okq (q : MethodName × Nat) : Prop := (q.1.cls ≠ "java/lang/invoke/MethodHandle" ∧ q.1.cls ≠ "java/lang/invoke/VarHandle") ∧ Cond.instantiable q.1.cls q.2 ∈ tables_1 ∧ Cond.privateMethod q.1 ∈ tables_1 ∧ Cond.instanceMethod q.1 ∈ tables_1
theorem lw_p0 : lw_okq (⟨"CollectorHouse", "readPolicy", "()I"⟩, 12) := ⟨⟨by decide +kernel, by decide +kernel⟩, tb_in (j := 31) (by decide +kernel), tb_in (j := 365) (by decide +kernel), tb_in (j := 366) (by decide +kernel)⟩
theorem lw_p1 : lw_okq (⟨"CollectorHouse", "nextToken", "()Z"⟩, 12) := ⟨⟨by decide +kernel, by decide +kernel⟩, tb_in (j := 31) (by decide +kernel), tb_in (j := 369) (by decide +kernel), tb_in (j := 370) (by decide +kernel)⟩
theorem lw_p2 : lw_okq (⟨"CollectorHouse", "policyToken", "()I"⟩, 12) := ⟨⟨by decide +kernel, by decide +kernel⟩, tb_in (j := 31) (by decide +kernel), tb_in (j := 373) (by decide +kernel), tb_in (j := 374) (by decide +kernel)⟩
theorem lw_p3 : lw_okq (⟨"CollectorHouse", "tokenIs", "(Ljava/lang/String;)Z"⟩, 12) := ⟨⟨by decide +kernel, by decide +kernel⟩, tb_in (j := 31) (by decide +kernel), tb_in (j := 378) (by decide +kernel), tb_in (j := 379) (by decide +kernel)⟩
theorem lw_p4 : lw_okq (⟨"CollectorHouse", "partToken", "(C)I"⟩, 12) := ⟨⟨by decide +kernel, by decide +kernel⟩, tb_in (j := 31) (by decide +kernel), tb_in (j := 445) (by decide +kernel), tb_in (j := 446) (by decide +kernel)⟩
theorem lw_p5 : lw_okq (⟨"CollectorHouse", "numberToken", "(II)I"⟩, 12) := ⟨⟨by decide +kernel, by decide +kernel⟩, tb_in (j := 31) (by decide +kernel), tb_in (j := 449) (by decide +kernel), tb_in (j := 450) (by decide +kernel)⟩
theorem lw_p6 : lw_okq (⟨"CollectorHouse", "formToken", "()I"⟩, 12) := ⟨⟨by decide +kernel, by decide +kernel⟩, tb_in (j := 31) (by decide +kernel), tb_in (j := 456) (by decide +kernel), tb_in (j := 457) (by decide +kernel)⟩
theorem lw_p7 : lw_okq (⟨"CollectorHouse", "barrierToken", "()I"⟩, 12) := ⟨⟨by decide +kernel, by decide +kernel⟩, tb_in (j := 31) (by decide +kernel), tb_in (j := 464) (by decide +kernel), tb_in (j := 465) (by decide +kernel)⟩
theorem lw_p8 : lw_okq (⟨"java/lang/Throwable", "fillInStackTrace", "(I)Ljava/lang/Throwable;"⟩, 6) := ⟨⟨by decide +kernel, by decide +kernel⟩, tb_in (j := 572) (by decide +kernel), tb_in (j := 570) (by decide +kernel), tb_in (j := 571) (by decide +kernel)⟩
theorem lw_p9 : lw_okq (⟨"CollectorHouse", "addBytes", "(I)V"⟩, 12) := ⟨⟨by decide +kernel, by decide +kernel⟩, tb_in (j := 31) (by decide +kernel), tb_in (j := 597) (by decide +kernel), tb_in (j := 598) (by decide +kernel)⟩
theorem lw_p10 : lw_okq (⟨"CollectorHouse", "addObject", "(IIJI)I"⟩, 12) := ⟨⟨by decide +kernel, by decide +kernel⟩, tb_in (j := 31) (by decide +kernel), tb_in (j := 657) (by decide +kernel), tb_in (j := 658) (by decide +kernel)⟩
theorem lw_p11 : lw_okq (⟨"CollectorHouse", "needCollector", "()LCollectorHouse$Collector;"⟩, 12) := ⟨⟨by decide +kernel, by decide +kernel⟩, tb_in (j := 31) (by decide +kernel), tb_in (j := 661) (by decide +kernel), tb_in (j := 662) (by decide +kernel)⟩
theorem lw_p12 : lw_okq (⟨"CollectorHouse$Ages", "findOldRoom", "(I)I"⟩, 10) := ⟨⟨by decide +kernel, by decide +kernel⟩, tb_in (j := 213) (by decide +kernel), tb_in (j := 671) (by decide +kernel), tb_in (j := 672) (by decide +kernel)⟩
theorem lw_p13 : lw_okq (⟨"CollectorHouse$Ages", "cleanOld", "()I"⟩, 10) := ⟨⟨by decide +kernel, by decide +kernel⟩, tb_in (j := 213) (by decide +kernel), tb_in (j := 675) (by decide +kernel), tb_in (j := 676) (by decide +kernel)⟩
theorem lw_p14 : lw_okq (⟨"CollectorHouse$Store", "freeWords", "(II)V"⟩, 13) := ⟨⟨by decide +kernel, by decide +kernel⟩, tb_in (j := 39) (by decide +kernel), tb_in (j := 744) (by decide +kernel), tb_in (j := 745) (by decide +kernel)⟩
theorem lw_p15 : lw_okq (⟨"CollectorHouse$Ages", "findDirty", "()V"⟩, 10) := ⟨⟨by decide +kernel, by decide +kernel⟩, tb_in (j := 213) (by decide +kernel), tb_in (j := 768) (by decide +kernel), tb_in (j := 769) (by decide +kernel)⟩
def lw_privs_1 : List (MethodName × Nat) := [(⟨"CollectorHouse", "readPolicy", "()I"⟩, 12), (⟨"CollectorHouse", "nextToken", "()Z"⟩, 12), (⟨"CollectorHouse", "policyToken", "()I"⟩, 12), (⟨"CollectorHouse", "tokenIs", "(Ljava/lang/String;)Z"⟩, 12), (⟨"CollectorHouse", "partToken", "(C)I"⟩, 12), (⟨"CollectorHouse", "numberToken", "(II)I"⟩, 12), (⟨"CollectorHouse", "formToken", "()I"⟩, 12), (⟨"CollectorHouse", "barrierToken", "()I"⟩, 12), (⟨"java/lang/Throwable", "fillInStackTrace", "(I)Ljava/lang/Throwable;"⟩, 6), (⟨"CollectorHouse", "addBytes", "(I)V"⟩, 12), (⟨"CollectorHouse", "addObject", "(IIJI)I"⟩, 12), (⟨"CollectorHouse", "needCollector", "()LCollectorHouse$Collector;"⟩, 12), (⟨"CollectorHouse$Ages", "findOldRoom", "(I)I"⟩, 10), (⟨"CollectorHouse$Ages", "cleanOld", "()I"⟩, 10), (⟨"CollectorHouse$Store", "freeWords", "(II)V"⟩, 13), (⟨"CollectorHouse$Ages", "findDirty", "()V"⟩, 10)]
theorem lw_r1 : ∀ q ∈ lw_privs_1, lw_okq q := List.forall_mem_cons.mpr ⟨lw_p0, List.forall_mem_cons.mpr ⟨lw_p1, List.forall_mem_cons.mpr ⟨lw_p2, List.forall_mem_cons.mpr ⟨lw_p3, List.forall_mem_cons.mpr ⟨lw_p4, List.forall_mem_cons.mpr ⟨lw_p5, List.forall_mem_cons.mpr ⟨lw_p6, List.forall_mem_cons.mpr ⟨lw_p7, List.forall_mem_cons.mpr ⟨lw_p8, List.forall_mem_cons.mpr ⟨lw_p9, List.forall_mem_cons.mpr ⟨lw_p10, List.forall_mem_cons.mpr ⟨lw_p11, List.forall_mem_cons.mpr ⟨lw_p12, List.forall_mem_cons.mpr ⟨lw_p13, List.forall_mem_cons.mpr ⟨lw_p14, List.forall_mem_cons.mpr ⟨lw_p15, fun _ h => absurd h List.not_mem_nil⟩⟩⟩⟩⟩⟩⟩⟩⟩⟩⟩⟩⟩⟩⟩⟩
theorem lw_p16 : lw_okq (⟨"CollectorHouse$Ages", "isYoung", "(LCollectorHouse$Thing;)Z"⟩, 10) := ⟨⟨by decide +kernel, by decide +kernel⟩, tb_in (j := 213) (by decide +kernel), tb_in (j := 773) (by decide +kernel), tb_in (j := 774) (by decide +kernel)⟩
theorem lw_p17 : lw_okq (⟨"CollectorHouse$Ages", "cardOf", "(LCollectorHouse$Thing;I)I"⟩, 10) := ⟨⟨by decide +kernel, by decide +kernel⟩, tb_in (j := 213) (by decide +kernel), tb_in (j := 782) (by decide +kernel), tb_in (j := 783) (by decide +kernel)⟩
theorem lw_p18 : lw_okq (⟨"CollectorHouse$Ages", "hasYoungRoom", "(I)Z"⟩, 10) := ⟨⟨by decide +kernel, by decide +kernel⟩, tb_in (j := 213) (by decide +kernel), tb_in (j := 786) (by decide +kernel), tb_in (j := 787) (by decide +kernel)⟩
theorem lw_p19 : lw_okq (⟨"CollectorHouse$Ages", "cleanYoung", "()I"⟩, 10) := ⟨⟨by decide +kernel, by decide +kernel⟩, tb_in (j := 213) (by decide +kernel), tb_in (j := 790) (by decide +kernel), tb_in (j := 791) (by decide +kernel)⟩
theorem lw_p20 : lw_okq (⟨"CollectorHouse$Ages", "wordsGrowingOld", "()I"⟩, 10) := ⟨⟨by decide +kernel, by decide +kernel⟩, tb_in (j := 213) (by decide +kernel), tb_in (j := 794) (by decide +kernel), tb_in (j := 795) (by decide +kernel)⟩
theorem lw_p21 : lw_okq (⟨"CollectorHouse$Ages", "comeFromDirty", "()V"⟩, 10) := ⟨⟨by decide +kernel, by decide +kernel⟩, tb_in (j := 213) (by decide +kernel), tb_in (j := 800) (by decide +kernel), tb_in (j := 801) (by decide +kernel)⟩
theorem lw_p22 : lw_okq (⟨"CollectorHouse$Ages", "comeFromDirtyWords", "(LCollectorHouse$Thing;)V"⟩, 10) := ⟨⟨by decide +kernel, by decide +kernel⟩, tb_in (j := 213) (by decide +kernel), tb_in (j := 805) (by decide +kernel), tb_in (j := 806) (by decide +kernel)⟩
theorem lw_p23 : lw_okq (⟨"CollectorHouse$Ages", "moveKept", "()V"⟩, 10) := ⟨⟨by decide +kernel, by decide +kernel⟩, tb_in (j := 213) (by decide +kernel), tb_in (j := 811) (by decide +kernel), tb_in (j := 812) (by decide +kernel)⟩
theorem lw_p24 : lw_okq (⟨"CollectorHouse$Ages", "moveOlder", "(LCollectorHouse$Thing;)V"⟩, 10) := ⟨⟨by decide +kernel, by decide +kernel⟩, tb_in (j := 213) (by decide +kernel), tb_in (j := 819) (by decide +kernel), tb_in (j := 820) (by decide +kernel)⟩
theorem lw_p25 : lw_okq (⟨"CollectorHouse$Sweep", "fitFirst", "(III)I"⟩, 5) := ⟨⟨by decide +kernel, by decide +kernel⟩, tb_in (j := 137) (by decide +kernel), tb_in (j := 834) (by decide +kernel), tb_in (j := 835) (by decide +kernel)⟩
theorem lw_p26 : lw_okq (⟨"CollectorHouse$Sweep", "fitNext", "(I)I"⟩, 5) := ⟨⟨by decide +kernel, by decide +kernel⟩, tb_in (j := 137) (by decide +kernel), tb_in (j := 853) (by decide +kernel), tb_in (j := 854) (by decide +kernel)⟩
theorem lw_p27 : lw_okq (⟨"CollectorHouse$Sweep", "fitByLength", "(IZ)I"⟩, 5) := ⟨⟨by decide +kernel, by decide +kernel⟩, tb_in (j := 137) (by decide +kernel), tb_in (j := 857) (by decide +kernel), tb_in (j := 858) (by decide +kernel)⟩
theorem lw_p28 : lw_okq (⟨"CollectorHouse$Steps", "begin", "()V"⟩, 9) := ⟨⟨by decide +kernel, by decide +kernel⟩, tb_in (j := 268) (by decide +kernel), tb_in (j := 869) (by decide +kernel), tb_in (j := 870) (by decide +kernel)⟩
theorem lw_p29 : lw_okq (⟨"CollectorHouse$Steps", "newsCame", "()Z"⟩, 9) := ⟨⟨by decide +kernel, by decide +kernel⟩, tb_in (j := 268) (by decide +kernel), tb_in (j := 876) (by decide +kernel), tb_in (j := 877) (by decide +kernel)⟩
theorem lw_p30 : lw_okq (⟨"CollectorHouse$Steps", "finish", "()I"⟩, 9) := ⟨⟨by decide +kernel, by decide +kernel⟩, tb_in (j := 268) (by decide +kernel), tb_in (j := 884) (by decide +kernel), tb_in (j := 885) (by decide +kernel)⟩
theorem lw_p31 : lw_okq (⟨"CollectorHouse$Halves", "hasRoom", "(I)Z"⟩, 5) := ⟨⟨by decide +kernel, by decide +kernel⟩, tb_in (j := 195) (by decide +kernel), tb_in (j := 905) (by decide +kernel), tb_in (j := 906) (by decide +kernel)⟩
def lw_privs_2 : List (MethodName × Nat) := [(⟨"CollectorHouse$Ages", "isYoung", "(LCollectorHouse$Thing;)Z"⟩, 10), (⟨"CollectorHouse$Ages", "cardOf", "(LCollectorHouse$Thing;I)I"⟩, 10), (⟨"CollectorHouse$Ages", "hasYoungRoom", "(I)Z"⟩, 10), (⟨"CollectorHouse$Ages", "cleanYoung", "()I"⟩, 10), (⟨"CollectorHouse$Ages", "wordsGrowingOld", "()I"⟩, 10), (⟨"CollectorHouse$Ages", "comeFromDirty", "()V"⟩, 10), (⟨"CollectorHouse$Ages", "comeFromDirtyWords", "(LCollectorHouse$Thing;)V"⟩, 10), (⟨"CollectorHouse$Ages", "moveKept", "()V"⟩, 10), (⟨"CollectorHouse$Ages", "moveOlder", "(LCollectorHouse$Thing;)V"⟩, 10), (⟨"CollectorHouse$Sweep", "fitFirst", "(III)I"⟩, 5), (⟨"CollectorHouse$Sweep", "fitNext", "(I)I"⟩, 5), (⟨"CollectorHouse$Sweep", "fitByLength", "(IZ)I"⟩, 5), (⟨"CollectorHouse$Steps", "begin", "()V"⟩, 9), (⟨"CollectorHouse$Steps", "newsCame", "()Z"⟩, 9), (⟨"CollectorHouse$Steps", "finish", "()I"⟩, 9), (⟨"CollectorHouse$Halves", "hasRoom", "(I)Z"⟩, 5)]
theorem lw_r2 : ∀ q ∈ lw_privs_2, lw_okq q := List.forall_mem_cons.mpr ⟨lw_p16, List.forall_mem_cons.mpr ⟨lw_p17, List.forall_mem_cons.mpr ⟨lw_p18, List.forall_mem_cons.mpr ⟨lw_p19, List.forall_mem_cons.mpr ⟨lw_p20, List.forall_mem_cons.mpr ⟨lw_p21, List.forall_mem_cons.mpr ⟨lw_p22, List.forall_mem_cons.mpr ⟨lw_p23, List.forall_mem_cons.mpr ⟨lw_p24, List.forall_mem_cons.mpr ⟨lw_p25, List.forall_mem_cons.mpr ⟨lw_p26, List.forall_mem_cons.mpr ⟨lw_p27, List.forall_mem_cons.mpr ⟨lw_p28, List.forall_mem_cons.mpr ⟨lw_p29, List.forall_mem_cons.mpr ⟨lw_p30, List.forall_mem_cons.mpr ⟨lw_p31, fun _ h => absurd h List.not_mem_nil⟩⟩⟩⟩⟩⟩⟩⟩⟩⟩⟩⟩⟩⟩⟩⟩
theorem lw_p32 : lw_okq (⟨"CollectorHouse$Regions", "fits", "(II)Z"⟩, 9) := ⟨⟨by decide +kernel, by decide +kernel⟩, tb_in (j := 294) (by decide +kernel), tb_in (j := 921) (by decide +kernel), tb_in (j := 922) (by decide +kernel)⟩
theorem lw_p33 : lw_okq (⟨"CollectorHouse$Regions", "sumKept", "()V"⟩, 9) := ⟨⟨by decide +kernel, by decide +kernel⟩, tb_in (j := 294) (by decide +kernel), tb_in (j := 936) (by decide +kernel), tb_in (j := 937) (by decide +kernel)⟩
theorem lw_p34 : lw_okq (⟨"CollectorHouse$Regions", "regionOf", "(LCollectorHouse$Thing;)I"⟩, 9) := ⟨⟨by decide +kernel, by decide +kernel⟩, tb_in (j := 294) (by decide +kernel), tb_in (j := 941) (by decide +kernel), tb_in (j := 942) (by decide +kernel)⟩
theorem lw_p35 : lw_okq (⟨"CollectorHouse$Regions", "emptyWhereNothingIsLeft", "()V"⟩, 9) := ⟨⟨by decide +kernel, by decide +kernel⟩, tb_in (j := 294) (by decide +kernel), tb_in (j := 945) (by decide +kernel), tb_in (j := 946) (by decide +kernel)⟩
theorem lw_p36 : lw_okq (⟨"CollectorHouse$Regions", "chooseLeaving", "()V"⟩, 9) := ⟨⟨by decide +kernel, by decide +kernel⟩, tb_in (j := 294) (by decide +kernel), tb_in (j := 949) (by decide +kernel), tb_in (j := 950) (by decide +kernel)⟩
theorem lw_p37 : lw_okq (⟨"CollectorHouse$Regions", "fewestLeaving", "()I"⟩, 9) := ⟨⟨by decide +kernel, by decide +kernel⟩, tb_in (j := 294) (by decide +kernel), tb_in (j := 953) (by decide +kernel), tb_in (j := 954) (by decide +kernel)⟩
theorem lw_p38 : lw_okq (⟨"CollectorHouse$Regions", "moveAll", "(I)Z"⟩, 9) := ⟨⟨by decide +kernel, by decide +kernel⟩, tb_in (j := 294) (by decide +kernel), tb_in (j := 957) (by decide +kernel), tb_in (j := 958) (by decide +kernel)⟩
theorem lw_p39 : lw_okq (⟨"CollectorHouse$Regions", "topOf", "(I)I"⟩, 9) := ⟨⟨by decide +kernel, by decide +kernel⟩, tb_in (j := 294) (by decide +kernel), tb_in (j := 961) (by decide +kernel), tb_in (j := 962) (by decide +kernel)⟩
theorem lw_p40 : lw_okq (⟨"CollectorHouse$Regions", "moveOut", "(LCollectorHouse$Thing;)Z"⟩, 9) := ⟨⟨by decide +kernel, by decide +kernel⟩, tb_in (j := 294) (by decide +kernel), tb_in (j := 966) (by decide +kernel), tb_in (j := 967) (by decide +kernel)⟩
theorem lw_p41 : lw_okq (⟨"CollectorHouse$Regions", "leastEmpty", "()I"⟩, 9) := ⟨⟨by decide +kernel, by decide +kernel⟩, tb_in (j := 294) (by decide +kernel), tb_in (j := 970) (by decide +kernel), tb_in (j := 971) (by decide +kernel)⟩
theorem lw_p42 : lw_okq (⟨"CollectorHouse$Regions", "raiseTop", "(II)V"⟩, 9) := ⟨⟨by decide +kernel, by decide +kernel⟩, tb_in (j := 294) (by decide +kernel), tb_in (j := 975) (by decide +kernel), tb_in (j := 976) (by decide +kernel)⟩
theorem lw_p43 : lw_okq (⟨"CollectorHouse", "changeRoot", "(LCollectorHouse$Collector;ILCollectorHouse$Thing;)LCollectorHouse$Thing;"⟩, 12) := ⟨⟨by decide +kernel, by decide +kernel⟩, tb_in (j := 31) (by decide +kernel), tb_in (j := 1113) (by decide +kernel), tb_in (j := 1114) (by decide +kernel)⟩
theorem lw_p44 : lw_okq (⟨"CollectorHouse$Counts", "fallIfUncounted", "(LCollectorHouse$Thing;)V"⟩, 8) := ⟨⟨by decide +kernel, by decide +kernel⟩, tb_in (j := 246) (by decide +kernel), tb_in (j := 1148) (by decide +kernel), tb_in (j := 1149) (by decide +kernel)⟩
theorem lw_p45 : lw_okq (⟨"CollectorHouse$Counts", "dropWord", "(LCollectorHouse$Thing;I)V"⟩, 8) := ⟨⟨by decide +kernel, by decide +kernel⟩, tb_in (j := 246) (by decide +kernel), tb_in (j := 1155) (by decide +kernel), tb_in (j := 1156) (by decide +kernel)⟩
theorem lw_p46 : lw_okq (⟨"CollectorHouse", "needReached", "(I)LCollectorHouse$Thing;"⟩, 12) := ⟨⟨by decide +kernel, by decide +kernel⟩, tb_in (j := 31) (by decide +kernel), tb_in (j := 1192) (by decide +kernel), tb_in (j := 1193) (by decide +kernel)⟩
theorem lw_p47 : lw_okq (⟨"CollectorHouse", "needReachedOrNothing", "(I)LCollectorHouse$Thing;"⟩, 12) := ⟨⟨by decide +kernel, by decide +kernel⟩, tb_in (j := 31) (by decide +kernel), tb_in (j := 1239) (by decide +kernel), tb_in (j := 1240) (by decide +kernel)⟩
def lw_privs_3 : List (MethodName × Nat) := [(⟨"CollectorHouse$Regions", "fits", "(II)Z"⟩, 9), (⟨"CollectorHouse$Regions", "sumKept", "()V"⟩, 9), (⟨"CollectorHouse$Regions", "regionOf", "(LCollectorHouse$Thing;)I"⟩, 9), (⟨"CollectorHouse$Regions", "emptyWhereNothingIsLeft", "()V"⟩, 9), (⟨"CollectorHouse$Regions", "chooseLeaving", "()V"⟩, 9), (⟨"CollectorHouse$Regions", "fewestLeaving", "()I"⟩, 9), (⟨"CollectorHouse$Regions", "moveAll", "(I)Z"⟩, 9), (⟨"CollectorHouse$Regions", "topOf", "(I)I"⟩, 9), (⟨"CollectorHouse$Regions", "moveOut", "(LCollectorHouse$Thing;)Z"⟩, 9), (⟨"CollectorHouse$Regions", "leastEmpty", "()I"⟩, 9), (⟨"CollectorHouse$Regions", "raiseTop", "(II)V"⟩, 9), (⟨"CollectorHouse", "changeRoot", "(LCollectorHouse$Collector;ILCollectorHouse$Thing;)LCollectorHouse$Thing;"⟩, 12), (⟨"CollectorHouse$Counts", "fallIfUncounted", "(LCollectorHouse$Thing;)V"⟩, 8), (⟨"CollectorHouse$Counts", "dropWord", "(LCollectorHouse$Thing;I)V"⟩, 8), (⟨"CollectorHouse", "needReached", "(I)LCollectorHouse$Thing;"⟩, 12), (⟨"CollectorHouse", "needReachedOrNothing", "(I)LCollectorHouse$Thing;"⟩, 12)]
theorem lw_r3 : ∀ q ∈ lw_privs_3, lw_okq q := List.forall_mem_cons.mpr ⟨lw_p32, List.forall_mem_cons.mpr ⟨lw_p33, List.forall_mem_cons.mpr ⟨lw_p34, List.forall_mem_cons.mpr ⟨lw_p35, List.forall_mem_cons.mpr ⟨lw_p36, List.forall_mem_cons.mpr ⟨lw_p37, List.forall_mem_cons.mpr ⟨lw_p38, List.forall_mem_cons.mpr ⟨lw_p39, List.forall_mem_cons.mpr ⟨lw_p40, List.forall_mem_cons.mpr ⟨lw_p41, List.forall_mem_cons.mpr ⟨lw_p42, List.forall_mem_cons.mpr ⟨lw_p43, List.forall_mem_cons.mpr ⟨lw_p44, List.forall_mem_cons.mpr ⟨lw_p45, List.forall_mem_cons.mpr ⟨lw_p46, List.forall_mem_cons.mpr ⟨lw_p47, fun _ h => absurd h List.not_mem_nil⟩⟩⟩⟩⟩⟩⟩⟩⟩⟩⟩⟩⟩⟩⟩⟩
theorem lw_p48 : lw_okq (⟨"CollectorHouseModel", "fails", "(I)Z"⟩, 85) := ⟨⟨by decide +kernel, by decide +kernel⟩, tb_in (j := 1508) (by decide +kernel), tb_in (j := 1776) (by decide +kernel), tb_in (j := 1777) (by decide +kernel)⟩
theorem lw_p49 : lw_okq (⟨"CollectorHouseModel", "four", "(I)V"⟩, 85) := ⟨⟨by decide +kernel, by decide +kernel⟩, tb_in (j := 1508) (by decide +kernel), tb_in (j := 1780) (by decide +kernel), tb_in (j := 1781) (by decide +kernel)⟩
theorem lw_p50 : lw_okq (⟨"CollectorHouseModel", "readPolicy", "()Z"⟩, 85) := ⟨⟨by decide +kernel, by decide +kernel⟩, tb_in (j := 1508) (by decide +kernel), tb_in (j := 1796) (by decide +kernel), tb_in (j := 1797) (by decide +kernel)⟩
theorem lw_p51 : lw_okq (⟨"CollectorHouseModel", "token", "()Z"⟩, 85) := ⟨⟨by decide +kernel, by decide +kernel⟩, tb_in (j := 1508) (by decide +kernel), tb_in (j := 1800) (by decide +kernel), tb_in (j := 1801) (by decide +kernel)⟩
theorem lw_p52 : lw_okq (⟨"CollectorHouseModel", "wrong", "(I)Z"⟩, 85) := ⟨⟨by decide +kernel, by decide +kernel⟩, tb_in (j := 1508) (by decide +kernel), tb_in (j := 1804) (by decide +kernel), tb_in (j := 1805) (by decide +kernel)⟩
theorem lw_p53 : lw_okq (⟨"CollectorHouseModel", "is", "(IIIIIII)Z"⟩, 85) := ⟨⟨by decide +kernel, by decide +kernel⟩, tb_in (j := 1508) (by decide +kernel), tb_in (j := 1808) (by decide +kernel), tb_in (j := 1809) (by decide +kernel)⟩
theorem lw_p54 : lw_okq (⟨"CollectorHouseModel", "byteIs", "(II)Z"⟩, 85) := ⟨⟨by decide +kernel, by decide +kernel⟩, tb_in (j := 1508) (by decide +kernel), tb_in (j := 1812) (by decide +kernel), tb_in (j := 1813) (by decide +kernel)⟩
theorem lw_p55 : lw_okq (⟨"CollectorHouseModel", "number", "(II)Z"⟩, 85) := ⟨⟨by decide +kernel, by decide +kernel⟩, tb_in (j := 1508) (by decide +kernel), tb_in (j := 1816) (by decide +kernel), tb_in (j := 1817) (by decide +kernel)⟩
theorem lw_p56 : lw_okq (⟨"CollectorHouseModel", "roomHere", "()Z"⟩, 85) := ⟨⟨by decide +kernel, by decide +kernel⟩, tb_in (j := 1508) (by decide +kernel), tb_in (j := 1820) (by decide +kernel), tb_in (j := 1821) (by decide +kernel)⟩
theorem lw_p57 : lw_okq (⟨"CollectorHouseModel", "form", "()Z"⟩, 85) := ⟨⟨by decide +kernel, by decide +kernel⟩, tb_in (j := 1508) (by decide +kernel), tb_in (j := 1824) (by decide +kernel), tb_in (j := 1825) (by decide +kernel)⟩
theorem lw_p58 : lw_okq (⟨"CollectorHouseModel", "empty", "()V"⟩, 85) := ⟨⟨by decide +kernel, by decide +kernel⟩, tb_in (j := 1508) (by decide +kernel), tb_in (j := 1828) (by decide +kernel), tb_in (j := 1829) (by decide +kernel)⟩
theorem lw_p59 : lw_okq (⟨"CollectorHouseModel", "isNamed", "(I)Z"⟩, 85) := ⟨⟨by decide +kernel, by decide +kernel⟩, tb_in (j := 1508) (by decide +kernel), tb_in (j := 1836) (by decide +kernel), tb_in (j := 1837) (by decide +kernel)⟩
theorem lw_p60 : lw_okq (⟨"CollectorHouseModel", "fresh", "(III)I"⟩, 85) := ⟨⟨by decide +kernel, by decide +kernel⟩, tb_in (j := 1508) (by decide +kernel), tb_in (j := 1840) (by decide +kernel), tb_in (j := 1841) (by decide +kernel)⟩
theorem lw_p61 : lw_okq (⟨"CollectorHouseModel", "findRoom", "(I)I"⟩, 85) := ⟨⟨by decide +kernel, by decide +kernel⟩, tb_in (j := 1508) (by decide +kernel), tb_in (j := 1844) (by decide +kernel), tb_in (j := 1845) (by decide +kernel)⟩
theorem lw_p62 : lw_okq (⟨"CollectorHouseModel", "findInHalf", "(II)I"⟩, 85) := ⟨⟨by decide +kernel, by decide +kernel⟩, tb_in (j := 1508) (by decide +kernel), tb_in (j := 1848) (by decide +kernel), tb_in (j := 1849) (by decide +kernel)⟩
theorem lw_p63 : lw_okq (⟨"CollectorHouseModel", "cleanSlide", "()I"⟩, 85) := ⟨⟨by decide +kernel, by decide +kernel⟩, tb_in (j := 1508) (by decide +kernel), tb_in (j := 1852) (by decide +kernel), tb_in (j := 1853) (by decide +kernel)⟩
def lw_privs_4 : List (MethodName × Nat) := [(⟨"CollectorHouseModel", "fails", "(I)Z"⟩, 85), (⟨"CollectorHouseModel", "four", "(I)V"⟩, 85), (⟨"CollectorHouseModel", "readPolicy", "()Z"⟩, 85), (⟨"CollectorHouseModel", "token", "()Z"⟩, 85), (⟨"CollectorHouseModel", "wrong", "(I)Z"⟩, 85), (⟨"CollectorHouseModel", "is", "(IIIIIII)Z"⟩, 85), (⟨"CollectorHouseModel", "byteIs", "(II)Z"⟩, 85), (⟨"CollectorHouseModel", "number", "(II)Z"⟩, 85), (⟨"CollectorHouseModel", "roomHere", "()Z"⟩, 85), (⟨"CollectorHouseModel", "form", "()Z"⟩, 85), (⟨"CollectorHouseModel", "empty", "()V"⟩, 85), (⟨"CollectorHouseModel", "isNamed", "(I)Z"⟩, 85), (⟨"CollectorHouseModel", "fresh", "(III)I"⟩, 85), (⟨"CollectorHouseModel", "findRoom", "(I)I"⟩, 85), (⟨"CollectorHouseModel", "findInHalf", "(II)I"⟩, 85), (⟨"CollectorHouseModel", "cleanSlide", "()I"⟩, 85)]
theorem lw_r4 : ∀ q ∈ lw_privs_4, lw_okq q := List.forall_mem_cons.mpr ⟨lw_p48, List.forall_mem_cons.mpr ⟨lw_p49, List.forall_mem_cons.mpr ⟨lw_p50, List.forall_mem_cons.mpr ⟨lw_p51, List.forall_mem_cons.mpr ⟨lw_p52, List.forall_mem_cons.mpr ⟨lw_p53, List.forall_mem_cons.mpr ⟨lw_p54, List.forall_mem_cons.mpr ⟨lw_p55, List.forall_mem_cons.mpr ⟨lw_p56, List.forall_mem_cons.mpr ⟨lw_p57, List.forall_mem_cons.mpr ⟨lw_p58, List.forall_mem_cons.mpr ⟨lw_p59, List.forall_mem_cons.mpr ⟨lw_p60, List.forall_mem_cons.mpr ⟨lw_p61, List.forall_mem_cons.mpr ⟨lw_p62, List.forall_mem_cons.mpr ⟨lw_p63, fun _ h => absurd h List.not_mem_nil⟩⟩⟩⟩⟩⟩⟩⟩⟩⟩⟩⟩⟩⟩⟩⟩
theorem lw_p64 : lw_okq (⟨"CollectorHouseModel", "sweep", "()I"⟩, 85) := ⟨⟨by decide +kernel, by decide +kernel⟩, tb_in (j := 1508) (by decide +kernel), tb_in (j := 1856) (by decide +kernel), tb_in (j := 1857) (by decide +kernel)⟩
theorem lw_p65 : lw_okq (⟨"CollectorHouseModel", "keepReached", "()V"⟩, 85) := ⟨⟨by decide +kernel, by decide +kernel⟩, tb_in (j := 1508) (by decide +kernel), tb_in (j := 1860) (by decide +kernel), tb_in (j := 1861) (by decide +kernel)⟩
theorem lw_p66 : lw_okq (⟨"CollectorHouseModel", "keepNone", "()V"⟩, 85) := ⟨⟨by decide +kernel, by decide +kernel⟩, tb_in (j := 1508) (by decide +kernel), tb_in (j := 1864) (by decide +kernel), tb_in (j := 1865) (by decide +kernel)⟩
theorem lw_p67 : lw_okq (⟨"CollectorHouseModel", "keep", "(I)V"⟩, 85) := ⟨⟨by decide +kernel, by decide +kernel⟩, tb_in (j := 1508) (by decide +kernel), tb_in (j := 1868) (by decide +kernel), tb_in (j := 1869) (by decide +kernel)⟩
theorem lw_p68 : lw_okq (⟨"CollectorHouseModel", "keepAll", "()V"⟩, 85) := ⟨⟨by decide +kernel, by decide +kernel⟩, tb_in (j := 1508) (by decide +kernel), tb_in (j := 1872) (by decide +kernel), tb_in (j := 1873) (by decide +kernel)⟩
theorem lw_p69 : lw_okq (⟨"CollectorHouseModel", "reference", "(II)I"⟩, 85) := ⟨⟨by decide +kernel, by decide +kernel⟩, tb_in (j := 1508) (by decide +kernel), tb_in (j := 1876) (by decide +kernel), tb_in (j := 1877) (by decide +kernel)⟩
theorem lw_p70 : lw_okq (⟨"CollectorHouseModel", "isReference", "(II)Z"⟩, 85) := ⟨⟨by decide +kernel, by decide +kernel⟩, tb_in (j := 1508) (by decide +kernel), tb_in (j := 1880) (by decide +kernel), tb_in (j := 1881) (by decide +kernel)⟩
theorem lw_p71 : lw_okq (⟨"CollectorHouseModel", "grantAll", "()V"⟩, 85) := ⟨⟨by decide +kernel, by decide +kernel⟩, tb_in (j := 1508) (by decide +kernel), tb_in (j := 1884) (by decide +kernel), tb_in (j := 1885) (by decide +kernel)⟩
theorem lw_p72 : lw_okq (⟨"CollectorHouseModel", "wisher", "(IZ)I"⟩, 85) := ⟨⟨by decide +kernel, by decide +kernel⟩, tb_in (j := 1508) (by decide +kernel), tb_in (j := 1888) (by decide +kernel), tb_in (j := 1889) (by decide +kernel)⟩
theorem lw_p73 : lw_okq (⟨"CollectorHouseModel", "isOld", "(I)Z"⟩, 85) := ⟨⟨by decide +kernel, by decide +kernel⟩, tb_in (j := 1508) (by decide +kernel), tb_in (j := 1892) (by decide +kernel), tb_in (j := 1893) (by decide +kernel)⟩
theorem lw_p74 : lw_okq (⟨"CollectorHouseModel", "toWishes", "(I)V"⟩, 85) := ⟨⟨by decide +kernel, by decide +kernel⟩, tb_in (j := 1508) (by decide +kernel), tb_in (j := 1896) (by decide +kernel), tb_in (j := 1897) (by decide +kernel)⟩
theorem lw_p75 : lw_okq (⟨"CollectorHouseModel", "unweak", "(I)V"⟩, 85) := ⟨⟨by decide +kernel, by decide +kernel⟩, tb_in (j := 1508) (by decide +kernel), tb_in (j := 1900) (by decide +kernel), tb_in (j := 1901) (by decide +kernel)⟩
theorem lw_p76 : lw_okq (⟨"CollectorHouseModel", "unweakRest", "()V"⟩, 85) := ⟨⟨by decide +kernel, by decide +kernel⟩, tb_in (j := 1508) (by decide +kernel), tb_in (j := 1904) (by decide +kernel), tb_in (j := 1905) (by decide +kernel)⟩
theorem lw_p77 : lw_okq (⟨"CollectorHouseModel", "removeRest", "()I"⟩, 85) := ⟨⟨by decide +kernel, by decide +kernel⟩, tb_in (j := 1508) (by decide +kernel), tb_in (j := 1908) (by decide +kernel), tb_in (j := 1909) (by decide +kernel)⟩
theorem lw_p78 : lw_okq (⟨"CollectorHouseModel", "sizeOf", "(I)I"⟩, 85) := ⟨⟨by decide +kernel, by decide +kernel⟩, tb_in (j := 1508) (by decide +kernel), tb_in (j := 1912) (by decide +kernel), tb_in (j := 1913) (by decide +kernel)⟩
theorem lw_p79 : lw_okq (⟨"CollectorHouseModel", "uncountKept", "(I)V"⟩, 85) := ⟨⟨by decide +kernel, by decide +kernel⟩, tb_in (j := 1508) (by decide +kernel), tb_in (j := 1916) (by decide +kernel), tb_in (j := 1917) (by decide +kernel)⟩
def lw_privs_5 : List (MethodName × Nat) := [(⟨"CollectorHouseModel", "sweep", "()I"⟩, 85), (⟨"CollectorHouseModel", "keepReached", "()V"⟩, 85), (⟨"CollectorHouseModel", "keepNone", "()V"⟩, 85), (⟨"CollectorHouseModel", "keep", "(I)V"⟩, 85), (⟨"CollectorHouseModel", "keepAll", "()V"⟩, 85), (⟨"CollectorHouseModel", "reference", "(II)I"⟩, 85), (⟨"CollectorHouseModel", "isReference", "(II)Z"⟩, 85), (⟨"CollectorHouseModel", "grantAll", "()V"⟩, 85), (⟨"CollectorHouseModel", "wisher", "(IZ)I"⟩, 85), (⟨"CollectorHouseModel", "isOld", "(I)Z"⟩, 85), (⟨"CollectorHouseModel", "toWishes", "(I)V"⟩, 85), (⟨"CollectorHouseModel", "unweak", "(I)V"⟩, 85), (⟨"CollectorHouseModel", "unweakRest", "()V"⟩, 85), (⟨"CollectorHouseModel", "removeRest", "()I"⟩, 85), (⟨"CollectorHouseModel", "sizeOf", "(I)I"⟩, 85), (⟨"CollectorHouseModel", "uncountKept", "(I)V"⟩, 85)]
theorem lw_r5 : ∀ q ∈ lw_privs_5, lw_okq q := List.forall_mem_cons.mpr ⟨lw_p64, List.forall_mem_cons.mpr ⟨lw_p65, List.forall_mem_cons.mpr ⟨lw_p66, List.forall_mem_cons.mpr ⟨lw_p67, List.forall_mem_cons.mpr ⟨lw_p68, List.forall_mem_cons.mpr ⟨lw_p69, List.forall_mem_cons.mpr ⟨lw_p70, List.forall_mem_cons.mpr ⟨lw_p71, List.forall_mem_cons.mpr ⟨lw_p72, List.forall_mem_cons.mpr ⟨lw_p73, List.forall_mem_cons.mpr ⟨lw_p74, List.forall_mem_cons.mpr ⟨lw_p75, List.forall_mem_cons.mpr ⟨lw_p76, List.forall_mem_cons.mpr ⟨lw_p77, List.forall_mem_cons.mpr ⟨lw_p78, List.forall_mem_cons.mpr ⟨lw_p79, fun _ h => absurd h List.not_mem_nil⟩⟩⟩⟩⟩⟩⟩⟩⟩⟩⟩⟩⟩⟩⟩⟩
theorem lw_p80 : lw_okq (⟨"CollectorHouseModel", "remove", "(I)V"⟩, 85) := ⟨⟨by decide +kernel, by decide +kernel⟩, tb_in (j := 1508) (by decide +kernel), tb_in (j := 1920) (by decide +kernel), tb_in (j := 1921) (by decide +kernel)⟩
theorem lw_p81 : lw_okq (⟨"CollectorHouseModel", "slide", "(I)I"⟩, 85) := ⟨⟨by decide +kernel, by decide +kernel⟩, tb_in (j := 1508) (by decide +kernel), tb_in (j := 1924) (by decide +kernel), tb_in (j := 1925) (by decide +kernel)⟩
theorem lw_p82 : lw_okq (⟨"CollectorHouseModel", "move", "(II)V"⟩, 85) := ⟨⟨by decide +kernel, by decide +kernel⟩, tb_in (j := 1508) (by decide +kernel), tb_in (j := 1928) (by decide +kernel), tb_in (j := 1929) (by decide +kernel)⟩
theorem lw_p83 : lw_okq (⟨"CollectorHouseModel", "cleanHalves", "()I"⟩, 85) := ⟨⟨by decide +kernel, by decide +kernel⟩, tb_in (j := 1508) (by decide +kernel), tb_in (j := 1932) (by decide +kernel), tb_in (j := 1933) (by decide +kernel)⟩
theorem lw_p84 : lw_okq (⟨"CollectorHouseModel", "come", "(I)V"⟩, 85) := ⟨⟨by decide +kernel, by decide +kernel⟩, tb_in (j := 1508) (by decide +kernel), tb_in (j := 1936) (by decide +kernel), tb_in (j := 1937) (by decide +kernel)⟩
theorem lw_p85 : lw_okq (⟨"CollectorHouseModel", "comeAll", "()V"⟩, 85) := ⟨⟨by decide +kernel, by decide +kernel⟩, tb_in (j := 1508) (by decide +kernel), tb_in (j := 1940) (by decide +kernel), tb_in (j := 1941) (by decide +kernel)⟩
theorem lw_p86 : lw_okq (⟨"CollectorHouseModel", "comeWishers", "(Z)V"⟩, 85) := ⟨⟨by decide +kernel, by decide +kernel⟩, tb_in (j := 1508) (by decide +kernel), tb_in (j := 1944) (by decide +kernel), tb_in (j := 1945) (by decide +kernel)⟩
theorem lw_p87 : lw_okq (⟨"CollectorHouseModel", "findInYoung", "(I)I"⟩, 85) := ⟨⟨by decide +kernel, by decide +kernel⟩, tb_in (j := 1508) (by decide +kernel), tb_in (j := 1948) (by decide +kernel), tb_in (j := 1949) (by decide +kernel)⟩
theorem lw_p88 : lw_okq (⟨"CollectorHouseModel", "major", "()I"⟩, 85) := ⟨⟨by decide +kernel, by decide +kernel⟩, tb_in (j := 1508) (by decide +kernel), tb_in (j := 1952) (by decide +kernel), tb_in (j := 1953) (by decide +kernel)⟩
theorem lw_p89 : lw_okq (⟨"CollectorHouseModel", "findDirty", "()V"⟩, 85) := ⟨⟨by decide +kernel, by decide +kernel⟩, tb_in (j := 1508) (by decide +kernel), tb_in (j := 1956) (by decide +kernel), tb_in (j := 1957) (by decide +kernel)⟩
theorem lw_p90 : lw_okq (⟨"CollectorHouseModel", "cardOf", "(II)I"⟩, 85) := ⟨⟨by decide +kernel, by decide +kernel⟩, tb_in (j := 1508) (by decide +kernel), tb_in (j := 1960) (by decide +kernel), tb_in (j := 1961) (by decide +kernel)⟩
theorem lw_p91 : lw_okq (⟨"CollectorHouseModel", "minor", "()I"⟩, 85) := ⟨⟨by decide +kernel, by decide +kernel⟩, tb_in (j := 1508) (by decide +kernel), tb_in (j := 1964) (by decide +kernel), tb_in (j := 1965) (by decide +kernel)⟩
theorem lw_p92 : lw_okq (⟨"CollectorHouseModel", "isOldFull", "()Z"⟩, 85) := ⟨⟨by decide +kernel, by decide +kernel⟩, tb_in (j := 1508) (by decide +kernel), tb_in (j := 1968) (by decide +kernel), tb_in (j := 1969) (by decide +kernel)⟩
theorem lw_p93 : lw_okq (⟨"CollectorHouseModel", "comeDirty", "(I)V"⟩, 85) := ⟨⟨by decide +kernel, by decide +kernel⟩, tb_in (j := 1508) (by decide +kernel), tb_in (j := 1972) (by decide +kernel), tb_in (j := 1973) (by decide +kernel)⟩
theorem lw_p94 : lw_okq (⟨"CollectorHouseModel", "findInSteps", "(I)I"⟩, 85) := ⟨⟨by decide +kernel, by decide +kernel⟩, tb_in (j := 1508) (by decide +kernel), tb_in (j := 1976) (by decide +kernel), tb_in (j := 1977) (by decide +kernel)⟩
theorem lw_p95 : lw_okq (⟨"CollectorHouseModel", "freeWords", "()I"⟩, 85) := ⟨⟨by decide +kernel, by decide +kernel⟩, tb_in (j := 1508) (by decide +kernel), tb_in (j := 1980) (by decide +kernel), tb_in (j := 1981) (by decide +kernel)⟩
def lw_privs_6 : List (MethodName × Nat) := [(⟨"CollectorHouseModel", "remove", "(I)V"⟩, 85), (⟨"CollectorHouseModel", "slide", "(I)I"⟩, 85), (⟨"CollectorHouseModel", "move", "(II)V"⟩, 85), (⟨"CollectorHouseModel", "cleanHalves", "()I"⟩, 85), (⟨"CollectorHouseModel", "come", "(I)V"⟩, 85), (⟨"CollectorHouseModel", "comeAll", "()V"⟩, 85), (⟨"CollectorHouseModel", "comeWishers", "(Z)V"⟩, 85), (⟨"CollectorHouseModel", "findInYoung", "(I)I"⟩, 85), (⟨"CollectorHouseModel", "major", "()I"⟩, 85), (⟨"CollectorHouseModel", "findDirty", "()V"⟩, 85), (⟨"CollectorHouseModel", "cardOf", "(II)I"⟩, 85), (⟨"CollectorHouseModel", "minor", "()I"⟩, 85), (⟨"CollectorHouseModel", "isOldFull", "()Z"⟩, 85), (⟨"CollectorHouseModel", "comeDirty", "(I)V"⟩, 85), (⟨"CollectorHouseModel", "findInSteps", "(I)I"⟩, 85), (⟨"CollectorHouseModel", "freeWords", "()I"⟩, 85)]
theorem lw_r6 : ∀ q ∈ lw_privs_6, lw_okq q := List.forall_mem_cons.mpr ⟨lw_p80, List.forall_mem_cons.mpr ⟨lw_p81, List.forall_mem_cons.mpr ⟨lw_p82, List.forall_mem_cons.mpr ⟨lw_p83, List.forall_mem_cons.mpr ⟨lw_p84, List.forall_mem_cons.mpr ⟨lw_p85, List.forall_mem_cons.mpr ⟨lw_p86, List.forall_mem_cons.mpr ⟨lw_p87, List.forall_mem_cons.mpr ⟨lw_p88, List.forall_mem_cons.mpr ⟨lw_p89, List.forall_mem_cons.mpr ⟨lw_p90, List.forall_mem_cons.mpr ⟨lw_p91, List.forall_mem_cons.mpr ⟨lw_p92, List.forall_mem_cons.mpr ⟨lw_p93, List.forall_mem_cons.mpr ⟨lw_p94, List.forall_mem_cons.mpr ⟨lw_p95, fun _ h => absurd h List.not_mem_nil⟩⟩⟩⟩⟩⟩⟩⟩⟩⟩⟩⟩⟩⟩⟩⟩
theorem lw_p96 : lw_okq (⟨"CollectorHouseModel", "beginMarking", "()V"⟩, 85) := ⟨⟨by decide +kernel, by decide +kernel⟩, tb_in (j := 1508) (by decide +kernel), tb_in (j := 1984) (by decide +kernel), tb_in (j := 1985) (by decide +kernel)⟩
theorem lw_p97 : lw_okq (⟨"CollectorHouseModel", "greyRoots", "()V"⟩, 85) := ⟨⟨by decide +kernel, by decide +kernel⟩, tb_in (j := 1508) (by decide +kernel), tb_in (j := 1988) (by decide +kernel), tb_in (j := 1989) (by decide +kernel)⟩
theorem lw_p98 : lw_okq (⟨"CollectorHouseModel", "toGrey", "(I)V"⟩, 85) := ⟨⟨by decide +kernel, by decide +kernel⟩, tb_in (j := 1508) (by decide +kernel), tb_in (j := 1992) (by decide +kernel), tb_in (j := 1993) (by decide +kernel)⟩
theorem lw_p99 : lw_okq (⟨"CollectorHouseModel", "steps", "(I)I"⟩, 85) := ⟨⟨by decide +kernel, by decide +kernel⟩, tb_in (j := 1508) (by decide +kernel), tb_in (j := 1996) (by decide +kernel), tb_in (j := 1997) (by decide +kernel)⟩
theorem lw_p100 : lw_okq (⟨"CollectorHouseModel", "lookEmpty", "()I"⟩, 85) := ⟨⟨by decide +kernel, by decide +kernel⟩, tb_in (j := 1508) (by decide +kernel), tb_in (j := 2000) (by decide +kernel), tb_in (j := 2001) (by decide +kernel)⟩
theorem lw_p101 : lw_okq (⟨"CollectorHouseModel", "find", "(I)I"⟩, 85) := ⟨⟨by decide +kernel, by decide +kernel⟩, tb_in (j := 1508) (by decide +kernel), tb_in (j := 2004) (by decide +kernel), tb_in (j := 2005) (by decide +kernel)⟩
theorem lw_p102 : lw_okq (⟨"CollectorHouseModel", "firstFit", "(III)I"⟩, 85) := ⟨⟨by decide +kernel, by decide +kernel⟩, tb_in (j := 1508) (by decide +kernel), tb_in (j := 2008) (by decide +kernel), tb_in (j := 2009) (by decide +kernel)⟩
theorem lw_p103 : lw_okq (⟨"CollectorHouseModel", "blockFrom", "(II)I"⟩, 85) := ⟨⟨by decide +kernel, by decide +kernel⟩, tb_in (j := 1508) (by decide +kernel), tb_in (j := 2012) (by decide +kernel), tb_in (j := 2013) (by decide +kernel)⟩
theorem lw_p104 : lw_okq (⟨"CollectorHouseModel", "startOf", "(I)I"⟩, 85) := ⟨⟨by decide +kernel, by decide +kernel⟩, tb_in (j := 1508) (by decide +kernel), tb_in (j := 2016) (by decide +kernel), tb_in (j := 2017) (by decide +kernel)⟩
theorem lw_p105 : lw_okq (⟨"CollectorHouseModel", "firstFitAhead", "(II)I"⟩, 85) := ⟨⟨by decide +kernel, by decide +kernel⟩, tb_in (j := 1508) (by decide +kernel), tb_in (j := 2020) (by decide +kernel), tb_in (j := 2021) (by decide +kernel)⟩
theorem lw_p106 : lw_okq (⟨"CollectorHouseModel", "whole", "()I"⟩, 85) := ⟨⟨by decide +kernel, by decide +kernel⟩, tb_in (j := 1508) (by decide +kernel), tb_in (j := 2024) (by decide +kernel), tb_in (j := 2025) (by decide +kernel)⟩
theorem lw_p107 : lw_okq (⟨"CollectorHouseModel", "finish", "()I"⟩, 85) := ⟨⟨by decide +kernel, by decide +kernel⟩, tb_in (j := 1508) (by decide +kernel), tb_in (j := 2028) (by decide +kernel), tb_in (j := 2029) (by decide +kernel)⟩
theorem lw_p108 : lw_okq (⟨"CollectorHouseModel", "findInRegions", "(I)I"⟩, 85) := ⟨⟨by decide +kernel, by decide +kernel⟩, tb_in (j := 1508) (by decide +kernel), tb_in (j := 2032) (by decide +kernel), tb_in (j := 2033) (by decide +kernel)⟩
theorem lw_p109 : lw_okq (⟨"CollectorHouseModel", "findInRegion", "(I)I"⟩, 85) := ⟨⟨by decide +kernel, by decide +kernel⟩, tb_in (j := 1508) (by decide +kernel), tb_in (j := 2036) (by decide +kernel), tb_in (j := 2037) (by decide +kernel)⟩
theorem lw_p110 : lw_okq (⟨"CollectorHouseModel", "emptyRegions", "()I"⟩, 85) := ⟨⟨by decide +kernel, by decide +kernel⟩, tb_in (j := 1508) (by decide +kernel), tb_in (j := 2040) (by decide +kernel), tb_in (j := 2041) (by decide +kernel)⟩
theorem lw_p111 : lw_okq (⟨"CollectorHouseModel", "leastEmpty", "()I"⟩, 85) := ⟨⟨by decide +kernel, by decide +kernel⟩, tb_in (j := 1508) (by decide +kernel), tb_in (j := 2044) (by decide +kernel), tb_in (j := 2045) (by decide +kernel)⟩
def lw_privs_7 : List (MethodName × Nat) := [(⟨"CollectorHouseModel", "beginMarking", "()V"⟩, 85), (⟨"CollectorHouseModel", "greyRoots", "()V"⟩, 85), (⟨"CollectorHouseModel", "toGrey", "(I)V"⟩, 85), (⟨"CollectorHouseModel", "steps", "(I)I"⟩, 85), (⟨"CollectorHouseModel", "lookEmpty", "()I"⟩, 85), (⟨"CollectorHouseModel", "find", "(I)I"⟩, 85), (⟨"CollectorHouseModel", "firstFit", "(III)I"⟩, 85), (⟨"CollectorHouseModel", "blockFrom", "(II)I"⟩, 85), (⟨"CollectorHouseModel", "startOf", "(I)I"⟩, 85), (⟨"CollectorHouseModel", "firstFitAhead", "(II)I"⟩, 85), (⟨"CollectorHouseModel", "whole", "()I"⟩, 85), (⟨"CollectorHouseModel", "finish", "()I"⟩, 85), (⟨"CollectorHouseModel", "findInRegions", "(I)I"⟩, 85), (⟨"CollectorHouseModel", "findInRegion", "(I)I"⟩, 85), (⟨"CollectorHouseModel", "emptyRegions", "()I"⟩, 85), (⟨"CollectorHouseModel", "leastEmpty", "()I"⟩, 85)]
theorem lw_r7 : ∀ q ∈ lw_privs_7, lw_okq q := List.forall_mem_cons.mpr ⟨lw_p96, List.forall_mem_cons.mpr ⟨lw_p97, List.forall_mem_cons.mpr ⟨lw_p98, List.forall_mem_cons.mpr ⟨lw_p99, List.forall_mem_cons.mpr ⟨lw_p100, List.forall_mem_cons.mpr ⟨lw_p101, List.forall_mem_cons.mpr ⟨lw_p102, List.forall_mem_cons.mpr ⟨lw_p103, List.forall_mem_cons.mpr ⟨lw_p104, List.forall_mem_cons.mpr ⟨lw_p105, List.forall_mem_cons.mpr ⟨lw_p106, List.forall_mem_cons.mpr ⟨lw_p107, List.forall_mem_cons.mpr ⟨lw_p108, List.forall_mem_cons.mpr ⟨lw_p109, List.forall_mem_cons.mpr ⟨lw_p110, List.forall_mem_cons.mpr ⟨lw_p111, fun _ h => absurd h List.not_mem_nil⟩⟩⟩⟩⟩⟩⟩⟩⟩⟩⟩⟩⟩⟩⟩⟩
theorem lw_p112 : lw_okq (⟨"CollectorHouseModel", "cleanRegions", "()I"⟩, 85) := ⟨⟨by decide +kernel, by decide +kernel⟩, tb_in (j := 1508) (by decide +kernel), tb_in (j := 2048) (by decide +kernel), tb_in (j := 2049) (by decide +kernel)⟩
theorem lw_p113 : lw_okq (⟨"CollectorHouseModel", "sparse", "()I"⟩, 85) := ⟨⟨by decide +kernel, by decide +kernel⟩, tb_in (j := 1508) (by decide +kernel), tb_in (j := 2052) (by decide +kernel), tb_in (j := 2053) (by decide +kernel)⟩
theorem lw_p114 : lw_okq (⟨"CollectorHouseModel", "findByForm", "(I)I"⟩, 85) := ⟨⟨by decide +kernel, by decide +kernel⟩, tb_in (j := 1508) (by decide +kernel), tb_in (j := 2056) (by decide +kernel), tb_in (j := 2057) (by decide +kernel)⟩
theorem lw_p115 : lw_okq (⟨"CollectorHouseModel", "setRoot", "(II)V"⟩, 85) := ⟨⟨by decide +kernel, by decide +kernel⟩, tb_in (j := 1508) (by decide +kernel), tb_in (j := 2060) (by decide +kernel), tb_in (j := 2061) (by decide +kernel)⟩
theorem lw_p116 : lw_okq (⟨"CollectorHouseModel", "more", "(I)V"⟩, 85) := ⟨⟨by decide +kernel, by decide +kernel⟩, tb_in (j := 1508) (by decide +kernel), tb_in (j := 2064) (by decide +kernel), tb_in (j := 2065) (by decide +kernel)⟩
theorem lw_p117 : lw_okq (⟨"CollectorHouseModel", "changes", "(II)V"⟩, 85) := ⟨⟨by decide +kernel, by decide +kernel⟩, tb_in (j := 1508) (by decide +kernel), tb_in (j := 2068) (by decide +kernel), tb_in (j := 2069) (by decide +kernel)⟩
theorem lw_p118 : lw_okq (⟨"CollectorHouseModel", "less", "(I)V"⟩, 85) := ⟨⟨by decide +kernel, by decide +kernel⟩, tb_in (j := 1508) (by decide +kernel), tb_in (j := 2072) (by decide +kernel), tb_in (j := 2073) (by decide +kernel)⟩
theorem lw_p119 : lw_okq (⟨"CollectorHouseModel", "fall", "(I)V"⟩, 85) := ⟨⟨by decide +kernel, by decide +kernel⟩, tb_in (j := 1508) (by decide +kernel), tb_in (j := 2076) (by decide +kernel), tb_in (j := 2077) (by decide +kernel)⟩
theorem lw_p120 : lw_okq (⟨"CollectorHouseModel", "reached", "(I)I"⟩, 85) := ⟨⟨by decide +kernel, by decide +kernel⟩, tb_in (j := 1508) (by decide +kernel), tb_in (j := 2088) (by decide +kernel), tb_in (j := 2089) (by decide +kernel)⟩
theorem lw_p121 : lw_okq (⟨"CollectorHouseModel", "placeOf", "(I)I"⟩, 85) := ⟨⟨by decide +kernel, by decide +kernel⟩, tb_in (j := 1508) (by decide +kernel), tb_in (j := 2092) (by decide +kernel), tb_in (j := 2093) (by decide +kernel)⟩
theorem lw_p122 : lw_okq (⟨"CollectorHouseModel", "numberOf", "(I)I"⟩, 85) := ⟨⟨by decide +kernel, by decide +kernel⟩, tb_in (j := 1508) (by decide +kernel), tb_in (j := 2100) (by decide +kernel), tb_in (j := 2101) (by decide +kernel)⟩
theorem lw_p123 : lw_okq (⟨"CollectorHouseModel", "dirtyCards", "()I"⟩, 85) := ⟨⟨by decide +kernel, by decide +kernel⟩, tb_in (j := 1508) (by decide +kernel), tb_in (j := 2152) (by decide +kernel), tb_in (j := 2153) (by decide +kernel)⟩
def lw_privs_8 : List (MethodName × Nat) := [(⟨"CollectorHouseModel", "cleanRegions", "()I"⟩, 85), (⟨"CollectorHouseModel", "sparse", "()I"⟩, 85), (⟨"CollectorHouseModel", "findByForm", "(I)I"⟩, 85), (⟨"CollectorHouseModel", "setRoot", "(II)V"⟩, 85), (⟨"CollectorHouseModel", "more", "(I)V"⟩, 85), (⟨"CollectorHouseModel", "changes", "(II)V"⟩, 85), (⟨"CollectorHouseModel", "less", "(I)V"⟩, 85), (⟨"CollectorHouseModel", "fall", "(I)V"⟩, 85), (⟨"CollectorHouseModel", "reached", "(I)I"⟩, 85), (⟨"CollectorHouseModel", "placeOf", "(I)I"⟩, 85), (⟨"CollectorHouseModel", "numberOf", "(I)I"⟩, 85), (⟨"CollectorHouseModel", "dirtyCards", "()I"⟩, 85)]
theorem lw_r8 : ∀ q ∈ lw_privs_8, lw_okq q := List.forall_mem_cons.mpr ⟨lw_p112, List.forall_mem_cons.mpr ⟨lw_p113, List.forall_mem_cons.mpr ⟨lw_p114, List.forall_mem_cons.mpr ⟨lw_p115, List.forall_mem_cons.mpr ⟨lw_p116, List.forall_mem_cons.mpr ⟨lw_p117, List.forall_mem_cons.mpr ⟨lw_p118, List.forall_mem_cons.mpr ⟨lw_p119, List.forall_mem_cons.mpr ⟨lw_p120, List.forall_mem_cons.mpr ⟨lw_p121, List.forall_mem_cons.mpr ⟨lw_p122, List.forall_mem_cons.mpr ⟨lw_p123, fun _ h => absurd h List.not_mem_nil⟩⟩⟩⟩⟩⟩⟩⟩⟩⟩⟩⟩
def lw_privs : List (MethodName × Nat) := lw_privs_1 ++ (lw_privs_2 ++ (lw_privs_3 ++ (lw_privs_4 ++ (lw_privs_5 ++ (lw_privs_6 ++ (lw_privs_7 ++ (lw_privs_8)))))))
def lw_tbl : List Cond := k2_sels lw_privs ++ tables_1
theorem lw_privs_ok : ∀ q ∈ lw_privs, lw_okq q := by
  show ∀ q ∈ lw_privs_1 ++ (lw_privs_2 ++ (lw_privs_3 ++ (lw_privs_4 ++ (lw_privs_5 ++ (lw_privs_6 ++ (lw_privs_7 ++ (lw_privs_8))))))), lw_okq q
  exact List.forall_mem_append.mpr ⟨lw_r1, List.forall_mem_append.mpr ⟨lw_r2, List.forall_mem_append.mpr ⟨lw_r3, List.forall_mem_append.mpr ⟨lw_r4, List.forall_mem_append.mpr ⟨lw_r5, List.forall_mem_append.mpr ⟨lw_r6, List.forall_mem_append.mpr ⟨lw_r7, lw_r8⟩⟩⟩⟩⟩⟩⟩

/-! from 01.names -/
/-! ===== BEGIN words of one list among another's, by their places ===== -/
/-! ===== END ===== -/

/-! ===== BEGIN exceptions that leave a method, and their catching by the caller (launches without stack traces) ===== -/
section VXA
/-- where a method has thrown q: the class by its name, the cell, what was written, the world -/
def vx_T (XC : String → State → State → Prop) (st : State) (q : Addr) (t : State) (mc ms : Nat) (free : Addr → Prop) : Prop :=
  ∃ (E : String) (ce : Cell) (L : List Loc), XC E st t ∧ t.heap[q]? = some ce ∧ ce.vm = .none ∧ st.vm.findClass E = some ce.cls ∧ st.WarmedH t.vm ∧ st.sameButNew ({ t with vm := st.vm } : State) L mc ms ∧ ∀ z ∈ L, free z.base
def vx_Q (Qc : Array Value → State → Outcome → State → Prop) (XC : String → State → State → Prop) (mc ms : Nat) (free : Addr → Prop) : Array Value → State → Outcome → State → Prop := fun a st o t =>
  (Qc a st o t ∧ ∃ L, FrameEnd st o t L mc ms ∧ ∀ q ∈ L, free q.base) ∨ ∃ q, o = .threw q ∧ vx_T XC st q t mc ms free
/-- a callee that returns or throws -/
def vx_Met (l : Launch) (y : MethodName) (ws : List Cond) (rm : Room) (Pc : Array Value → State → Prop) (Qc : Array Value → State → Outcome → State → Prop) (XC : String → State → State → Prop) (mc ms : Nat) (free : Addr → Prop) : Prop :=
  MetFree l y (headSpec ws rm) Pc (fun _ _ _ _ _ => True) (vx_Q Qc XC mc ms free)
def vx_Post (XC : String → State → State → Prop) (mc ms : Nat) (free : Addr → Prop) : Pt → Array Value → Addr → Pt → Prop := fun A a q B =>
  ∃ (g : JFrame) (mk : MethodId) (t : State) (L : List Loc) (E : String) (ce : Cell), B.U.heap = t.heap ∧ B.U.vm = t.vm ∧ XC E (A.U.calling g mk a) t ∧ t.heap[q]? = some ce ∧ ce.vm = .none ∧ A.U.vm.findClass E = some ce.cls ∧ B.locs = A.locs ++ L ∧ (∀ z ∈ L, free z.base) ∧ B.cells = A.cells + mc ∧ B.slots = A.slots + ms
def vx_Back (l : Launch) (R : Room) (p : Program) (e : Env) (below : List Frame) (s : State) (sargs : Array Value) (y : MethodName) (len W9 : Nat)
    (Pre : Pt → Array Value → Prop) (Post : Pt → Array Value → Option Value → Pt → Prop) (PostX : Pt → Array Value → Addr → Pt → Prop) : Prop :=
  ∀ (m : MethodId) (meth : Method) (c : Code) (A : Pt) (g : JFrame) (ig : Instr) (mk : MethodId) (a : Array Value),
    Stand p l e R s m sargs below meth c A.U A.locs A.cells A.slots → g.method = m → g.locals.size = c.maxLocals → decode c.code g.pc = .ok (ig, len) →
    2 * g.monitorRoom + (g.stack.map fun v => v.category).sum ≤ W9 → A.U.methodNamed? y = some mk → Pre A a →
    (∃ (v : Option Value) (B : Pt), Stand p l e R s m sargs below meth c B.U B.locs B.cells B.slots ∧ Post A a v B ∧
      Steps p.tables e below (doInvoke e (A.U.setTop g) [] mk a).1 (B.U.setTop { g with pc := g.pc + len, stack := v.toList ++ g.stack })) ∨
    (∃ (q : Addr) (B : Pt), Stand p l e R s m sargs below meth c B.U B.locs B.cells B.slots ∧ PostX A a q B ∧
      Steps p.tables e below (doInvoke e (A.U.setTop g) [] mk a).1 ((B.U.setTop g).pushFrame (.throwing q)))
section Payer
variable {l : Launch} {R : Room} {p : Program} {e : Env} {below : List Frame} {s : State} {sargs : Array Value} {y : MethodName} {len W9 : Nat}
theorem vx_back {ws : List Cond} {rm : Room} {Pc : Array Value → State → Prop} {Qc : Array Value → State → Outcome → State → Prop} {XC : String → State → State → Prop} {mc ms : Nat} {free : Addr → Prop} {bytes : ByteArray} {maxL : Nat} {ret : Option FieldType}
    (hM : vx_Met l y ws rm Pc Qc XC mc ms free) (hblind : FrameBlind Pc) (hrc : rm.cells = mc) (hrs : rm.slots = ms)
    (hframes : rm.frames + 1 ≤ R.frames) (hlocals : W9 + (maxL + 11) + rm.locals ≤ R.locals)
    (hws : ∀ w ∈ ws, ∀ a₉ U, s.WarmedH U.vm → w.before a₉ U = true) (hcode : Cond.code y bytes maxL ret ∈ ws) (hinit : ∀ a₉ U, s.WarmedH U.vm → (Cond.initialized y.cls).before a₉ U = true) :
    vx_Back l R p e below s sargs y len W9 (PreOf R mc ms Pc) (PostOf Qc mc ms free) (vx_Post XC mc ms free) := by
  intro m meth c A g ig mk a X hg hsize hdg hW hn hp
  have h1 : (headSpec ws rm).pre.before a A.U = true := atoms_intro fun w hw => hws w hw _ _ X.warmed
  have h2 : (Cond.code y bytes maxL ret).before a A.U = true := hws _ hcode _ _ X.warmed
  have h3 : (Cond.initialized y.cls).before a A.U = true := hinit _ _ X.warmed
  have h4 : A.cells + (headSpec ws rm).room.cells ≤ R.cells := by rw [show (headSpec ws rm).room.cells = mc from hrc]; exact hp.1
  have h5 : A.slots + (headSpec ws rm).room.slots ≤ R.slots := by rw [show (headSpec ws rm).room.slots = ms from hrs]; exact hp.2.1
  have hPc : Pc a (A.U.calling g mk a) := hblind _ _ _ _ hp.2.2
  obtain ⟨U, Ls, c0, s0⟩ := A
  dsimp only [Pt.U, Pt.locs, Pt.cells, Pt.slots] at h1 h2 h3 h4 h5 X hn hPc ⊢
  obtain ⟨methY, cY, hmY, hcY, -, hlY, -, -, -, -⟩ := Cond.code_spec hn h2
  obtain ⟨kY, hkY, -⟩ := className_of_methodNamed hn
  have hinitY : kY.init = .initialized := Cond.initialized_spec (findClass_of_methodNamed hn) hkY h3
  have h : At U g.method c below := by rw [hg]; exact X.here
  have hlocals9 : W9 + (maxL + 11) + (headSpec ws rm).room.locals ≤ R.locals := hlocals
  have happ : (headSpec ws rm).appliesLoose y e.platform (U.calling g mk a) = true :=
    Spec.appliesLoose_calling (g := g) h hdg hn hkY hinitY
      (X.room_calling (g := g) (R' := (headSpec ws rm).room) hsize hmY hcY hframes (by rw [hlY]; omega) h4 h5) h1
  obtain ⟨mid, hmid⟩ := h.above
  have hfr : (U.setTop g).frames = (.java g :: mid) ++ below := by rw [State.frames_setTop' g h.top, hmid]; rfl
  obtain ⟨o, s₂, hsteps, -, hend, hq⟩ := Steps.callFree hM p X.admits X.cas X.clock (acts := []) hfr happ hPc trivial
  have hq₉ : vx_Q Qc XC mc ms free a (U.calling g mk a) o s₂ := hq
  rw [State.frames_setTop' g h.top] at hend
  obtain ⟨g₀, hg0⟩ := Option.isSome_iff_exists.mp h.top
  obtain ⟨r, hr⟩ := State.topJava?_eq_some.mp hg0
  have hr₉ : (({ U with heap := s₂.heap, slotsUsed := s₂.slotsUsed } : State).setVm s₂.vm).frames = .java g₀ :: r := hr
  rcases hq₉ with ⟨hqc, L, hfe, hL⟩ | ⟨q, rfl, E, ce, L, hx, hce, hcv, hcl, hW₂, hsm, hL⟩
  · obtain ⟨⟨v, rfl⟩, hW₂, e2, q2, q3, q4, q5, q6⟩ := id hfe
    have e3 : s₂ = ({ (U.calling g mk a).setFrames s₂.frames with heap := s₂.heap, slotsUsed := s₂.slotsUsed } : State).setVm s₂.vm := by
      have : s₂ = ({ s₂ with vm := (U.calling g mk a).vm } : State).setVm s₂.vm := rfl
      rw [e2] at this
      exact this
    obtain ⟨c₂, i₂, len₂, hc₂, hd₂, hf₂⟩ := hend
    have hW₉ : U.WarmedH s₂.vm := hW₂
    have hcc : c₂ = c := by
      have h1 : s₂.code? g.method = U.code? g.method := by
        rw [State.code?_eq, State.code?_eq, hW₉.alike.method?]
      exact Option.some.inj (hc₂.symm.trans (h1.trans h.code))
    subst hcc
    have hlen : len₂ = len := by rw [hdg] at hd₂; cases hd₂; rfl
    subst hlen
    have hs₂ : s₂ = (({ U with heap := s₂.heap, slotsUsed := s₂.slotsUsed } : State).setVm s₂.vm).setTop { g with pc := g.pc + len₂, stack := v.toList ++ g.stack } := by
      refine e3.trans ?_
      rw [hf₂, State.calling_eq h.top, State.setFrames_setFrames, State.setTop_of_frames _ hr₉, hr]
      rfl
    have hsame : U.sameButNew ({ U with heap := s₂.heap, slotsUsed := s₂.slotsUsed } : State) L mc ms := by
      refine ⟨?_, q2, q3, q4, q5, q6⟩
      obtain ⟨t, ht, -⟩ := State.frames_cons hr
      show ({ U with heap := s₂.heap, slotsUsed := s₂.slotsUsed } : State) = { U.setFrames U.frames with heap := s₂.heap, slotsUsed := s₂.slotsUsed }
      rw [State.setFrames_self ht]
    subst hg
    refine Or.inl ⟨v, ⟨(({ U with heap := s₂.heap, slotsUsed := s₂.slotsUsed } : State).setVm s₂.vm), Ls ++ L, c0 + mc, s0 + ms⟩,
      ⟨X.admits, X.cas, X.clock, X.frames, X.room, X.hears, X.method, X.code, (X.here.setHeapUsed s₂.heap s₂.slotsUsed).setVm hW₉.alike, X.tail, State.WarmedH.trans X.warmed hW₉, X.limits, X.bytes, X.same.trans (hsame.setVm s.vm)⟩,
      ⟨g, mk, s₂, L, rfl, rfl, hqc, rfl, hL, rfl, rfl⟩, ?_⟩
    show Steps p.tables e below _ ((({ U with heap := s₂.heap, slotsUsed := s₂.slotsUsed } : State).setVm s₂.vm).setTop { g with pc := g.pc + len₂, stack := v.toList ++ g.stack })
    rw [← hs₂]
    exact hsteps
  · obtain ⟨e2, q2, q3, q4, q5, q6⟩ := id hsm
    have e3 : s₂ = ({ (U.calling g mk a).setFrames s₂.frames with heap := s₂.heap, slotsUsed := s₂.slotsUsed } : State).setVm s₂.vm := by
      have : s₂ = ({ s₂ with vm := (U.calling g mk a).vm } : State).setVm s₂.vm := rfl
      rw [e2] at this
      exact this
    have hf₂ : s₂.frames = .throwing q :: .java g :: U.frames.tail := hend
    have hW₉ : U.WarmedH s₂.vm := hW₂
    have hs₂ : s₂ = ((({ U with heap := s₂.heap, slotsUsed := s₂.slotsUsed } : State).setVm s₂.vm).setTop g).pushFrame (.throwing q) := by
      refine e3.trans ?_
      rw [hf₂, State.calling_eq h.top, State.setFrames_setFrames, State.pushFrame, State.frames_setTop _ hr₉, State.setTop_of_frames _ hr₉, State.setFrames_setFrames, hr]
      rfl
    have hsame : U.sameButNew ({ U with heap := s₂.heap, slotsUsed := s₂.slotsUsed } : State) L mc ms := by
      refine ⟨?_, q2, q3, q4, q5, q6⟩
      obtain ⟨t, ht, -⟩ := State.frames_cons hr
      show ({ U with heap := s₂.heap, slotsUsed := s₂.slotsUsed } : State) = { U.setFrames U.frames with heap := s₂.heap, slotsUsed := s₂.slotsUsed }
      rw [State.setFrames_self ht]
    subst hg
    refine Or.inr ⟨q, ⟨(({ U with heap := s₂.heap, slotsUsed := s₂.slotsUsed } : State).setVm s₂.vm), Ls ++ L, c0 + mc, s0 + ms⟩,
      ⟨X.admits, X.cas, X.clock, X.frames, X.room, X.hears, X.method, X.code, (X.here.setHeapUsed s₂.heap s₂.slotsUsed).setVm hW₉.alike, X.tail, State.WarmedH.trans X.warmed hW₉, X.limits, X.bytes, X.same.trans (hsame.setVm s.vm)⟩,
      ⟨g, mk, s₂, L, E, ce, rfl, rfl, hx, hce, hcv, hcl, rfl, hL, rfl, rfl⟩, ?_⟩
    show Steps p.tables e below _ (((({ U with heap := s₂.heap, slotsUsed := s₂.slotsUsed } : State).setVm s₂.vm).setTop g).pushFrame (.throwing q))
    rw [← hs₂]
    exact hsteps
end Payer
section Calls
variable {p : Program} {l : Launch} {e : Env} {R : Room} {s : State} {m : MethodId} {args : Array Value} {below : List Frame} {meth : Method} {c : Code} {T : State} {locs : List Loc} {cells slots : Nat}
theorem vx_callV (X : Stand p l e R s m args below meth c T locs cells slots) (hexec : p.tables.exec = Jvm.exec) {own C : String} {index : Nat} {y : MethodName} {bytes : ByteArray} {maxL : Nat} {ret : Option FieldType}
    (hown : s.vm.findClass own = some m.cls) (hlink : (Cond.methodLink own index y).before args s = true) (hinst : (Cond.instanceMethod y).before args s = true) (hsel : (Cond.selects C y y).before args s = true)
    (hcode : (Cond.code y bytes maxL ret).before args s = true) (hy : y.cls ≠ "java/lang/invoke/MethodHandle" ∧ y.cls ≠ "java/lang/invoke/VarHandle")
    {W9 : Nat} {Pre : Pt → Array Value → Prop} {Post : Pt → Array Value → Option Value → Pt → Prop} {PostX : Pt → Array Value → Addr → Pt → Prop} (hK : vx_Back l R p e below s args y 3 W9 Pre Post PostX)
    {b : Addr} {cellB : Cell} (hcell : T.heap[b]? = some cellB) (hobj : cellB.vm.isStatics = false) (hcls : s.vm.findClass C = some cellB.cls)
    {g : JFrame} (hg : g.method = m) (hsize : g.locals.size = c.maxLocals) {argsL rest : List Value} (hlen : ∀ sig, parseMethodDescriptor y.desc = some sig → argsL.length = sig.parameters.length)
    (hstack : g.stack = argsL.reverse ++ .ref b :: rest) (hW : 2 * g.monitorRoom + (rest.map fun v => v.category).sum ≤ W9) (hdg : decode c.code g.pc = .ok (.invokevirtual index, 3))
    (hpre : ∀ vm₁, s.WarmedH vm₁ → Pre ⟨T.setVm vm₁, locs, cells, slots⟩ (Value.ref b :: argsL).toArray) :
    (∃ (v : Option Value) (vm₁ : Vm) (B : Pt), s.WarmedH vm₁ ∧ Stand p l e R s m args below meth c B.U B.locs B.cells B.slots ∧ Post ⟨T.setVm vm₁, locs, cells, slots⟩ (Value.ref b :: argsL).toArray v B ∧
      ∀ target, Steps p.tables e below (B.U.setTop { g with pc := g.pc + 3, stack := v.toList ++ rest }) target → Steps p.tables e below (T.setTop g) target) ∨
    (∃ (q : Addr) (vm₁ : Vm) (B : Pt), s.WarmedH vm₁ ∧ Stand p l e R s m args below meth c B.U B.locs B.cells B.slots ∧ PostX ⟨T.setVm vm₁, locs, cells, slots⟩ (Value.ref b :: argsL).toArray q B ∧
      Steps p.tables e below (T.setTop g) ((B.U.setTop { g with stack := rest }).pushFrame (.throwing q))) := by
  obtain ⟨mk, methM, hnamed, hmethM, hstM, habM⟩ := Cond.instanceMethod_spec hinst
  obtain ⟨methM₉, cM, hmethM', -, -, -, -, -, -, hsigM⟩ := Cond.code_spec hnamed hcode
  cases hmethM.symm.trans hmethM'
  obtain ⟨c2, r2, m2, q1, q2, q3, q4, kP, hkP, hkPi⟩ := Cond.selects_spec hsel
  cases hcls.symm.trans q1
  cases (State.methodFound?_of_named hnamed hy).symm.trans q2
  cases hnamed.symm.trans q3
  have hselP : selectMethod e.platform s.vm cellB.cls mk = .method mk := by rw [Launch.admits_selectMethod X.admits]; exact q4
  obtain ⟨vm₁, X₁, hstep₁⟩ := X.invokevirtual hexec hown hlink hnamed hmethM hstM hkP hkPi hy (a := b) (cell := cellB) hcell
    (fun z h => by rw [h] at hobj; cases hobj) hselP hmethM habM hkP hkPi (g := g) hg (argsL := argsL) (rest := rest) (hlen _ hsigM) hstack hdg
  rcases hK m meth c ⟨T.setVm vm₁, locs, cells, slots⟩ { g with stack := rest } (.invokevirtual index) mk (Value.ref b :: argsL).toArray X₁ hg hsize hdg hW (X₁.named hnamed) (hpre vm₁ X₁.warmed) with ⟨v, B, X₉, hpost, hsteps⟩ | ⟨q, B, X₉, hpost, hsteps⟩
  · exact Or.inl ⟨v, vm₁, B, X₁.warmed, X₉, hpost, fun target h => hstep₁ _ fun acts => by rw [doInvoke_state]; exact hsteps.trans h⟩
  · exact Or.inr ⟨q, vm₁, B, X₁.warmed, X₉, hpost, hstep₁ _ fun acts => by rw [doInvoke_state]; exact hsteps⟩
end Calls
theorem vx_cls {s : State} {T : State} {vm₁ : Vm} {E : String} {k : ClassId} (hW : s.WarmedH vm₁) (h : (T.setVm vm₁).vm.findClass E = some k) : s.vm.findClass E = some k := by
  have h1 : vm₁.findClass E = some k := h
  rw [hW.alike.findClass] at h1
  exact h1
/-- the method's frame g, with q thrown over it -/
def vx_W (p : Program) (l : Launch) (e : Env) (R : Room) (s : State) (m : MethodId) (args : Array Value) (below : List Frame) (meth : Method) (c : Code) (H : Heap) (locs : List Loc) (cells slots : Nat) (Q : State → Prop) (g : JFrame) (q : Addr) : Prop :=
  ∀ T : State, T.heap = H → Stand p l e R s m args below meth c T locs cells slots → ∃ t, Steps p.tables e below ((T.setTop g).pushFrame (.throwing q)) t ∧ Q t
def vx_Run (p : Program) (l : Launch) (e : Env) (R : Room) (s : State) (m : MethodId) (args : Array Value) (below : List Frame) (meth : Method) (c : Code) (H : Heap) (locs : List Loc) (cells slots mc ms : Nat) (g : JFrame) (rest : List Value) (Qa : State → Outcome → State → Prop) (XC : String → State → State → Prop) (free : Addr → Prop) : Prop :=
  ∀ T : State, T.heap = H → Stand p l e R s m args below meth c T locs cells slots →
    (∃ (v : Option Value) (st₀ t T₉ : State) (L : List Loc), st₀.heap = H ∧ Stand p l e R s m args below meth c T₉ (locs ++ L) (cells + mc) (slots + ms) ∧ (∀ q ∈ L, free q.base) ∧ T₉.heap = t.heap ∧ T₉.vm = t.vm ∧ Qa st₀ (.returned v) t ∧
      Goes p e below T g T₉ { g with pc := g.pc + 3, stack := v.toList ++ rest }) ∨
    (∃ (q : Addr) (st₀ t T₉ : State) (L : List Loc) (E : String) (ce : Cell), st₀.heap = H ∧ Stand p l e R s m args below meth c T₉ (locs ++ L) (cells + mc) (slots + ms) ∧ (∀ z ∈ L, free z.base) ∧ T₉.heap = t.heap ∧ T₉.vm = t.vm ∧ XC E st₀ t ∧ t.heap[q]? = some ce ∧ ce.vm = .none ∧ s.vm.findClass E = some ce.cls ∧
      Steps p.tables e below (T.setTop g) ((T₉.setTop { g with stack := rest }).pushFrame (.throwing q)))
section Runs
variable {p : Program} {l : Launch} {e : Env} {R : Room} {s : State} {m : MethodId} {args : Array Value} {below : List Frame} {meth : Method} {c : Code} {H : Heap} {locs : List Loc} {cells slots : Nat}
variable {y : MethodName} {bytes cc : ByteArray} {maxL nL mc ms n index : Nat} {ret : Option FieldType} {ws : List Cond} {rm : Room} {Pc : Array Value → State → Prop} {Qc : Array Value → State → Outcome → State → Prop} {XC : String → State → State → Prop} {free : Addr → Prop} {Ts : List Cond} {own C : String} {b : Addr} {As rest : List Value} {g : JFrame}
theorem vx_callBack (cb : CallB R s args own index y bytes maxL ret ws rm mc ms n) (hM : vx_Met l y ws rm Pc Qc XC mc ms free) (hbl : FrameBlind Pc) : vx_Back l R p e below s args y 3 8 (PreOf R mc ms Pc) (PostOf Qc mc ms free) (vx_Post XC mc ms free) := by
  obtain ⟨hrc, hrs, hfr, hlo, hws, hcw, -, hini, -⟩ := cb
  exact vx_back (bytes := bytes) (maxL := maxL) (ret := ret) hM hbl hrc hrs hfr hlo hws hcw (fun a₉ U hW => word_at hW (Or.inl (by first | rfl | simp [Cond.onTables, Cond.keeps, Cond.steady])) hini)
theorem vx_runV (S : CallFix p m c cc nL s args Ts own) (hM : vx_Met l y ws rm Pc Qc XC mc ms free) (cw : CallW R s args own C index y bytes maxL ret ws rm mc ms n) (hp : PreV s H C b Pc As)
    (hg : g.method = m) (hn : As.length = n) (hsize : g.locals.size = nL) (hstack : g.stack = As.reverse ++ .ref b :: rest) (hW : 2 * g.monitorRoom + (rest.map fun v => v.category).sum ≤ 8) (hdg : decode cc g.pc = .ok (.invokevirtual index, 3)) (hf : cells + mc ≤ R.cells ∧ slots + ms ≤ R.slots) :
    vx_Run p l e R s m args below meth c H locs cells slots mc ms g rest (Qc (Value.ref b :: As).toArray) XC free := by
  have hK : vx_Back l R p e below s args y 3 8 (PreOf R mc ms Pc) (PostOf Qc mc ms free) (vx_Post XC mc ms free) := vx_callBack cw.1 hM hp.1
  obtain ⟨⟨-, -, -, -, -, -, hcode, -, hy, hlen, hl⟩, hin, hse⟩ := cw
  obtain ⟨hx, hb, hml, ho, -⟩ := S
  obtain ⟨-, ⟨cellB, hcB, hoB, hclB⟩, hPc⟩ := hp
  intro T hT X
  rcases vx_callV X hx (C := C) (bytes := bytes) (maxL := maxL) (ret := ret) ho hl hin hse hcode hy hK (by rw [hT]; exact hcB) hoB hclB hg (hsize.trans hml.symm) (argsL := As) (rest := rest) (fun sig h => hn.trans (hlen sig h)) hstack hW (by rw [hb]; exact hdg)
    (fun vm₁ hW₁ => ⟨hf.1, hf.2, hPc (T.setVm vm₁) hT hW₁⟩) with ⟨v, vm₁, ⟨U₉, l2, c2, s2⟩, hW₁, X₉, ⟨g₉, mk, t, L, e1, e2, hq, h1, hL, h2, h3⟩, st⟩ | ⟨q, vm₁, ⟨U₉, l2, c2, s2⟩, hW₁, X₉, ⟨g₉, mk, t, L, E, ce, e1, e2, hq, hce, hcv, hcl, h1, hL, h2, h3⟩, st⟩
  · dsimp only [Pt.U, Pt.locs, Pt.cells, Pt.slots] at X₉ e1 e2 h1 h2 h3 st
    subst h1; subst h2; subst h3
    exact Or.inl ⟨v, (T.setVm vm₁).calling g₉ mk (Value.ref b :: As).toArray, t, U₉, L, hT, X₉, hL, e1, e2, hq, st⟩
  · dsimp only [Pt.U, Pt.locs, Pt.cells, Pt.slots] at X₉ e1 e2 h1 h2 h3 st hcl
    subst h1; subst h2; subst h3
    exact Or.inr ⟨q, (T.setVm vm₁).calling g₉ mk (Value.ref b :: As).toArray, t, U₉, L, E, ce, hT, X₉, hL, e1, e2, hq, hce, hcv, vx_cls hW₁ hcl, st⟩
end Runs
section Rows
variable {p : Program} {l : Launch} {e : Env} {R : Room} {s : State} {m : MethodId} {args : Array Value} {below : List Frame} {meth : Method} {c : Code} {H : Heap} {locs : List Loc} {cells slots : Nat} {Q : State → Prop}
variable {mc ms : Nat} {free : Addr → Prop} {A0 A1 : Nat → Prop} {H0 : Heap} {a : Array Value} {pc : Nat} {ls : Array Slot} {st0 rest : List Value}
end Rows
section Ends
variable {p : Program} {l : Launch} {e : Env} {R : Room} {s : State} {m : MethodId} {args : Array Value} {below : List Frame} {meth : Method} {c : Code} {H : Heap} {locs : List Loc} {cells slots : Nat} {Q : State → Prop}
variable {mc ms : Nat} {free : Addr → Prop} {A0 A1 : Nat → Prop} {H0 : Heap} {a : Array Value} {ls : Array Slot} {st0 rest : List Value}
variable {Qc : Array Value → State → Outcome → State → Prop} {XC : String → State → State → Prop}
/-- what a body that may throw owes at its end -/
def vx_MQ (below : List Frame) (Qc : Array Value → State → Outcome → State → Prop) (XC : String → State → State → Prop) (a : Array Value) (s : State) (mc ms : Nat) (free : Addr → Prop) : State → Prop := fun t =>
  ∃ o, t.status = .running ∧ Ended t below o ∧ vx_Q Qc XC mc ms free a s o t
theorem vx_out {pc : Nat} {E : String} {ce : Cell} {q : Addr} {mc ms : Nat} (hout : ∀ x ∈ c.exceptionTable.toList, covers x pc = false) (hlocks : meth.locks = false) (hcell : H[q]? = some ce) (hv : ce.vm = .none) (hcl : s.vm.findClass E = some ce.cls)
    (hx : ∀ t : State, t.heap = H → s.vm.Alike t.vm → XC E s t) (hf : ∀ z ∈ locs, free z.base) (hc : cells ≤ mc) (hs : slots ≤ ms) :
    vx_W p l e R s m args below meth c H locs cells slots (vx_MQ below Qc XC args s mc ms free) (F0 m pc ls rest) q := by
  intro T hT X
  obtain ⟨st1, hrun, hend, hW, hsm⟩ := X.leaveThrown q (g := F0 m pc ls rest) rfl rfl rfl hout hlocks
  have hcell9 : (T.setFrames (.throwing q :: below)).heap[q]? = some ce := by
    show T.heap[q]? = some ce
    rw [hT]; exact hcell
  exact ⟨_, st1, .threw q, hrun, hend, Or.inr ⟨q, rfl, E, ce, locs, hx _ hT hW.alike, hcell9, hv, hcl, hW, hsm.mono hc hs, hf⟩⟩
theorem vx_frame {U : State} {k n : Nat} (h : s.sameButNew ({ U with vm := s.vm } : State) locs k n) : s.heap.size ≤ U.heap.size ∧ ∀ q : Nat, q < s.heap.size → (∀ z ∈ locs, z.base ≠ q) → U.heap[q]? = s.heap[q]? := by
  obtain ⟨-, h2, -, -, -, h6⟩ := h
  refine ⟨h2, fun q hq hz => ?_⟩
  obtain ⟨c9, e1, e2, e3, e4⟩ := h6 q _ (Array.getElem?_eq_getElem hq)
  have hs : c9.slots = (s.heap[q]).slots := Array.ext_getElem? fun i => e4 i fun hm => hz _ hm rfl
  have h9 : c9 = s.heap[q] := by
    rw [hs] at e2
    exact e2
  have e5 : U.heap[q]? = some c9 := e1
  rw [e5, h9, Array.getElem?_eq_getElem hq]
/-- the words of a throw but the four that speak of the heap -/
def vx_no (w : Cond) : Bool := decide (w ≠ .isRef (.static Bundle.tN "UNASSIGNED_STACK" Bundle.steD)) && decide (w ≠ .isRef (.static Bundle.tN "SUPPRESSED_SENTINEL" Bundle.listD)) && decide (w ≠ .laysStatic Bundle.tN "UNASSIGNED_STACK" Bundle.steD) && decide (w ≠ .laysStatic Bundle.tN "SUPPRESSED_SENTINEL" Bundle.listD)
def vx_at0 (own : String) (ic : Nat) (X : String) (names : List String) : List Cond := (Bundle.ownAtoms0 own ic X names).filter vx_no
/-- a word that the tables alone decide, or a good one -/
def vx_ot (w : Cond) : Bool := w.onTables || goodWord w
theorem vx_ot_at {args a₉ : Array Value} {s U : State} {w : Cond} (hW : s.WarmedH U.vm) (hvm : s.vm = U.vm) (hg : vx_ot w = true) (h : w.before args s = true) : w.before a₉ U = true := by
  simp only [vx_ot, Bool.or_eq_true] at hg
  rcases hg with hg | hg
  · exact va_tabs hg hvm h
  · exact word_at hW (good_of_word hg) h
theorem vx_own {args : Array Value} {s : State} {L : List Cond} (h1 : ∀ w ∈ L.filter vx_no, w.before args s = true)
    (hU : (Cond.isRef (.static Bundle.tN "UNASSIGNED_STACK" Bundle.steD)).before args s = true) (hN : (Cond.isRef (.static Bundle.tN "SUPPRESSED_SENTINEL" Bundle.listD)).before args s = true)
    (lU : (Cond.laysStatic Bundle.tN "UNASSIGNED_STACK" Bundle.steD).before args s = true) (lN : (Cond.laysStatic Bundle.tN "SUPPRESSED_SENTINEL" Bundle.listD).before args s = true) : ∀ w ∈ L, w.before args s = true := by
  intro w hw
  by_cases e1 : w = .isRef (.static Bundle.tN "UNASSIGNED_STACK" Bundle.steD)
  · rw [e1]; exact hU
  · by_cases e2 : w = .isRef (.static Bundle.tN "SUPPRESSED_SENTINEL" Bundle.listD)
    · rw [e2]; exact hN
    · by_cases e3 : w = .laysStatic Bundle.tN "UNASSIGNED_STACK" Bundle.steD
      · rw [e3]; exact lU
      · by_cases e4 : w = .laysStatic Bundle.tN "SUPPRESSED_SENTINEL" Bundle.listD
        · rw [e4]; exact lN
        · exact h1 w (List.mem_filter.mpr ⟨hw, by unfold vx_no; rw [decide_eq_true e1, decide_eq_true e2, decide_eq_true e3, decide_eq_true e4]; rfl⟩)
/-- where a static field lies, its class's statics cell in H -/
def vx_L (C n d : String) (A : Nat → Prop) (U : State) (H : Heap) : Prop := ∃ (c : ClassId) (k : Class) (i : Nat) (f : Field) (a : Nat) (cell : Cell), U.vm.findClass C = some c ∧ U.fieldFound? C n d = some (c, k, i, f) ∧ f.isStatic = true ∧ k.statics = some a ∧ H[a]? = some cell ∧ cell.vm.isStatics = true ∧ cell.cls = c ∧ f.slot < cell.slots.size ∧ k.staticTypes[f.slot]? = some f.type ∧ ¬ A a
theorem vx_L.moved {C n d : String} {A : Nat → Prop} {u U : State} {H : Heap} (hvm : u.vm.Alike U.vm) (h : vx_L C n d A u H) : vx_L C n d A U H := by
  obtain ⟨c, k, i, f, a, cell, h1, h2, h3, h4, h5, h6, h7, h8, h9, h10⟩ := h
  obtain ⟨k₉, hi₉, he⟩ := State.fieldFound?_setVm hvm h2
  exact ⟨c, k₉, i, f, a, cell, by rw [hvm.findClass]; exact h1, hi₉, h3, by rw [he]; exact h4, h5, h6, h7, h8, by rw [he]; exact h9, h10⟩
theorem vx_L.kept {C n d : String} {A : Nat → Prop} {U : State} {H H1 : Heap} (h : vx_L C n d A U H) (hq : ∀ a : Nat, a < H.size → ¬ A a → H1[a]? = H[a]?) : vx_L C n d A U H1 := by
  obtain ⟨c, k, i, f, a, cell, h1, h2, h3, h4, h5, h6, h7, h8, h9, h10⟩ := h
  exact ⟨c, k, i, f, a, cell, h1, h2, h3, h4, by rw [hq a (Array.getElem?_eq_some_iff.mp h5).1 h10]; exact h5, h6, h7, h8, h9, h10⟩
theorem vx_L.narrow {C n d : String} {A B : Nat → Prop} {U : State} {H : Heap} (h : vx_L C n d A U H) (hAB : ∀ q, B q → A q) : vx_L C n d B U H := by
  obtain ⟨c, k, i, f, a, cell, h1, h2, h3, h4, h5, h6, h7, h8, h9, h10⟩ := h
  exact ⟨c, k, i, f, a, cell, h1, h2, h3, h4, h5, h6, h7, h8, h9, fun z => h10 (hAB _ z)⟩
theorem vx_L.word {C n d : String} {A : Nat → Prop} {s : State} {args : Array Value} (h : vx_L C n d A s s.heap) : (Cond.laysStatic C n d).before args s = true := by
  obtain ⟨c, k, i, f, a, cell, h1, h2, h3, h4, h5, h6, h7, h8, h9, -⟩ := h
  show (Cond.laysStatic C n d).holds args s none s [] = true
  exact Cond.laysStatic_of h1 h2 h3 h4 h5 h6 h7 h8 h9
/-- .. and what it holds: null or some reference -/
def vx_Zq (C n d : String) (A : Nat → Prop) (U : State) (H : Heap) : Prop := va_Zq C n d A U H ∧ vx_L C n d A U H
theorem vx_Zq.moved {C n d : String} {A : Nat → Prop} {u U : State} {H : Heap} (hvm : u.vm.Alike U.vm) (h : vx_Zq C n d A u H) : vx_Zq C n d A U H := ⟨va_Zq.moved hvm h.1, vx_L.moved hvm h.2⟩
theorem vx_Zq.kept {C n d : String} {A : Nat → Prop} {U : State} {H H1 : Heap} (h : vx_Zq C n d A U H) (hq : ∀ a : Nat, a < H.size → ¬ A a → H1[a]? = H[a]?) : vx_Zq C n d A U H1 := ⟨va_Zq.kept h.1 hq, vx_L.kept h.2 hq⟩
theorem vx_Zq.narrow {C n d : String} {A B : Nat → Prop} {U : State} {H : Heap} (h : vx_Zq C n d A U H) (hAB : ∀ q, B q → A q) : vx_Zq C n d B U H := ⟨va_Zq.narrow h.1 hAB, vx_L.narrow h.2 hAB⟩
theorem vx_Zqof {args : Array Value} {s : State} {C n d : String} {A : Nat → Prop} (hl : (Cond.laysStatic C n d).before args s = true) (hini : (Cond.initialized C).before args s = true) (h : (Cond.isRef (.static C n d)).before args s = true) (hA : ∀ a : Nat, a < s.heap.size → ¬ A a) : vx_Zq C n d A s s.heap := by
  refine ⟨va_Zqof hl hini h hA, ?_⟩
  obtain ⟨c, k, i, f, a, cell, h1, h2, h3, h4, h5, h6, h7, h8, h9⟩ := Cond.laysStatic_spec hl
  exact ⟨c, k, i, f, a, cell, h1, h2, h3, h4, h5, h6, h7, h8, h9, hA a (Array.getElem?_eq_some_iff.mp h5).1⟩
theorem vx_isRef {C n d : String} {v : Value} {A : Nat → Prop} {s : State} {args : Array Value} (h : va_Z C n d v A s s.heap) (hv : v.isRef = true) : (Cond.isRef (.static C n d)).before args s = true := by
  obtain ⟨cf, kf, fi, f, a, cell, h1, h2, h3, h4, h5, h6, h7, -⟩ := h
  have he : (Term.static C n d).eval args s none [] s = some v := by
    simp [Term.eval, State.fieldNamed?, h1, h2, h4, h5, h6, h7]
  simp only [Cond.before, Cond.holds, Cond.value, he]
  cases v <;> simp_all [Value.isRef]
theorem vx_isRefq {C n d : String} {A : Nat → Prop} {s : State} {args : Array Value} (h : va_Zq C n d A s s.heap) : (Cond.isRef (.static C n d)).before args s = true := by
  rcases h with h | ⟨t, h⟩
  · exact vx_isRef h rfl
  · exact vx_isRef h rfl
/-- the same frame, seen from here: as if the method were called anew in this heap -/
theorem vx_rebase {T : State} (X : Stand p l e R s m args below meth c T locs cells slots) {R' : Room} (hf : R'.frames ≤ R.frames) (hl : R'.locals ≤ R.locals) (hc : cells + R'.cells ≤ R.cells) (hs : slots + R'.slots ≤ R.slots) :
    Stand p l e R' ((T.setVm s.vm).setFrames (.invoking m args :: below)) m args below meth c T [] 0 0 := by
  have htop : (T.setVm s.vm).topJava?.isSome := X.here.top
  have hF : ((T.setVm s.vm).setFrames (.invoking m args :: below)).frames = .invoking m args :: below := State.frames_setFrames _ (State.cur_lt_of_top htop)
  obtain ⟨g₀, hg0⟩ := Option.isSome_iff_exists.mp htop
  obtain ⟨r, hr⟩ := State.topJava?_eq_some.mp hg0
  have hl9 : e.platform.stackLimits (T.setVm s.vm).me = e.platform.stackLimits s.me := X.limits
  have hb9 : (T.setVm s.vm).me.stackBytes = s.me.stackBytes := X.bytes
  refine ⟨X.admits, X.cas, X.clock, hF, ?_, X.hears, X.method, X.code, X.here, X.tail, X.warmed, ?_, ?_, ?_⟩
  · have h := X.room
    have hU : ((T.setVm s.vm).setFrames (.invoking m args :: below)).localsInUse = s.localsInUse := by
      rw [State.localsInUse_invoking hF (meth := meth) (c := c) X.method X.code, State.localsInUse_invoking X.frames X.method X.code]
    simp only [State.hasRoom, Bool.and_eq_true, decide_eq_true_eq] at h ⊢
    obtain ⟨⟨⟨⟨h1, h2, h3, h4, h5, h6⟩, h7⟩, h8⟩, h9⟩ := h
    rw [X.frames, List.length_cons] at h2 h3
    have q1 := X.heapSize
    have q2 := X.used
    simp only [hF, hU, List.length_cons, State.stackLimits_setFrames, State.stackBytes_setFrames, hl9, hb9]
    refine ⟨⟨⟨⟨by omega, by omega, by omega, by omega, by omega, h6⟩, ?_⟩, ?_⟩, X.book⟩
    · show T.heap.size + R'.cells ≤ e.platform.maxCells
      omega
    · show T.slotsUsed + R'.slots ≤ e.platform.maxSlots
      omega
  · rw [State.stackLimits_setFrames]; rfl
  · rw [State.stackBytes_setFrames]; rfl
  · refine ⟨?_, Nat.le_refl _, Nat.le_refl _, ?_, ?_, fun a c9 h9 => ⟨c9, h9, rfl, rfl, fun _ _ => rfl⟩⟩
    · obtain ⟨t, ht, -⟩ := State.frames_cons hr
      show T.setVm s.vm = { ((T.setVm s.vm).setFrames (.invoking m args :: below)).setFrames (T.setVm s.vm).frames with heap := T.heap, slotsUsed := T.slotsUsed }
      rw [State.setFrames_setFrames, State.setFrames_self ht]
      rfl
    · show T.slotsUsed = T.slotsUsed + ((T.heap.toList.drop T.heap.size).map (·.slots.size)).sum
      rw [List.drop_eq_nil_of_le (Nat.le_of_eq Array.length_toList)]
      rfl
    · show ((T.heap.toList.drop T.heap.size).map (·.slots.size)).sum ≤ 0
      rw [List.drop_eq_nil_of_le (Nat.le_of_eq Array.length_toList)]
      exact Nat.le_refl _
/-- 'throw new E()': new; dup; invokespecial; athrow -/
theorem vx_throw0 {cc : ByteArray} {pc : Nat} (hexec : p.tables.exec = Jvm.exec) (hb : c.code = cc) (hl : l.stackTraces = false) {own cls : String} {names : List String} {ik ic mc ms : Nat} {A : Nat → Prop}
    (hown : s.vm.findClass own = some m.cls) (hcls : Bundle.fit cls = true) (hnames : ∀ n ∈ names, Bundle.fit n = true)
    (hk : (Cond.classLink own ik cls).before args s = true) (hini : (Cond.initialized cls).before args s = true) (hat : ∀ w ∈ vx_at0 own ic cls names, w.before args s = true)
    (hgood : ∀ w ∈ Cond.classLink own ik cls :: Cond.initialized cls :: vx_at0 own ic cls names, vx_ot w = true)
    (hU : vx_Zq Bundle.tN "UNASSIGNED_STACK" Bundle.steD A s s.heap) (hN : vx_Zq Bundle.tN "SUPPRESSED_SENTINEL" Bundle.listD A s s.heap) (hS : va_S A s.heap H locs) (hsize : ls.size = c.maxLocals)
    (d0 : decode cc pc = .ok (.new ik, 3)) (d3 : decode cc (pc + 3) = .ok (.dup, 1)) (d4 : decode cc (pc + 4) = .ok (.invokespecial ic, 3)) (d7 : decode cc (pc + 7) = .ok (.athrow, 1))
    (hout : ∀ x ∈ c.exceptionTable.toList, covers x (pc + 7) = false)
    (hRframes : names.length + 3 < R.frames) (hRlocals : (rest.map fun v => v.category).sum + (13 * (names.length + 1) + 42) ≤ R.locals) (hRcells : cells + 1 ≤ R.cells) (hRslots : slots + 6 ≤ R.slots) (hlocks : meth.locks = false)
    (hx : ∀ t : State, s.vm.Alike t.vm → H.size ≤ t.heap.size → (∀ q : Nat, q < H.size → t.heap[q]? = H[q]?) → XC cls s t)
    (hf : ∀ z ∈ locs, free z.base) (hc : cells + 1 ≤ mc) (hs : slots + 6 ≤ ms) :
    W p l e R s m args below meth c H locs cells slots (vx_MQ below Qc XC args s mc ms free) (F0 m pc ls rest) := by
  intro T hT X
  have htr : e.platform.stackTraces = false := (show e.platform.stackTraces = l.stackTraces by rw [X.admits.platform]).trans hl
  have Y := vx_rebase X (R' := { frames := R.frames, locals := R.locals, cells := 1, slots := 6 }) (Nat.le_refl _) (Nat.le_refl _) hRcells hRslots
  obtain ⟨s₉, hA⟩ : ∃ z, z = (T.setVm s.vm).setFrames (.invoking m args :: below) := ⟨_, rfl⟩
  rw [← hA] at Y
  have hvm : s₉.vm = s.vm := by rw [hA]; rfl
  have hhp : s₉.heap = H := by rw [hA]; exact hT
  have hW0 : s.WarmedH s₉.vm := by rw [hvm]; exact State.WarmedH.refl s
  have hat₉ : ∀ w ∈ vx_at0 own ic cls names, w.before args s₉ = true := fun w hw => vx_ot_at hW0 hvm.symm (hgood w (List.mem_cons_of_mem _ (List.mem_cons_of_mem _ hw))) (hat w hw)
  have hk₉ : (Cond.classLink own ik cls).before args s₉ = true := vx_ot_at hW0 hvm.symm (hgood _ List.mem_cons_self) hk
  have hini₉ : (Cond.initialized cls).before args s₉ = true := vx_ot_at hW0 hvm.symm (hgood _ (List.mem_cons_of_mem _ List.mem_cons_self)) hini
  have hU₉ : vx_Zq Bundle.tN "UNASSIGNED_STACK" Bundle.steD A s₉ s₉.heap := by rw [hhp]; exact vx_Zq.moved hW0.alike (hU.kept hS.2.1)
  have hN₉ : vx_Zq Bundle.tN "SUPPRESSED_SENTINEL" Bundle.listD A s₉ s₉.heap := by rw [hhp]; exact vx_Zq.moved hW0.alike (hN.kept hS.2.1)
  have h : ∀ w ∈ Bundle.ownAtoms0 own ic cls names, w.before args s₉ = true := vx_own hat₉ (vx_isRefq hU₉.1) (vx_isRefq hN₉.1) hU₉.2.word hN₉.2.word
  have hown₉ : s₉.vm.findClass own = some m.cls := by rw [hvm]; exact hown
  have hins : (Cond.instantiable cls 6).before args s₉ = true := h _ (by simp [Bundle.ownAtoms0])
  obtain ⟨vm₁, cX, kX, hfX, hkX, -, -, X₁, st1⟩ := Y.newCold hexec (own := own) (C := cls) (index := ik) (n := 6) hown₉ hk₉ hins hini₉
    (g := F0 m pc ls rest) rfl (by rw [hb]; exact d0) (Nat.le_refl _) (Nat.le_refl _)
  generalize hT1 : (T.setVm vm₁).pushCell { cls := cX, slots := kX.instanceTypes.map defaultValue, vm := .none } = T1 at X₁ st1
  have hcat : (Value.ref T.heap.size).category = 1 := rfl
  have hcellA : T1.heap[T.heap.size]? = some (freshCell cX kX) := by rw [← hT1]; exact State.heap_pushCell_size _ _
  have d3₉ : decode c.code (pc + 3) = .ok (.dup, 1) := by rw [hb]; exact d3
  obtain ⟨U, hsteps, hrun, hend, hW, hsame, ce, hce, hO⟩ := X₁.ctorThrow0 hexec htr (own := own) (cls := cls) (names := names) (ic := ic) hown₉ hcls hnames h (fun x hx => nomatch hx) hfX hkX hcellA (by rw [hhp, hT]; exact Nat.le_refl _)
    (g := { method := m, pc := pc + 4, locals := ls, stack := .ref T.heap.size :: .ref T.heap.size :: rest, locked := none }) rfl hsize rfl rfl (rest := rest) rfl
    (by rw [hb]; exact d4) (by rw [hb]; exact d7) hout hRframes (by simp only [List.map_cons, List.sum_cons, hcat]; omega) hlocks
  obtain ⟨f1, f2⟩ := vx_frame hsame
  rw [hhp] at f1 f2
  have hWs : s.WarmedH U.vm := State.WarmedH.trans hW0 hW
  have hcl : s.vm.findClass cls = some ce.cls := by
    have h9 := hO.cls
    rw [hvm] at h9
    exact h9
  have hall : s.sameButNew ({ U with vm := s.vm } : State) locs mc ms := by
    subst hA
    obtain ⟨e1, e2⟩ := hsame
    rw [State.setFrames_setFrames] at e1
    have h2 : (T.setVm s.vm).sameButNew ({ U with vm := s.vm } : State) [] (0 + 1) (0 + 6) := ⟨e1, e2⟩
    have h3 := X.same.trans h2
    rw [List.append_nil] at h3
    exact h3.mono hc hs
  refine ⟨U, ?_, .threw T.heap.size, hrun, hend, Or.inr ⟨T.heap.size, rfl, cls, ce, locs, hx U hWs.alike f1 (fun q hq => f2 q hq (fun z hz => nomatch hz)), hce, hO.vm, hcl, hWs, hall, hf⟩⟩
  refine st1 _ ?_
  show Steps p.tables e below (T1.setTop { method := m, pc := pc + 3, locals := ls, stack := .ref T.heap.size :: rest, locked := none }) _
  jvm_step X₁.here [X₁.here.top, hexec, d3₉, Value.category]
  exact hsteps
end Ends
section Bodies
variable {l : Launch}
theorem vx_ofW {y : MethodName} {ws ws₉ : List Cond} {rm : Room} {Pc : Array Value → State → Prop} {Qc : Array Value → State → Outcome → State → Prop} {XC : String → State → State → Prop} {mc ms : Nat} {free : Addr → Prop} {cc : ByteArray} {maxL : Nat} {ret : Option FieldType}
    (hy : plainName y.cls = true) (hw : ws = Cond.code y cc maxL ret :: ws₉)
    (body : ∀ p e s m args below meth c s₁, BodyLoose p l y (headSpec ws rm) cc maxL ret e s m args below meth c s₁ → c.maxLocals = maxL → (∀ x ∈ c.exceptionTable.toList, False) → Pc args s →
      W p l e (headSpec ws rm).room s m args below meth c s.heap [] 0 0 (vx_MQ below Qc XC args s mc ms free) (entryFrame m args maxL)) : vx_Met l y ws rm Pc Qc XC mc ms free := by
  refine MetFree.of_bodyS (code := cc) (maxLocals := maxL) (ret := ret) hy ?_ ?_
  · intro args s m h hn
    obtain ⟨meth, c, h1, h2, h3, h4, h5, h6, -, -⟩ := Cond.code_spec hn (atoms_spec (ws := ws) h _ (by rw [hw]; exact List.mem_cons_self))
    exact ⟨meth, c, h1, h2, h3, h4, h5, h6⟩
  · intro p e s m args below meth c s₁ B hml hP _
    have hh0 : s₁.heap = s.heap := by rw [B.state]; rfl
    have ht : ∀ x ∈ c.exceptionTable.toList, False := by
      obtain ⟨meth9, c9, h1, h2, -, -, -, -, h7, -⟩ := Cond.code_spec B.named (atoms_spec (ws := ws) B.pre _ (by rw [hw]; exact List.mem_cons_self))
      cases Option.some.inj (h1.symm.trans B.method)
      cases Option.some.inj (h2.symm.trans (Stand.of_body B).code)
      intro x hx
      rw [Array.isEmpty_iff.mp h7] at hx
      cases hx
    obtain ⟨t, a1, o, b1, b2, b3⟩ := body p e s m args below meth c s₁ B hml ht hP s₁ hh0 (Stand.of_body B)
    exact ⟨t, o, a1, b1, b2, b3⟩
/-- the table of a body with handlers -/
theorem vx_table {p : Program} {x y : MethodName} {S : Spec} {cc bytes : ByteArray} {maxL maxL₉ : Nat} {ret ret₉ : Option FieldType} {e : Env} {s s₁ : State} {m : MethodId} {args : Array Value} {below : List Frame} {meth : Method} {c : Code} {hh : List (Nat × Nat × Nat × Nat)}
    (B : BodyLoose p l y S cc maxL ret e s m args below meth c s₁) (h : (Cond.codeWith y bytes maxL₉ ret₉ hh).before args s = true) : c.exceptionTable.toList = tableOf hh := by
  obtain ⟨m9, meth9, c9, hn9, h1, h2, -, -, h6, -⟩ := Cond.codeWith_spec h
  cases Option.some.inj (hn9.symm.trans B.named)
  cases Option.some.inj (h1.symm.trans B.method)
  cases Option.some.inj (h2.symm.trans (Stand.of_body B).code)
  rw [← h6, table_eq]
end Bodies
end VXA
/-! ===== END ===== -/
/-! ===== BEGIN a static call of a method with an exception table ===== -/
section VXS
variable {p : Program} {l : Launch} {e : Env} {R : Room} {s : State} {m : MethodId} {args : Array Value} {below : List Frame} {meth : Method} {c : Code} {T : State} {H : Heap} {locs : List Loc} {cells slots : Nat}
abbrev vx_CSW (R : Room) (s : State) (args : Array Value) (own : String) (index : Nat) (y : MethodName) (bytes : ByteArray) (maxL : Nat) (ret : Option FieldType) (hh : List (Nat × Nat × Nat × Nat)) (ws : List Cond) (rm : Room) (mc ms n : Nat) : Prop :=
  (rm.cells = mc ∧ rm.slots = ms ∧ rm.frames + 1 ≤ R.frames ∧ 8 + (maxL + 11) + rm.locals ≤ R.locals ∧ (∀ w ∈ ws, ∀ (a₉ : Array Value) (U : State), s.WarmedH U.vm → w.before a₉ U = true) ∧ Cond.codeWith y bytes maxL ret hh ∈ ws) ∧
  (Cond.codeWith y bytes maxL ret hh).before args s = true ∧ (Cond.initialized y.cls).before args s = true ∧ (y.cls ≠ "java/lang/invoke/MethodHandle" ∧ y.cls ≠ "java/lang/invoke/VarHandle") ∧
  (∀ sig, parseMethodDescriptor y.desc = some sig → n = sig.parameters.length) ∧ (Cond.methodLink own index y).before args s = true ∧ (Cond.static y).before args s = true
theorem vx_callSW (X : Stand p l e R s m args below meth c T locs cells slots) (hexec : p.tables.exec = Jvm.exec) {own : String} {index : Nat} {y : MethodName} {bytes : ByteArray} {maxL : Nat} {ret : Option FieldType} {hh : List (Nat × Nat × Nat × Nat)}
    (hown : s.vm.findClass own = some m.cls) (hlink : (Cond.methodLink own index y).before args s = true) (hstat : (Cond.static y).before args s = true) (hinit : (Cond.initialized y.cls).before args s = true)
    (hcode : (Cond.codeWith y bytes maxL ret hh).before args s = true) (hy : y.cls ≠ "java/lang/invoke/MethodHandle" ∧ y.cls ≠ "java/lang/invoke/VarHandle")
    {W9 : Nat} {Pre : Pt → Array Value → Prop} {Post : Pt → Array Value → Option Value → Pt → Prop} (hK : Back l R p e below s args y 3 W9 Pre Post)
    {g : JFrame} (hg : g.method = m) (hsize : g.locals.size = c.maxLocals) {argsL rest : List Value} (hlen : ∀ sig, parseMethodDescriptor y.desc = some sig → argsL.length = sig.parameters.length)
    (hstack : g.stack = argsL.reverse ++ rest) (hW : 2 * g.monitorRoom + (rest.map fun v => v.category).sum ≤ W9) (hdg : decode c.code g.pc = .ok (.invokestatic index, 3))
    (hpre : ∀ vm₁, s.WarmedH vm₁ → Pre ⟨T.setVm vm₁, locs, cells, slots⟩ argsL.toArray) :
    ∃ (v : Option Value) (vm₁ : Vm) (B : Pt), s.WarmedH vm₁ ∧ Stand p l e R s m args below meth c B.U B.locs B.cells B.slots ∧ Post ⟨T.setVm vm₁, locs, cells, slots⟩ argsL.toArray v B ∧
      ∀ target, Steps p.tables e below (B.U.setTop { g with pc := g.pc + 3, stack := v.toList ++ rest }) target → Steps p.tables e below (T.setTop g) target := by
  obtain ⟨mk, methM, cM, hnamed, hmethM, -, -, -, -, -, -, hsigM⟩ := Cond.codeWith_spec hcode
  have hstatic : methM.isStatic = true := Cond.static_spec hnamed hmethM hstat
  obtain ⟨kP, hkP, -⟩ := className_of_methodNamed hnamed
  have hinitP : kP.init = .initialized := Cond.initialized_spec (findClass_of_methodNamed hnamed) hkP hinit
  obtain ⟨vm₁, X₁, hstep₁⟩ := X.invokestatic hexec hown hlink hnamed hmethM hstatic hkP hinitP hy (g := g) hg (argsL := argsL) (rest := rest) (hlen _ hsigM) hstack hdg
  obtain ⟨v, B, X₉, hpost, hsteps⟩ := hK m meth c ⟨T.setVm vm₁, locs, cells, slots⟩ { g with stack := rest } (.invokestatic index) mk argsL.toArray X₁ hg hsize hdg hW (X₁.named hnamed) (hpre vm₁ X₁.warmed)
  exact ⟨v, vm₁, B, X₁.warmed, X₉, hpost, fun target h => hstep₁ _ fun acts => by rw [doInvoke_state]; exact hsteps.trans h⟩
theorem vx_runSW {y : MethodName} {bytes cc : ByteArray} {maxL nL mc ms n index : Nat} {ret : Option FieldType} {hh : List (Nat × Nat × Nat × Nat)} {ws : List Cond} {rm : Room} {Pc : Array Value → State → Prop} {Qc : Array Value → State → Outcome → State → Prop} {free : Addr → Prop} {Ts : List Cond} {own : String} {As rest : List Value} {g : JFrame}
    (S : CallFix p m c cc nL s args Ts own) (hM : Met l y ws rm Pc Qc mc ms free) (cw : vx_CSW R s args own index y bytes maxL ret hh ws rm mc ms n) (hp : PreS s H Pc As)
    (hg : g.method = m) (hn : As.length = n) (hsize : g.locals.size = nL) (hstack : g.stack = As.reverse ++ rest) (hW : 2 * g.monitorRoom + (rest.map fun v => v.category).sum ≤ 8) (hdg : decode cc g.pc = .ok (.invokestatic index, 3)) (hf : cells + mc ≤ R.cells ∧ slots + ms ≤ R.slots) :
    va_Run p l e R s m args below meth c H locs cells slots mc ms g rest (Qc As.toArray) (free) := by
  obtain ⟨⟨hrc, hrs, hfr, hlo, hws, hcw⟩, hcode, hini, hy, hlen, hl, hstt⟩ := cw
  have hK : Back l R p e below s args y 3 8 (PreOf R mc ms Pc) (PostOf Qc mc ms free) := va_backW (hh := hh) (bytes := bytes) (maxL := maxL) (ret := ret) hM hp.1 hrc hrs hfr hlo hws hcw (fun a₉ U hW => word_at hW (Or.inl (by first | rfl | simp [Cond.onTables, Cond.keeps, Cond.steady])) hini)
  obtain ⟨hx, hb, hml, ho, -⟩ := S
  intro T hT X
  obtain ⟨v, vm₁, ⟨U₉, l2, c2, s2⟩, hW₁, X₉, ⟨g₉, mk, t, L, e1, e2, hq, h1, hL, h2, h3⟩, st⟩ := vx_callSW X hx (hh := hh) (bytes := bytes) (maxL := maxL) (ret := ret) ho hl hstt hini hcode hy hK hg (hsize.trans hml.symm) (argsL := As) (rest := rest) (fun sig h => hn.trans (hlen sig h)) hstack hW (by rw [hb]; exact hdg)
    (fun vm₁ hW₁ => ⟨hf.1, hf.2, hp.2 (T.setVm vm₁) hT hW₁⟩)
  dsimp only [Pt.U, Pt.locs, Pt.cells, Pt.slots] at X₉ e1 e2 h1 h2 h3 st
  subst h1; subst h2; subst h3
  exact ⟨v, (T.setVm vm₁).calling g₉ mk As.toArray, t, U₉, L, hT, X₉, hL, e1, e2, hq, st⟩
end VXS
/-! ===== END ===== -/
/-! ===== BEGIN methods with a table of their own: called by a name, returning or throwing ===== -/
section VXH
section
variable {l : Launch} {R : Room} {p : Program} {e : Env} {below : List Frame} {s : State} {sargs : Array Value} {y : MethodName} {len W9 : Nat}
end
variable {p : Program} {l : Launch} {e : Env} {R : Room} {s : State} {m : MethodId} {args : Array Value} {below : List Frame} {meth : Method} {c : Code} {T : State} {H : Heap} {locs : List Loc} {cells slots : Nat}
section
variable {y : MethodName} {bytes cc : ByteArray} {maxL nL mc ms n index : Nat} {ret : Option FieldType} {ws : List Cond} {rm : Room} {Pc : Array Value → State → Prop} {Qc : Array Value → State → Outcome → State → Prop} {XC : String → State → State → Prop} {free : Addr → Prop} {Ts : List Cond} {own C : String} {b : Addr} {As rest : List Value} {g : JFrame}
end
end VXH
/-! ===== END ===== -/

def RX0 : String := "CollectorHouse$Ages"
def TX0 : u_T := fun k => match k with
  | 0 => ("CollectorHouse$Collector", "store", "LCollectorHouse$Store;", true)
  | 1 => ("CollectorHouse$Collector", "walk", "LCollectorHouse$Walk;", true)
  | 2 => ("CollectorHouse$Ages", "young", "I", false)
  | 3 => ("CollectorHouse$Ages", "old", "I", false)
  | 4 => ("CollectorHouse$Ages", "lastAge", "I", false)
  | 5 => ("CollectorHouse$Ages", "card", "I", false)
  | 6 => ("CollectorHouse$Ages", "oldTop", "I", false)
  | 7 => ("CollectorHouse$Ages", "start", "I", false)
  | 8 => ("CollectorHouse$Ages", "top", "I", false)
  | _ => ("CollectorHouse$Ages", "dirty", "[I", true)
def tyX0 : Nat → FieldType := fun k => match k with
  | 0 => .object "CollectorHouse$Store"
  | 1 => .object "CollectorHouse$Walk"
  | 2 => .int
  | 3 => .int
  | 4 => .int
  | 5 => .int
  | 6 => .int
  | 7 => .int
  | 8 => .int
  | _ => .array .int
theorem nmX0 : ∀ a, a < 10 → ∀ b, b < 10 → a ≠ b → (TX0 a).2.1 ≠ (TX0 b).2.1 := by decide +kernel
theorem tyX0_ok : ∀ k, k < 10 → parseFieldDescriptor (TX0 k).2.2.1 = some (tyX0 k) := by decide +kernel
abbrev cX0_init : ByteArray := prog_2_method_1_code
def yX0_init : MethodName := ⟨RX0, "<init>", "(LCollectorHouse$Store;LCollectorHouse$Walk;)V"⟩
abbrev cX0_open : ByteArray := prog_2_method_2_code
def yX0_open : MethodName := ⟨RX0, "open", "([I)V"⟩
abbrev cX0_total : ByteArray := prog_2_method_3_code
def yX0_total : MethodName := ⟨RX0, "total", "()I"⟩
abbrev cX0_findRoom : ByteArray := prog_2_method_4_code
def yX0_findRoom : MethodName := ⟨RX0, "findRoom", "(I)I"⟩
abbrev cX0_findOldRoom : ByteArray := prog_2_method_5_code
def yX0_findOldRoom : MethodName := ⟨RX0, "findOldRoom", "(I)I"⟩
abbrev cX0_hasYoungRoom : ByteArray := prog_2_method_6_code
def yX0_hasYoungRoom : MethodName := ⟨RX0, "hasYoungRoom", "(I)Z"⟩
abbrev cX0_noteMade : ByteArray := prog_2_method_7_code
def yX0_noteMade : MethodName := ⟨RX0, "noteMade", "(LCollectorHouse$Thing;)V"⟩
abbrev cX0_cleanAll : ByteArray := prog_2_method_8_code
def yX0_cleanAll : MethodName := ⟨RX0, "cleanAll", "()I"⟩
abbrev cX0_cleanOld : ByteArray := prog_2_method_9_code
def yX0_cleanOld : MethodName := ⟨RX0, "cleanOld", "()I"⟩
abbrev cX0_cleanYoung : ByteArray := prog_2_method_10_code
def yX0_cleanYoung : MethodName := ⟨RX0, "cleanYoung", "()I"⟩
abbrev cX0_wordsGrowingOld : ByteArray := prog_2_method_11_code
def yX0_wordsGrowingOld : MethodName := ⟨RX0, "wordsGrowingOld", "()I"⟩
abbrev cX0_comeFromDirty : ByteArray := prog_2_method_12_code
def yX0_comeFromDirty : MethodName := ⟨RX0, "comeFromDirty", "()V"⟩
abbrev cX0_comeFromDirtyWords : ByteArray := prog_2_method_13_code
def yX0_comeFromDirtyWords : MethodName := ⟨RX0, "comeFromDirtyWords", "(LCollectorHouse$Thing;)V"⟩
abbrev cX0_moveKept : ByteArray := prog_2_method_14_code
def yX0_moveKept : MethodName := ⟨RX0, "moveKept", "()V"⟩
abbrev cX0_moveOlder : ByteArray := prog_2_method_15_code
def yX0_moveOlder : MethodName := ⟨RX0, "moveOlder", "(LCollectorHouse$Thing;)V"⟩
abbrev cX0_findDirty : ByteArray := prog_2_method_16_code
def yX0_findDirty : MethodName := ⟨RX0, "findDirty", "()V"⟩
abbrev cX0_isYoung : ByteArray := prog_2_method_17_code
def yX0_isYoung : MethodName := ⟨RX0, "isYoung", "(LCollectorHouse$Thing;)Z"⟩
abbrev cX0_cardOf : ByteArray := prog_2_method_18_code
def yX0_cardOf : MethodName := ⟨RX0, "cardOf", "(LCollectorHouse$Thing;I)I"⟩
abbrev cX0_noteReference : ByteArray := prog_2_method_19_code
def yX0_noteReference : MethodName := ⟨RX0, "noteReference", "(LCollectorHouse$Thing;ILCollectorHouse$Thing;)V"⟩
abbrev cX0_canHold : ByteArray := prog_2_method_20_code
def yX0_canHold : MethodName := ⟨RX0, "canHold", "(LCollectorHouse$Thing;)Z"⟩
abbrev cX0_specials : ByteArray := prog_2_method_21_code
def yX0_specials : MethodName := ⟨RX0, "specials", "()I"⟩
abbrev cX0_topPlace : ByteArray := prog_2_method_22_code
def yX0_topPlace : MethodName := ⟨RX0, "topPlace", "()I"⟩
abbrev cX0_oldTopOrRegion : ByteArray := prog_2_method_23_code
def yX0_oldTopOrRegion : MethodName := ⟨RX0, "oldTopOrRegion", "()I"⟩
def RX1 : String := "CollectorHouse$Collector"
abbrev cX1_init : ByteArray := prog_3_method_1_code
def yX1_init : MethodName := ⟨RX1, "<init>", "(LCollectorHouse$Store;LCollectorHouse$Walk;)V"⟩
abbrev cX1_noteChange : ByteArray := prog_3_method_7_code
def yX1_noteChange : MethodName := ⟨RX1, "noteChange", "(LCollectorHouse$Thing;LCollectorHouse$Thing;)V"⟩
abbrev cX1_noteFewer : ByteArray := prog_3_method_8_code
def yX1_noteFewer : MethodName := ⟨RX1, "noteFewer", "(LCollectorHouse$Thing;)V"⟩
abbrev cX1_noteReference : ByteArray := prog_3_method_9_code
def yX1_noteReference : MethodName := ⟨RX1, "noteReference", "(LCollectorHouse$Thing;ILCollectorHouse$Thing;)V"⟩
abbrev cX1_noteStrong : ByteArray := prog_3_method_10_code
def yX1_noteStrong : MethodName := ⟨RX1, "noteStrong", "(LCollectorHouse$Thing;)V"⟩
abbrev cX1_canHold : ByteArray := prog_3_method_11_code
def yX1_canHold : MethodName := ⟨RX1, "canHold", "(LCollectorHouse$Thing;)Z"⟩
abbrev cX1_countOf : ByteArray := prog_3_method_12_code
def yX1_countOf : MethodName := ⟨RX1, "countOf", "(LCollectorHouse$Thing;)I"⟩
abbrev cX1_colourOf : ByteArray := prog_3_method_13_code
def yX1_colourOf : MethodName := ⟨RX1, "colourOf", "(LCollectorHouse$Thing;)I"⟩
abbrev cX1_specials : ByteArray := prog_3_method_14_code
def yX1_specials : MethodName := ⟨RX1, "specials", "()I"⟩
abbrev cX1_topPlace : ByteArray := prog_3_method_15_code
def yX1_topPlace : MethodName := ⟨RX1, "topPlace", "()I"⟩
abbrev cX1_isMarking : ByteArray := prog_3_method_16_code
def yX1_isMarking : MethodName := ⟨RX1, "isMarking", "()Z"⟩
abbrev cX1_oldTopOrRegion : ByteArray := prog_3_method_17_code
def yX1_oldTopOrRegion : MethodName := ⟨RX1, "oldTopOrRegion", "()I"⟩
abbrev cX1_removeUnreached : ByteArray := prog_3_method_18_code
def yX1_removeUnreached : MethodName := ⟨RX1, "removeUnreached", "()I"⟩
abbrev cX1_slideDown : ByteArray := prog_3_method_19_code
def yX1_slideDown : MethodName := ⟨RX1, "slideDown", "(I)I"⟩
def RX2 : String := "CollectorHouse$Counts"
def TX2 : u_T := fun k => match k with
  | 0 => ("CollectorHouse$Sweep", "room", "I", false)
  | 1 => ("CollectorHouse$Sweep", "form", "I", false)
  | 2 => ("CollectorHouse$Sweep", "lastEnd", "I", false)
  | 3 => ("CollectorHouse$Collector", "store", "LCollectorHouse$Store;", true)
  | 4 => ("CollectorHouse$Collector", "walk", "LCollectorHouse$Walk;", true)
  | 5 => ("CollectorHouse$Counts", "going", "[LCollectorHouse$Thing;", true)
  | 6 => ("CollectorHouse$Counts", "nextWord", "[I", true)
  | _ => ("CollectorHouse$Counts", "depth", "I", false)
def tyX2 : Nat → FieldType := fun k => match k with
  | 0 => .int
  | 1 => .int
  | 2 => .int
  | 3 => .object "CollectorHouse$Store"
  | 4 => .object "CollectorHouse$Walk"
  | 5 => .array (.object "CollectorHouse$Thing")
  | 6 => .array .int
  | _ => .int
theorem nmX2 : ∀ a, a < 8 → ∀ b, b < 8 → a ≠ b → (TX2 a).2.1 ≠ (TX2 b).2.1 := by decide +kernel
theorem tyX2_ok : ∀ k, k < 8 → parseFieldDescriptor (TX2 k).2.2.1 = some (tyX2 k) := by decide +kernel
abbrev cX2_init : ByteArray := prog_4_method_1_code
def yX2_init : MethodName := ⟨RX2, "<init>", "(LCollectorHouse$Store;LCollectorHouse$Walk;)V"⟩
abbrev cX2_countOf : ByteArray := prog_4_method_2_code
def yX2_countOf : MethodName := ⟨RX2, "countOf", "(LCollectorHouse$Thing;)I"⟩
abbrev cX2_noteFewer : ByteArray := prog_4_method_3_code
def yX2_noteFewer : MethodName := ⟨RX2, "noteFewer", "(LCollectorHouse$Thing;)V"⟩
abbrev cX2_dropWord : ByteArray := prog_4_method_4_code
def yX2_dropWord : MethodName := ⟨RX2, "dropWord", "(LCollectorHouse$Thing;I)V"⟩
abbrev cX2_fallIfUncounted : ByteArray := prog_4_method_5_code
def yX2_fallIfUncounted : MethodName := ⟨RX2, "fallIfUncounted", "(LCollectorHouse$Thing;)V"⟩
def RX3 : String := "CollectorHouse$Halves"
def TX3 : u_T := fun k => match k with
  | 0 => ("CollectorHouse$Collector", "store", "LCollectorHouse$Store;", true)
  | 1 => ("CollectorHouse$Collector", "walk", "LCollectorHouse$Walk;", true)
  | 2 => ("CollectorHouse$Halves", "room", "I", false)
  | 3 => ("CollectorHouse$Halves", "start", "I", false)
  | _ => ("CollectorHouse$Halves", "top", "I", false)
def tyX3 : Nat → FieldType := fun k => match k with
  | 0 => .object "CollectorHouse$Store"
  | 1 => .object "CollectorHouse$Walk"
  | 2 => .int
  | 3 => .int
  | _ => .int
theorem nmX3 : ∀ a, a < 5 → ∀ b, b < 5 → a ≠ b → (TX3 a).2.1 ≠ (TX3 b).2.1 := by decide +kernel
theorem tyX3_ok : ∀ k, k < 5 → parseFieldDescriptor (TX3 k).2.2.1 = some (tyX3 k) := by decide +kernel
abbrev cX3_init : ByteArray := prog_5_method_1_code
def yX3_init : MethodName := ⟨RX3, "<init>", "(LCollectorHouse$Store;LCollectorHouse$Walk;)V"⟩
abbrev cX3_open : ByteArray := prog_5_method_2_code
def yX3_open : MethodName := ⟨RX3, "open", "([I)V"⟩
abbrev cX3_total : ByteArray := prog_5_method_3_code
def yX3_total : MethodName := ⟨RX3, "total", "()I"⟩
abbrev cX3_findRoom : ByteArray := prog_5_method_4_code
def yX3_findRoom : MethodName := ⟨RX3, "findRoom", "(I)I"⟩
abbrev cX3_hasRoom : ByteArray := prog_5_method_5_code
def yX3_hasRoom : MethodName := ⟨RX3, "hasRoom", "(I)Z"⟩
abbrev cX3_noteMade : ByteArray := prog_5_method_6_code
def yX3_noteMade : MethodName := ⟨RX3, "noteMade", "(LCollectorHouse$Thing;)V"⟩
abbrev cX3_cleanAll : ByteArray := prog_5_method_7_code
def yX3_cleanAll : MethodName := ⟨RX3, "cleanAll", "()I"⟩
abbrev cX3_canHold : ByteArray := prog_5_method_8_code
def yX3_canHold : MethodName := ⟨RX3, "canHold", "(LCollectorHouse$Thing;)Z"⟩
abbrev cX3_topPlace : ByteArray := prog_5_method_9_code
def yX3_topPlace : MethodName := ⟨RX3, "topPlace", "()I"⟩
def RX4 : String := "CollectorHouse$Regions"
def TX4 : u_T := fun k => match k with
  | 0 => ("CollectorHouse$Collector", "store", "LCollectorHouse$Store;", true)
  | 1 => ("CollectorHouse$Collector", "walk", "LCollectorHouse$Walk;", true)
  | 2 => ("CollectorHouse$Regions", "size", "I", false)
  | 3 => ("CollectorHouse$Regions", "regions", "I", false)
  | 4 => ("CollectorHouse$Regions", "share", "I", false)
  | 5 => ("CollectorHouse$Regions", "present", "I", false)
  | 6 => ("CollectorHouse$Regions", "target", "I", false)
  | 7 => ("CollectorHouse$Regions", "tops", "[I", true)
  | _ => ("CollectorHouse$Regions", "leaving", "[I", true)
def tyX4 : Nat → FieldType := fun k => match k with
  | 0 => .object "CollectorHouse$Store"
  | 1 => .object "CollectorHouse$Walk"
  | 2 => .int
  | 3 => .int
  | 4 => .int
  | 5 => .int
  | 6 => .int
  | 7 => .array .int
  | _ => .array .int
theorem nmX4 : ∀ a, a < 9 → ∀ b, b < 9 → a ≠ b → (TX4 a).2.1 ≠ (TX4 b).2.1 := by decide +kernel
theorem tyX4_ok : ∀ k, k < 9 → parseFieldDescriptor (TX4 k).2.2.1 = some (tyX4 k) := by decide +kernel
abbrev cX4_init : ByteArray := prog_6_method_1_code
def yX4_init : MethodName := ⟨RX4, "<init>", "(LCollectorHouse$Store;LCollectorHouse$Walk;)V"⟩
abbrev cX4_open : ByteArray := prog_6_method_2_code
def yX4_open : MethodName := ⟨RX4, "open", "([I)V"⟩
abbrev cX4_total : ByteArray := prog_6_method_3_code
def yX4_total : MethodName := ⟨RX4, "total", "()I"⟩
abbrev cX4_findRoom : ByteArray := prog_6_method_4_code
def yX4_findRoom : MethodName := ⟨RX4, "findRoom", "(I)I"⟩
abbrev cX4_fits : ByteArray := prog_6_method_5_code
def yX4_fits : MethodName := ⟨RX4, "fits", "(II)Z"⟩
abbrev cX4_topOf : ByteArray := prog_6_method_6_code
def yX4_topOf : MethodName := ⟨RX4, "topOf", "(I)I"⟩
abbrev cX4_raiseTop : ByteArray := prog_6_method_7_code
def yX4_raiseTop : MethodName := ⟨RX4, "raiseTop", "(II)V"⟩
abbrev cX4_orElse : ByteArray := prog_6_method_8_code
def yX4_orElse : MethodName := ⟨RX4, "orElse", "(II)I"⟩
abbrev cX4_leastEmpty : ByteArray := prog_6_method_9_code
def yX4_leastEmpty : MethodName := ⟨RX4, "leastEmpty", "()I"⟩
abbrev cX4_noteMade : ByteArray := prog_6_method_10_code
def yX4_noteMade : MethodName := ⟨RX4, "noteMade", "(LCollectorHouse$Thing;)V"⟩
abbrev cX4_cleanAll : ByteArray := prog_6_method_11_code
def yX4_cleanAll : MethodName := ⟨RX4, "cleanAll", "()I"⟩
abbrev cX4_regionOf : ByteArray := prog_6_method_12_code
def yX4_regionOf : MethodName := ⟨RX4, "regionOf", "(LCollectorHouse$Thing;)I"⟩
abbrev cX4_sumKept : ByteArray := prog_6_method_13_code
def yX4_sumKept : MethodName := ⟨RX4, "sumKept", "()V"⟩
abbrev cX4_emptyWhereNothingIsLeft : ByteArray := prog_6_method_14_code
def yX4_emptyWhereNothingIsLeft : MethodName := ⟨RX4, "emptyWhereNothingIsLeft", "()V"⟩
abbrev cX4_chooseLeaving : ByteArray := prog_6_method_15_code
def yX4_chooseLeaving : MethodName := ⟨RX4, "chooseLeaving", "()V"⟩
abbrev cX4_fewestLeaving : ByteArray := prog_6_method_16_code
def yX4_fewestLeaving : MethodName := ⟨RX4, "fewestLeaving", "()I"⟩
abbrev cX4_moveAll : ByteArray := prog_6_method_17_code
def yX4_moveAll : MethodName := ⟨RX4, "moveAll", "(I)Z"⟩
abbrev cX4_moveOut : ByteArray := prog_6_method_18_code
def yX4_moveOut : MethodName := ⟨RX4, "moveOut", "(LCollectorHouse$Thing;)Z"⟩
abbrev cX4_specials : ByteArray := prog_6_method_19_code
def yX4_specials : MethodName := ⟨RX4, "specials", "()I"⟩
abbrev cX4_topPlace : ByteArray := prog_6_method_20_code
def yX4_topPlace : MethodName := ⟨RX4, "topPlace", "()I"⟩
abbrev cX4_oldTopOrRegion : ByteArray := prog_6_method_21_code
def yX4_oldTopOrRegion : MethodName := ⟨RX4, "oldTopOrRegion", "()I"⟩
def RX5 : String := "CollectorHouse$Slide"
def TX5 : u_T := fun k => match k with
  | 0 => ("CollectorHouse$Collector", "store", "LCollectorHouse$Store;", true)
  | 1 => ("CollectorHouse$Collector", "walk", "LCollectorHouse$Walk;", true)
  | 2 => ("CollectorHouse$Slide", "room", "I", false)
  | _ => ("CollectorHouse$Slide", "top", "I", false)
def tyX5 : Nat → FieldType := fun k => match k with
  | 0 => .object "CollectorHouse$Store"
  | 1 => .object "CollectorHouse$Walk"
  | 2 => .int
  | _ => .int
theorem nmX5 : ∀ a, a < 4 → ∀ b, b < 4 → a ≠ b → (TX5 a).2.1 ≠ (TX5 b).2.1 := by decide +kernel
theorem tyX5_ok : ∀ k, k < 4 → parseFieldDescriptor (TX5 k).2.2.1 = some (tyX5 k) := by decide +kernel
abbrev cX5_init : ByteArray := prog_7_method_1_code
def yX5_init : MethodName := ⟨RX5, "<init>", "(LCollectorHouse$Store;LCollectorHouse$Walk;)V"⟩
abbrev cX5_open : ByteArray := prog_7_method_2_code
def yX5_open : MethodName := ⟨RX5, "open", "([I)V"⟩
abbrev cX5_total : ByteArray := prog_7_method_3_code
def yX5_total : MethodName := ⟨RX5, "total", "()I"⟩
abbrev cX5_findRoom : ByteArray := prog_7_method_4_code
def yX5_findRoom : MethodName := ⟨RX5, "findRoom", "(I)I"⟩
abbrev cX5_noteMade : ByteArray := prog_7_method_5_code
def yX5_noteMade : MethodName := ⟨RX5, "noteMade", "(LCollectorHouse$Thing;)V"⟩
abbrev cX5_cleanAll : ByteArray := prog_7_method_6_code
def yX5_cleanAll : MethodName := ⟨RX5, "cleanAll", "()I"⟩
abbrev cX5_topPlace : ByteArray := prog_7_method_7_code
def yX5_topPlace : MethodName := ⟨RX5, "topPlace", "()I"⟩
def RX6 : String := "CollectorHouse$Steps"
def TX6 : u_T := fun k => match k with
  | 0 => ("CollectorHouse$Sweep", "room", "I", false)
  | 1 => ("CollectorHouse$Sweep", "form", "I", false)
  | 2 => ("CollectorHouse$Sweep", "lastEnd", "I", false)
  | 3 => ("CollectorHouse$Collector", "store", "LCollectorHouse$Store;", true)
  | 4 => ("CollectorHouse$Collector", "walk", "LCollectorHouse$Walk;", true)
  | 5 => ("CollectorHouse$Steps", "marks", "LCollectorHouse$Walk;", true)
  | 6 => ("CollectorHouse$Steps", "rate", "I", false)
  | 7 => ("CollectorHouse$Steps", "barrier", "I", false)
  | _ => ("CollectorHouse$Steps", "marking", "Z", false)
def tyX6 : Nat → FieldType := fun k => match k with
  | 0 => .int
  | 1 => .int
  | 2 => .int
  | 3 => .object "CollectorHouse$Store"
  | 4 => .object "CollectorHouse$Walk"
  | 5 => .object "CollectorHouse$Walk"
  | 6 => .int
  | 7 => .int
  | _ => .boolean
theorem nmX6 : ∀ a, a < 9 → ∀ b, b < 9 → a ≠ b → (TX6 a).2.1 ≠ (TX6 b).2.1 := by decide +kernel
theorem tyX6_ok : ∀ k, k < 9 → parseFieldDescriptor (TX6 k).2.2.1 = some (tyX6 k) := by decide +kernel
abbrev cX6_init : ByteArray := prog_8_method_1_code
def yX6_init : MethodName := ⟨RX6, "<init>", "(LCollectorHouse$Store;LCollectorHouse$Walk;)V"⟩
abbrev cX6_open : ByteArray := prog_8_method_2_code
def yX6_open : MethodName := ⟨RX6, "open", "([I)V"⟩
abbrev cX6_findRoom : ByteArray := prog_8_method_3_code
def yX6_findRoom : MethodName := ⟨RX6, "findRoom", "(I)I"⟩
abbrev cX6_noteMade : ByteArray := prog_8_method_4_code
def yX6_noteMade : MethodName := ⟨RX6, "noteMade", "(LCollectorHouse$Thing;)V"⟩
abbrev cX6_cleanAll : ByteArray := prog_8_method_5_code
def yX6_cleanAll : MethodName := ⟨RX6, "cleanAll", "()I"⟩
abbrev cX6_goOn : ByteArray := prog_8_method_6_code
def yX6_goOn : MethodName := ⟨RX6, "goOn", "(I)I"⟩
abbrev cX6_begin : ByteArray := prog_8_method_7_code
def yX6_begin : MethodName := ⟨RX6, "begin", "()V"⟩
abbrev cX6_newsCame : ByteArray := prog_8_method_8_code
def yX6_newsCame : MethodName := ⟨RX6, "newsCame", "()Z"⟩
abbrev cX6_finish : ByteArray := prog_8_method_9_code
def yX6_finish : MethodName := ⟨RX6, "finish", "()I"⟩
abbrev cX6_noteChange : ByteArray := prog_8_method_10_code
def yX6_noteChange : MethodName := ⟨RX6, "noteChange", "(LCollectorHouse$Thing;LCollectorHouse$Thing;)V"⟩
abbrev cX6_noteStrong : ByteArray := prog_8_method_11_code
def yX6_noteStrong : MethodName := ⟨RX6, "noteStrong", "(LCollectorHouse$Thing;)V"⟩
abbrev cX6_colourOf : ByteArray := prog_8_method_12_code
def yX6_colourOf : MethodName := ⟨RX6, "colourOf", "(LCollectorHouse$Thing;)I"⟩
abbrev cX6_specials : ByteArray := prog_8_method_13_code
def yX6_specials : MethodName := ⟨RX6, "specials", "()I"⟩
abbrev cX6_isMarking : ByteArray := prog_8_method_14_code
def yX6_isMarking : MethodName := ⟨RX6, "isMarking", "()Z"⟩
def RX7 : String := "CollectorHouse$Store"
def TX7 : u_T := fun k => match k with
  | 0 => ("CollectorHouse$Store", "things", "[LCollectorHouse$Thing;", true)
  | 1 => ("CollectorHouse$Store", "words", "[I", true)
  | 2 => ("CollectorHouse$Store", "roots", "[I", true)
  | 3 => ("CollectorHouse$Store", "weaks", "[I", true)
  | 4 => ("CollectorHouse$Store", "wishes", "[I", true)
  | 5 => ("CollectorHouse$Store", "wishCount", "I", false)
  | 6 => ("CollectorHouse$Store", "given", "I", false)
  | 7 => ("CollectorHouse$Store", "live", "I", false)
  | 8 => ("CollectorHouse$Store", "used", "I", false)
  | 9 => ("CollectorHouse$Store", "cleanings", "I", false)
  | 10 => ("CollectorHouse$Store", "moved", "I", false)
  | 11 => ("CollectorHouse$Store", "freed", "I", false)
  | _ => ("CollectorHouse$Store", "looked", "I", false)
def tyX7 : Nat → FieldType := fun k => match k with
  | 0 => .array (.object "CollectorHouse$Thing")
  | 1 => .array .int
  | 2 => .array .int
  | 3 => .array .int
  | 4 => .array .int
  | 5 => .int
  | 6 => .int
  | 7 => .int
  | 8 => .int
  | 9 => .int
  | 10 => .int
  | 11 => .int
  | _ => .int
theorem nmX7 : ∀ a, a < 13 → ∀ b, b < 13 → a ≠ b → (TX7 a).2.1 ≠ (TX7 b).2.1 := by decide +kernel
theorem tyX7_ok : ∀ k, k < 13 → parseFieldDescriptor (TX7 k).2.2.1 = some (tyX7 k) := by decide +kernel
abbrev cX7_init : ByteArray := prog_9_method_1_code
def yX7_init : MethodName := ⟨RX7, "<init>", "()V"⟩
abbrev cX7_forgetAll : ByteArray := prog_9_method_2_code
def yX7_forgetAll : MethodName := ⟨RX7, "forgetAll", "()V"⟩
abbrev cX7_thingAt : ByteArray := prog_9_method_3_code
def yX7_thingAt : MethodName := ⟨RX7, "thingAt", "(I)LCollectorHouse$Thing;"⟩
abbrev cX7_thingFrom : ByteArray := prog_9_method_4_code
def yX7_thingFrom : MethodName := ⟨RX7, "thingFrom", "(I)LCollectorHouse$Thing;"⟩
abbrev cX7_add : ByteArray := prog_9_method_5_code
def yX7_add : MethodName := ⟨RX7, "add", "(LCollectorHouse$Thing;)V"⟩
abbrev cX7_wordOf : ByteArray := prog_9_method_6_code
def yX7_wordOf : MethodName := ⟨RX7, "wordOf", "(LCollectorHouse$Thing;I)I"⟩
abbrev cX7_changeInt : ByteArray := prog_9_method_7_code
def yX7_changeInt : MethodName := ⟨RX7, "changeInt", "(LCollectorHouse$Thing;II)I"⟩
abbrev cX7_referenceOf : ByteArray := prog_9_method_8_code
def yX7_referenceOf : MethodName := ⟨RX7, "referenceOf", "(LCollectorHouse$Thing;I)LCollectorHouse$Thing;"⟩
abbrev cX7_changeReference : ByteArray := prog_9_method_9_code
def yX7_changeReference : MethodName := ⟨RX7, "changeReference", "(LCollectorHouse$Thing;ILCollectorHouse$Thing;)LCollectorHouse$Thing;"⟩
abbrev cX7_changeRoot : ByteArray := prog_9_method_10_code
def yX7_changeRoot : MethodName := ⟨RX7, "changeRoot", "(ILCollectorHouse$Thing;)LCollectorHouse$Thing;"⟩
abbrev cX7_changeCounts : ByteArray := prog_9_method_11_code
def yX7_changeCounts : MethodName := ⟨RX7, "changeCounts", "(LCollectorHouse$Thing;LCollectorHouse$Thing;)V"⟩
abbrev cX7_changeHolds : ByteArray := prog_9_method_12_code
def yX7_changeHolds : MethodName := ⟨RX7, "changeHolds", "(LCollectorHouse$Thing;I)V"⟩
abbrev cX7_grant : ByteArray := prog_9_method_13_code
def yX7_grant : MethodName := ⟨RX7, "grant", "(LCollectorHouse$Thing;)V"⟩
abbrev cX7_takeWish : ByteArray := prog_9_method_14_code
def yX7_takeWish : MethodName := ⟨RX7, "takeWish", "()LCollectorHouse$Thing;"⟩
abbrev cX7_clearWeak : ByteArray := prog_9_method_15_code
def yX7_clearWeak : MethodName := ⟨RX7, "clearWeak", "(LCollectorHouse$Thing;)V"⟩
abbrev cX7_remove : ByteArray := prog_9_method_16_code
def yX7_remove : MethodName := ⟨RX7, "remove", "(LCollectorHouse$Thing;)V"⟩
abbrev cX7_freeWords : ByteArray := prog_9_method_17_code
def yX7_freeWords : MethodName := ⟨RX7, "freeWords", "(II)V"⟩
abbrev cX7_move : ByteArray := prog_9_method_18_code
def yX7_move : MethodName := ⟨RX7, "move", "(LCollectorHouse$Thing;I)V"⟩
abbrev cX7_grantWishes : ByteArray := prog_9_method_19_code
def yX7_grantWishes : MethodName := ⟨RX7, "grantWishes", "(LCollectorHouse$Walk;)V"⟩
abbrev cX7_removeOthers : ByteArray := prog_9_method_20_code
def yX7_removeOthers : MethodName := ⟨RX7, "removeOthers", "(LCollectorHouse$Walk;)I"⟩
def RX8 : String := "CollectorHouse$Sweep"
def TX8 : u_T := fun k => match k with
  | 0 => ("CollectorHouse$Collector", "store", "LCollectorHouse$Store;", true)
  | 1 => ("CollectorHouse$Collector", "walk", "LCollectorHouse$Walk;", true)
  | 2 => ("CollectorHouse$Sweep", "room", "I", false)
  | 3 => ("CollectorHouse$Sweep", "form", "I", false)
  | _ => ("CollectorHouse$Sweep", "lastEnd", "I", false)
def tyX8 : Nat → FieldType := fun k => match k with
  | 0 => .object "CollectorHouse$Store"
  | 1 => .object "CollectorHouse$Walk"
  | 2 => .int
  | 3 => .int
  | _ => .int
theorem nmX8 : ∀ a, a < 5 → ∀ b, b < 5 → a ≠ b → (TX8 a).2.1 ≠ (TX8 b).2.1 := by decide +kernel
theorem tyX8_ok : ∀ k, k < 5 → parseFieldDescriptor (TX8 k).2.2.1 = some (tyX8 k) := by decide +kernel
abbrev cX8_init : ByteArray := prog_10_method_1_code
def yX8_init : MethodName := ⟨RX8, "<init>", "(LCollectorHouse$Store;LCollectorHouse$Walk;)V"⟩
abbrev cX8_open : ByteArray := prog_10_method_2_code
def yX8_open : MethodName := ⟨RX8, "open", "([I)V"⟩
abbrev cX8_total : ByteArray := prog_10_method_3_code
def yX8_total : MethodName := ⟨RX8, "total", "()I"⟩
abbrev cX8_findRoom : ByteArray := prog_10_method_4_code
def yX8_findRoom : MethodName := ⟨RX8, "findRoom", "(I)I"⟩
abbrev cX8_noteMade : ByteArray := prog_10_method_5_code
def yX8_noteMade : MethodName := ⟨RX8, "noteMade", "(LCollectorHouse$Thing;)V"⟩
abbrev cX8_cleanAll : ByteArray := prog_10_method_6_code
def yX8_cleanAll : MethodName := ⟨RX8, "cleanAll", "()I"⟩
abbrev cX8_blockPlace : ByteArray := prog_10_method_7_code
def yX8_blockPlace : MethodName := ⟨RX8, "blockPlace", "(I)I"⟩
abbrev cX8_freeFrom : ByteArray := prog_10_method_8_code
def yX8_freeFrom : MethodName := ⟨RX8, "freeFrom", "(I)I"⟩
abbrev cX8_freeEnd : ByteArray := prog_10_method_9_code
def yX8_freeEnd : MethodName := ⟨RX8, "freeEnd", "(I)I"⟩
abbrev cX8_fit : ByteArray := prog_10_method_10_code
def yX8_fit : MethodName := ⟨RX8, "fit", "(I)I"⟩
abbrev cX8_fitFirst : ByteArray := prog_10_method_11_code
def yX8_fitFirst : MethodName := ⟨RX8, "fitFirst", "(III)I"⟩
abbrev cX8_fitNext : ByteArray := prog_10_method_12_code
def yX8_fitNext : MethodName := ⟨RX8, "fitNext", "(I)I"⟩
abbrev cX8_fitByLength : ByteArray := prog_10_method_13_code
def yX8_fitByLength : MethodName := ⟨RX8, "fitByLength", "(IZ)I"⟩
def RX9 : String := "CollectorHouse$Thing"
def TX9 : u_T := fun k => match k with
  | 0 => ("CollectorHouse$Thing", "number", "I", true)
  | 1 => ("CollectorHouse$Thing", "kind", "I", true)
  | 2 => ("CollectorHouse$Thing", "size", "I", true)
  | 3 => ("CollectorHouse$Thing", "references", "J", true)
  | 4 => ("CollectorHouse$Thing", "place", "I", false)
  | 5 => ("CollectorHouse$Thing", "age", "I", false)
  | 6 => ("CollectorHouse$Thing", "count", "I", false)
  | 7 => ("CollectorHouse$Thing", "holds", "I", false)
  | _ => ("CollectorHouse$Thing", "wished", "Z", false)
def tyX9 : Nat → FieldType := fun k => match k with
  | 0 => .int
  | 1 => .int
  | 2 => .int
  | 3 => .long
  | 4 => .int
  | 5 => .int
  | 6 => .int
  | 7 => .int
  | _ => .boolean
theorem nmX9 : ∀ a, a < 9 → ∀ b, b < 9 → a ≠ b → (TX9 a).2.1 ≠ (TX9 b).2.1 := by decide +kernel
theorem tyX9_ok : ∀ k, k < 9 → parseFieldDescriptor (TX9 k).2.2.1 = some (tyX9 k) := by decide +kernel
abbrev cX9_init : ByteArray := prog_11_method_1_code
def yX9_init : MethodName := ⟨RX9, "<init>", "(IIIJI)V"⟩
abbrev cX9_hasWord : ByteArray := prog_11_method_2_code
def yX9_hasWord : MethodName := ⟨RX9, "hasWord", "(I)Z"⟩
abbrev cX9_isReference : ByteArray := prog_11_method_3_code
def yX9_isReference : MethodName := ⟨RX9, "isReference", "(I)Z"⟩
def RX10 : String := "CollectorHouse$Walk"
def TX10 : u_T := fun k => match k with
  | 0 => ("CollectorHouse$Walk", "store", "LCollectorHouse$Store;", true)
  | 1 => ("CollectorHouse$Walk", "queue", "[I", true)
  | 2 => ("CollectorHouse$Walk", "colours", "[I", true)
  | 3 => ("CollectorHouse$Walk", "head", "I", false)
  | 4 => ("CollectorHouse$Walk", "tail", "I", false)
  | _ => ("CollectorHouse$Walk", "floor", "I", false)
def tyX10 : Nat → FieldType := fun k => match k with
  | 0 => .object "CollectorHouse$Store"
  | 1 => .array .int
  | 2 => .array .int
  | 3 => .int
  | 4 => .int
  | _ => .int
theorem nmX10 : ∀ a, a < 6 → ∀ b, b < 6 → a ≠ b → (TX10 a).2.1 ≠ (TX10 b).2.1 := by decide +kernel
theorem tyX10_ok : ∀ k, k < 6 → parseFieldDescriptor (TX10 k).2.2.1 = some (tyX10 k) := by decide +kernel
abbrev cX10_init : ByteArray := prog_12_method_1_code
def yX10_init : MethodName := ⟨RX10, "<init>", "(LCollectorHouse$Store;)V"⟩
abbrev cX10_restart : ByteArray := prog_12_method_2_code
def yX10_restart : MethodName := ⟨RX10, "restart", "(I)V"⟩
abbrev cX10_reachAll : ByteArray := prog_12_method_3_code
def yX10_reachAll : MethodName := ⟨RX10, "reachAll", "()V"⟩
abbrev cX10_keeps : ByteArray := prog_12_method_4_code
def yX10_keeps : MethodName := ⟨RX10, "keeps", "(LCollectorHouse$Thing;)Z"⟩
abbrev cX10_colourOf : ByteArray := prog_12_method_5_code
def yX10_colourOf : MethodName := ⟨RX10, "colourOf", "(LCollectorHouse$Thing;)I"⟩
abbrev cX10_blacken : ByteArray := prog_12_method_6_code
def yX10_blacken : MethodName := ⟨RX10, "blacken", "(LCollectorHouse$Thing;)V"⟩
abbrev cX10_comes : ByteArray := prog_12_method_7_code
def yX10_comes : MethodName := ⟨RX10, "comes", "(LCollectorHouse$Thing;)V"⟩
abbrev cX10_comeFromRoots : ByteArray := prog_12_method_8_code
def yX10_comeFromRoots : MethodName := ⟨RX10, "comeFromRoots", "()V"⟩
abbrev cX10_isEmpty : ByteArray := prog_12_method_9_code
def yX10_isEmpty : MethodName := ⟨RX10, "isEmpty", "()Z"⟩
abbrev cX10_thingInQueue : ByteArray := prog_12_method_10_code
def yX10_thingInQueue : MethodName := ⟨RX10, "thingInQueue", "(I)LCollectorHouse$Thing;"⟩
abbrev cX10_spread : ByteArray := prog_12_method_11_code
def yX10_spread : MethodName := ⟨RX10, "spread", "(I)I"⟩
def RX11 : String := "CollectorHouse"
def TX11 : u_T := fun k => match k with
  | 0 => ("CollectorHouse", "tape", "[B", true)
  | 1 => ("CollectorHouse", "tapeLength", "I", false)
  | 2 => ("CollectorHouse", "tokenStart", "I", false)
  | 3 => ("CollectorHouse", "tokenEnd", "I", false)
  | 4 => ("CollectorHouse", "told", "[I", true)
  | 5 => ("CollectorHouse", "kindWords", "[I", true)
  | 6 => ("CollectorHouse", "kindReferences", "[I", true)
  | 7 => ("CollectorHouse", "kinds", "I", false)
  | 8 => ("CollectorHouse", "store", "LCollectorHouse$Store;", true)
  | 9 => ("CollectorHouse", "walk", "LCollectorHouse$Walk;", true)
  | 10 => ("CollectorHouse", "collectors", "[LCollectorHouse$Collector;", true)
  | _ => ("CollectorHouse", "present", "LCollectorHouse$Collector;", false)
def tyX11 : Nat → FieldType := fun k => match k with
  | 0 => .array .byte
  | 1 => .int
  | 2 => .int
  | 3 => .int
  | 4 => .array .int
  | 5 => .array .int
  | 6 => .array .int
  | 7 => .int
  | 8 => .object "CollectorHouse$Store"
  | 9 => .object "CollectorHouse$Walk"
  | 10 => .array (.object "CollectorHouse$Collector")
  | _ => .object "CollectorHouse$Collector"
theorem nmX11 : ∀ a, a < 12 → ∀ b, b < 12 → a ≠ b → (TX11 a).2.1 ≠ (TX11 b).2.1 := by decide +kernel
theorem tyX11_ok : ∀ k, k < 12 → parseFieldDescriptor (TX11 k).2.2.1 = some (tyX11 k) := by decide +kernel
abbrev cX11_init : ByteArray := prog_1_method_1_code
def yX11_init : MethodName := ⟨RX11, "<init>", "()V"⟩
abbrev cX11_feed : ByteArray := prog_1_method_2_code
def yX11_feed : MethodName := ⟨RX11, "feed", "(IIIII)I"⟩
abbrev cX11_end : ByteArray := prog_1_method_3_code
def yX11_end : MethodName := ⟨RX11, "end", "(I)I"⟩
abbrev cX11_kind : ByteArray := prog_1_method_4_code
def yX11_kind : MethodName := ⟨RX11, "kind", "(II)I"⟩
abbrev cX11_heap : ByteArray := prog_1_method_5_code
def yX11_heap : MethodName := ⟨RX11, "heap", "()I"⟩
abbrev cX11_make : ByteArray := prog_1_method_6_code
def yX11_make : MethodName := ⟨RX11, "make", "(II)I"⟩
abbrev cX11_row : ByteArray := prog_1_method_7_code
def yX11_row : MethodName := ⟨RX11, "row", "(ZII)I"⟩
abbrev cX11_put : ByteArray := prog_1_method_8_code
def yX11_put : MethodName := ⟨RX11, "put", "(III)I"⟩
abbrev cX11_link : ByteArray := prog_1_method_9_code
def yX11_link : MethodName := ⟨RX11, "link", "(III)I"⟩
abbrev cX11_get : ByteArray := prog_1_method_10_code
def yX11_get : MethodName := ⟨RX11, "get", "(II)I"⟩
abbrev cX11_root : ByteArray := prog_1_method_11_code
def yX11_root : MethodName := ⟨RX11, "root", "(II)I"⟩
abbrev cX11_weak : ByteArray := prog_1_method_12_code
def yX11_weak : MethodName := ⟨RX11, "weak", "(II)I"⟩
abbrev cX11_strong : ByteArray := prog_1_method_13_code
def yX11_strong : MethodName := ⟨RX11, "strong", "(II)I"⟩
abbrev cX11_hold : ByteArray := prog_1_method_14_code
def yX11_hold : MethodName := ⟨RX11, "hold", "(IZ)I"⟩
abbrev cX11_wish : ByteArray := prog_1_method_15_code
def yX11_wish : MethodName := ⟨RX11, "wish", "(I)I"⟩
abbrev cX11_granted : ByteArray := prog_1_method_16_code
def yX11_granted : MethodName := ⟨RX11, "granted", "(I)I"⟩
abbrev cX11_clean : ByteArray := prog_1_method_17_code
def yX11_clean : MethodName := ⟨RX11, "clean", "()I"⟩
abbrev cX11_step : ByteArray := prog_1_method_18_code
def yX11_step : MethodName := ⟨RX11, "step", "(I)I"⟩
abbrev cX11_about : ByteArray := prog_1_method_19_code
def yX11_about : MethodName := ⟨RX11, "about", "(II)I"⟩
abbrev cX11_block : ByteArray := prog_1_method_20_code
def yX11_block : MethodName := ⟨RX11, "block", "(II)I"⟩
abbrev cX11_count : ByteArray := prog_1_method_21_code
def yX11_count : MethodName := ⟨RX11, "count", "(I)I"⟩
abbrev cX11_addBytes : ByteArray := prog_1_method_22_code
def yX11_addBytes : MethodName := ⟨RX11, "addBytes", "(I)V"⟩
abbrev cX11_readPolicy : ByteArray := prog_1_method_23_code
def yX11_readPolicy : MethodName := ⟨RX11, "readPolicy", "()I"⟩
abbrev cX11_nextToken : ByteArray := prog_1_method_24_code
def yX11_nextToken : MethodName := ⟨RX11, "nextToken", "()Z"⟩
abbrev cX11_policyToken : ByteArray := prog_1_method_25_code
def yX11_policyToken : MethodName := ⟨RX11, "policyToken", "()I"⟩
abbrev cX11_partsOf : ByteArray := prog_1_method_26_code
def yX11_partsOf : MethodName := ⟨RX11, "partsOf", "(I)Ljava/lang/String;"⟩
abbrev cX11_partToken : ByteArray := prog_1_method_27_code
def yX11_partToken : MethodName := ⟨RX11, "partToken", "(C)I"⟩
abbrev cX11_formToken : ByteArray := prog_1_method_28_code
def yX11_formToken : MethodName := ⟨RX11, "formToken", "()I"⟩
abbrev cX11_barrierToken : ByteArray := prog_1_method_29_code
def yX11_barrierToken : MethodName := ⟨RX11, "barrierToken", "()I"⟩
abbrev cX11_tokenIs : ByteArray := prog_1_method_30_code
def yX11_tokenIs : MethodName := ⟨RX11, "tokenIs", "(Ljava/lang/String;)Z"⟩
abbrev cX11_numberToken : ByteArray := prog_1_method_31_code
def yX11_numberToken : MethodName := ⟨RX11, "numberToken", "(II)I"⟩
abbrev cX11_isSlot : ByteArray := prog_1_method_32_code
def yX11_isSlot : MethodName := ⟨RX11, "isSlot", "(I)Z"⟩
abbrev cX11_numberOf : ByteArray := prog_1_method_33_code
def yX11_numberOf : MethodName := ⟨RX11, "numberOf", "(LCollectorHouse$Thing;)I"⟩
abbrev cX11_needCollector : ByteArray := prog_1_method_34_code
def yX11_needCollector : MethodName := ⟨RX11, "needCollector", "()LCollectorHouse$Collector;"⟩
abbrev cX11_needReached : ByteArray := prog_1_method_35_code
def yX11_needReached : MethodName := ⟨RX11, "needReached", "(I)LCollectorHouse$Thing;"⟩
abbrev cX11_needReachedOrNothing : ByteArray := prog_1_method_36_code
def yX11_needReachedOrNothing : MethodName := ⟨RX11, "needReachedOrNothing", "(I)LCollectorHouse$Thing;"⟩
abbrev cX11_addObject : ByteArray := prog_1_method_37_code
def yX11_addObject : MethodName := ⟨RX11, "addObject", "(IIJI)I"⟩
abbrev cX11_changeRoot : ByteArray := prog_1_method_38_code
def yX11_changeRoot : MethodName := ⟨RX11, "changeRoot", "(LCollectorHouse$Collector;ILCollectorHouse$Thing;)LCollectorHouse$Thing;"⟩
def RX12 : String := "CollectorHouseModel"
def TX12 : u_T := fun k => match k with
  | 0 => ("CollectorHouseModel", "thrown", "I", false)
  | 1 => ("CollectorHouseModel", "tape", "[B", true)
  | 2 => ("CollectorHouseModel", "source", "[B", true)
  | 3 => ("CollectorHouseModel", "taped", "I", false)
  | 4 => ("CollectorHouseModel", "length", "I", false)
  | 5 => ("CollectorHouseModel", "kindWords", "[I", true)
  | 6 => ("CollectorHouseModel", "kindReferences", "[I", true)
  | 7 => ("CollectorHouseModel", "kinds", "I", false)
  | 8 => ("CollectorHouseModel", "isHeap", "Z", false)
  | 9 => ("CollectorHouseModel", "isPicture", "Z", false)
  | 10 => ("CollectorHouseModel", "policy", "I", false)
  | 11 => ("CollectorHouseModel", "room", "I", false)
  | 12 => ("CollectorHouseModel", "form", "I", false)
  | 13 => ("CollectorHouseModel", "young", "I", false)
  | 14 => ("CollectorHouseModel", "old", "I", false)
  | 15 => ("CollectorHouseModel", "age", "I", false)
  | 16 => ("CollectorHouseModel", "card", "I", false)
  | 17 => ("CollectorHouseModel", "rate", "I", false)
  | 18 => ("CollectorHouseModel", "size", "I", false)
  | 19 => ("CollectorHouseModel", "share", "I", false)
  | 20 => ("CollectorHouseModel", "newPolicy", "I", false)
  | 21 => ("CollectorHouseModel", "newRoom", "I", false)
  | 22 => ("CollectorHouseModel", "newForm", "I", false)
  | 23 => ("CollectorHouseModel", "newYoung", "I", false)
  | 24 => ("CollectorHouseModel", "newOld", "I", false)
  | 25 => ("CollectorHouseModel", "newAge", "I", false)
  | 26 => ("CollectorHouseModel", "newCard", "I", false)
  | 27 => ("CollectorHouseModel", "newRate", "I", false)
  | 28 => ("CollectorHouseModel", "newSize", "I", false)
  | 29 => ("CollectorHouseModel", "newShare", "I", false)
  | 30 => ("CollectorHouseModel", "newPicture", "Z", false)
  | 31 => ("CollectorHouseModel", "used", "[Z", true)
  | 32 => ("CollectorHouseModel", "number", "[I", true)
  | 33 => ("CollectorHouseModel", "kind", "[I", true)
  | 34 => ("CollectorHouseModel", "words", "[I", true)
  | 35 => ("CollectorHouseModel", "at", "[I", true)
  | 36 => ("CollectorHouseModel", "ages", "[I", true)
  | 37 => ("CollectorHouseModel", "count", "[I", true)
  | 38 => ("CollectorHouseModel", "colour", "[I", true)
  | 39 => ("CollectorHouseModel", "holds", "[I", true)
  | 40 => ("CollectorHouseModel", "word", "[I", true)
  | 41 => ("CollectorHouseModel", "wish", "[Z", true)
  | 42 => ("CollectorHouseModel", "kept", "[Z", true)
  | 43 => ("CollectorHouseModel", "owner", "[I", true)
  | 44 => ("CollectorHouseModel", "objects", "I", false)
  | 45 => ("CollectorHouseModel", "wordsThere", "I", false)
  | 46 => ("CollectorHouseModel", "numbers", "I", false)
  | 47 => ("CollectorHouseModel", "cleanings", "I", false)
  | 48 => ("CollectorHouseModel", "movedWords", "I", false)
  | 49 => ("CollectorHouseModel", "freedWords", "I", false)
  | 50 => ("CollectorHouseModel", "looked", "I", false)
  | 51 => ("CollectorHouseModel", "root", "[I", true)
  | 52 => ("CollectorHouseModel", "weak", "[I", true)
  | 53 => ("CollectorHouseModel", "wishes", "[I", true)
  | 54 => ("CollectorHouseModel", "grey", "[I", true)
  | 55 => ("CollectorHouseModel", "wishMany", "I", false)
  | 56 => ("CollectorHouseModel", "greyMany", "I", false)
  | 57 => ("CollectorHouseModel", "greyAt", "I", false)
  | 58 => ("CollectorHouseModel", "isMarking", "Z", false)
  | 59 => ("CollectorHouseModel", "top", "I", false)
  | 60 => ("CollectorHouseModel", "oldTop", "I", false)
  | 61 => ("CollectorHouseModel", "half", "I", false)
  | 62 => ("CollectorHouseModel", "lastEnd", "I", false)
  | 63 => ("CollectorHouseModel", "present", "I", false)
  | 64 => ("CollectorHouseModel", "regions", "I", false)
  | 65 => ("CollectorHouseModel", "regionTop", "[I", true)
  | 66 => ("CollectorHouseModel", "dirty", "[Z", true)
  | 67 => ("CollectorHouseModel", "readAt", "I", false)
  | 68 => ("CollectorHouseModel", "tokenAt", "I", false)
  | 69 => ("CollectorHouseModel", "tokenSize", "I", false)
  | 70 => ("CollectorHouseModel", "broken", "I", false)
  | 71 => ("CollectorHouseModel", "read", "I", false)
  | 72 => ("CollectorHouseModel", "stack", "[I", true)
  | 73 => ("CollectorHouseModel", "stacked", "I", false)
  | 74 => ("CollectorHouseModel", "came", "[I", true)
  | 75 => ("CollectorHouseModel", "cameMany", "I", false)
  | 76 => ("CollectorHouseModel", "cameAt", "I", false)
  | 77 => ("CollectorHouseModel", "to", "I", false)
  | 78 => ("CollectorHouseModel", "going", "[I", true)
  | 79 => ("CollectorHouseModel", "goingWord", "[I", true)
  | 80 => ("CollectorHouseModel", "goingMany", "I", false)
  | 81 => ("CollectorHouseModel", "keptWords", "[I", true)
  | 82 => ("CollectorHouseModel", "isHeld", "[Z", true)
  | 83 => ("CollectorHouseModel", "isDone", "[Z", true)
  | _ => ("CollectorHouseModel", "blockSize", "I", false)
def tyX12 : Nat → FieldType := fun k => match k with
  | 0 => .int
  | 1 => .array .byte
  | 2 => .array .byte
  | 3 => .int
  | 4 => .int
  | 5 => .array .int
  | 6 => .array .int
  | 7 => .int
  | 8 => .boolean
  | 9 => .boolean
  | 10 => .int
  | 11 => .int
  | 12 => .int
  | 13 => .int
  | 14 => .int
  | 15 => .int
  | 16 => .int
  | 17 => .int
  | 18 => .int
  | 19 => .int
  | 20 => .int
  | 21 => .int
  | 22 => .int
  | 23 => .int
  | 24 => .int
  | 25 => .int
  | 26 => .int
  | 27 => .int
  | 28 => .int
  | 29 => .int
  | 30 => .boolean
  | 31 => .array .boolean
  | 32 => .array .int
  | 33 => .array .int
  | 34 => .array .int
  | 35 => .array .int
  | 36 => .array .int
  | 37 => .array .int
  | 38 => .array .int
  | 39 => .array .int
  | 40 => .array .int
  | 41 => .array .boolean
  | 42 => .array .boolean
  | 43 => .array .int
  | 44 => .int
  | 45 => .int
  | 46 => .int
  | 47 => .int
  | 48 => .int
  | 49 => .int
  | 50 => .int
  | 51 => .array .int
  | 52 => .array .int
  | 53 => .array .int
  | 54 => .array .int
  | 55 => .int
  | 56 => .int
  | 57 => .int
  | 58 => .boolean
  | 59 => .int
  | 60 => .int
  | 61 => .int
  | 62 => .int
  | 63 => .int
  | 64 => .int
  | 65 => .array .int
  | 66 => .array .boolean
  | 67 => .int
  | 68 => .int
  | 69 => .int
  | 70 => .int
  | 71 => .int
  | 72 => .array .int
  | 73 => .int
  | 74 => .array .int
  | 75 => .int
  | 76 => .int
  | 77 => .int
  | 78 => .array .int
  | 79 => .array .int
  | 80 => .int
  | 81 => .array .int
  | 82 => .array .boolean
  | 83 => .array .boolean
  | _ => .int
theorem nmX12 : ∀ a, a < 85 → ∀ b, b < 85 → a ≠ b → (TX12 a).2.1 ≠ (TX12 b).2.1 := by decide +kernel
theorem tyX12_ok : ∀ k, k < 85 → parseFieldDescriptor (TX12 k).2.2.1 = some (tyX12 k) := by decide +kernel
abbrev cX12_thrown : ByteArray := prog_14_method_1_code
def yX12_thrown : MethodName := ⟨RX12, "thrown", "()I"⟩
abbrev cX12_fails : ByteArray := prog_14_method_2_code
def yX12_fails : MethodName := ⟨RX12, "fails", "(I)Z"⟩
abbrev cX12_init : ByteArray := prog_14_method_3_code
def yX12_init : MethodName := ⟨RX12, "<init>", "()V"⟩
abbrev cX12_feed : ByteArray := prog_14_method_4_code
def yX12_feed : MethodName := ⟨RX12, "feed", "(IIIII)I"⟩
abbrev cX12_four : ByteArray := prog_14_method_5_code
def yX12_four : MethodName := ⟨RX12, "four", "(I)V"⟩
abbrev cX12_end : ByteArray := prog_14_method_6_code
def yX12_end : MethodName := ⟨RX12, "end", "(I)I"⟩
abbrev cX12_kind : ByteArray := prog_14_method_7_code
def yX12_kind : MethodName := ⟨RX12, "kind", "(II)I"⟩
abbrev cX12_token : ByteArray := prog_14_method_8_code
def yX12_token : MethodName := ⟨RX12, "token", "()Z"⟩
abbrev cX12_wrong : ByteArray := prog_14_method_9_code
def yX12_wrong : MethodName := ⟨RX12, "wrong", "(I)Z"⟩
abbrev cX12_is : ByteArray := prog_14_method_10_code
def yX12_is : MethodName := ⟨RX12, "is", "(IIIIIII)Z"⟩
abbrev cX12_byteIs : ByteArray := prog_14_method_11_code
def yX12_byteIs : MethodName := ⟨RX12, "byteIs", "(II)Z"⟩
abbrev cX12_number : ByteArray := prog_14_method_12_code
def yX12_number : MethodName := ⟨RX12, "number", "(II)Z"⟩
abbrev cX12_form : ByteArray := prog_14_method_13_code
def yX12_form : MethodName := ⟨RX12, "form", "()Z"⟩
abbrev cX12_roomHere : ByteArray := prog_14_method_14_code
def yX12_roomHere : MethodName := ⟨RX12, "roomHere", "()Z"⟩
abbrev cX12_readPolicy : ByteArray := prog_14_method_15_code
def yX12_readPolicy : MethodName := ⟨RX12, "readPolicy", "()Z"⟩
abbrev cX12_heap : ByteArray := prog_14_method_16_code
def yX12_heap : MethodName := ⟨RX12, "heap", "()I"⟩
abbrev cX12_empty : ByteArray := prog_14_method_17_code
def yX12_empty : MethodName := ⟨RX12, "empty", "()V"⟩
abbrev cX12_sizeOf : ByteArray := prog_14_method_18_code
def yX12_sizeOf : MethodName := ⟨RX12, "sizeOf", "(I)I"⟩
abbrev cX12_isReference : ByteArray := prog_14_method_19_code
def yX12_isReference : MethodName := ⟨RX12, "isReference", "(II)Z"⟩
abbrev cX12_reference : ByteArray := prog_14_method_20_code
def yX12_reference : MethodName := ⟨RX12, "reference", "(II)I"⟩
abbrev cX12_isOld : ByteArray := prog_14_method_21_code
def yX12_isOld : MethodName := ⟨RX12, "isOld", "(I)Z"⟩
abbrev cX12_placeOf : ByteArray := prog_14_method_22_code
def yX12_placeOf : MethodName := ⟨RX12, "placeOf", "(I)I"⟩
abbrev cX12_keep : ByteArray := prog_14_method_23_code
def yX12_keep : MethodName := ⟨RX12, "keep", "(I)V"⟩
abbrev cX12_keepAll : ByteArray := prog_14_method_24_code
def yX12_keepAll : MethodName := ⟨RX12, "keepAll", "()V"⟩
abbrev cX12_keepNone : ByteArray := prog_14_method_25_code
def yX12_keepNone : MethodName := ⟨RX12, "keepNone", "()V"⟩
abbrev cX12_keepReached : ByteArray := prog_14_method_26_code
def yX12_keepReached : MethodName := ⟨RX12, "keepReached", "()V"⟩
abbrev cX12_reached : ByteArray := prog_14_method_27_code
def yX12_reached : MethodName := ⟨RX12, "reached", "(I)I"⟩
abbrev cX12_wisher : ByteArray := prog_14_method_28_code
def yX12_wisher : MethodName := ⟨RX12, "wisher", "(IZ)I"⟩
abbrev cX12_unweak : ByteArray := prog_14_method_29_code
def yX12_unweak : MethodName := ⟨RX12, "unweak", "(I)V"⟩
abbrev cX12_toWishes : ByteArray := prog_14_method_30_code
def yX12_toWishes : MethodName := ⟨RX12, "toWishes", "(I)V"⟩
abbrev cX12_grantAll : ByteArray := prog_14_method_31_code
def yX12_grantAll : MethodName := ⟨RX12, "grantAll", "()V"⟩
abbrev cX12_unweakRest : ByteArray := prog_14_method_32_code
def yX12_unweakRest : MethodName := ⟨RX12, "unweakRest", "()V"⟩
abbrev cX12_remove : ByteArray := prog_14_method_33_code
def yX12_remove : MethodName := ⟨RX12, "remove", "(I)V"⟩
abbrev cX12_removeRest : ByteArray := prog_14_method_34_code
def yX12_removeRest : MethodName := ⟨RX12, "removeRest", "()I"⟩
abbrev cX12_uncountKept : ByteArray := prog_14_method_35_code
def yX12_uncountKept : MethodName := ⟨RX12, "uncountKept", "(I)V"⟩
abbrev cX12_move : ByteArray := prog_14_method_36_code
def yX12_move : MethodName := ⟨RX12, "move", "(II)V"⟩
abbrev cX12_sweep : ByteArray := prog_14_method_37_code
def yX12_sweep : MethodName := ⟨RX12, "sweep", "()I"⟩
abbrev cX12_cleanSlide : ByteArray := prog_14_method_38_code
def yX12_cleanSlide : MethodName := ⟨RX12, "cleanSlide", "()I"⟩
abbrev cX12_slide : ByteArray := prog_14_method_39_code
def yX12_slide : MethodName := ⟨RX12, "slide", "(I)I"⟩
abbrev cX12_come : ByteArray := prog_14_method_40_code
def yX12_come : MethodName := ⟨RX12, "come", "(I)V"⟩
abbrev cX12_comeAll : ByteArray := prog_14_method_41_code
def yX12_comeAll : MethodName := ⟨RX12, "comeAll", "()V"⟩
abbrev cX12_comeWishers : ByteArray := prog_14_method_42_code
def yX12_comeWishers : MethodName := ⟨RX12, "comeWishers", "(Z)V"⟩
abbrev cX12_cleanHalves : ByteArray := prog_14_method_43_code
def yX12_cleanHalves : MethodName := ⟨RX12, "cleanHalves", "()I"⟩
abbrev cX12_cardOf : ByteArray := prog_14_method_44_code
def yX12_cardOf : MethodName := ⟨RX12, "cardOf", "(II)I"⟩
abbrev cX12_findDirty : ByteArray := prog_14_method_45_code
def yX12_findDirty : MethodName := ⟨RX12, "findDirty", "()V"⟩
abbrev cX12_major : ByteArray := prog_14_method_46_code
def yX12_major : MethodName := ⟨RX12, "major", "()I"⟩
abbrev cX12_isOldFull : ByteArray := prog_14_method_47_code
def yX12_isOldFull : MethodName := ⟨RX12, "isOldFull", "()Z"⟩
abbrev cX12_minor : ByteArray := prog_14_method_48_code
def yX12_minor : MethodName := ⟨RX12, "minor", "()I"⟩
abbrev cX12_comeDirty : ByteArray := prog_14_method_49_code
def yX12_comeDirty : MethodName := ⟨RX12, "comeDirty", "(I)V"⟩
abbrev cX12_more : ByteArray := prog_14_method_50_code
def yX12_more : MethodName := ⟨RX12, "more", "(I)V"⟩
abbrev cX12_less : ByteArray := prog_14_method_51_code
def yX12_less : MethodName := ⟨RX12, "less", "(I)V"⟩
abbrev cX12_fall : ByteArray := prog_14_method_52_code
def yX12_fall : MethodName := ⟨RX12, "fall", "(I)V"⟩
abbrev cX12_toGrey : ByteArray := prog_14_method_53_code
def yX12_toGrey : MethodName := ⟨RX12, "toGrey", "(I)V"⟩
abbrev cX12_greyRoots : ByteArray := prog_14_method_54_code
def yX12_greyRoots : MethodName := ⟨RX12, "greyRoots", "()V"⟩
abbrev cX12_beginMarking : ByteArray := prog_14_method_55_code
def yX12_beginMarking : MethodName := ⟨RX12, "beginMarking", "()V"⟩
abbrev cX12_steps : ByteArray := prog_14_method_56_code
def yX12_steps : MethodName := ⟨RX12, "steps", "(I)I"⟩
abbrev cX12_lookEmpty : ByteArray := prog_14_method_57_code
def yX12_lookEmpty : MethodName := ⟨RX12, "lookEmpty", "()I"⟩
abbrev cX12_finish : ByteArray := prog_14_method_58_code
def yX12_finish : MethodName := ⟨RX12, "finish", "()I"⟩
abbrev cX12_whole : ByteArray := prog_14_method_59_code
def yX12_whole : MethodName := ⟨RX12, "whole", "()I"⟩
abbrev cX12_changes : ByteArray := prog_14_method_60_code
def yX12_changes : MethodName := ⟨RX12, "changes", "(II)V"⟩
abbrev cX12_emptyRegions : ByteArray := prog_14_method_61_code
def yX12_emptyRegions : MethodName := ⟨RX12, "emptyRegions", "()I"⟩
abbrev cX12_leastEmpty : ByteArray := prog_14_method_62_code
def yX12_leastEmpty : MethodName := ⟨RX12, "leastEmpty", "()I"⟩
abbrev cX12_cleanRegions : ByteArray := prog_14_method_63_code
def yX12_cleanRegions : MethodName := ⟨RX12, "cleanRegions", "()I"⟩
abbrev cX12_sparse : ByteArray := prog_14_method_64_code
def yX12_sparse : MethodName := ⟨RX12, "sparse", "()I"⟩
abbrev cX12_blockFrom : ByteArray := prog_14_method_65_code
def yX12_blockFrom : MethodName := ⟨RX12, "blockFrom", "(II)I"⟩
abbrev cX12_firstFit : ByteArray := prog_14_method_66_code
def yX12_firstFit : MethodName := ⟨RX12, "firstFit", "(III)I"⟩
abbrev cX12_firstFitAhead : ByteArray := prog_14_method_67_code
def yX12_firstFitAhead : MethodName := ⟨RX12, "firstFitAhead", "(II)I"⟩
abbrev cX12_find : ByteArray := prog_14_method_68_code
def yX12_find : MethodName := ⟨RX12, "find", "(I)I"⟩
abbrev cX12_startOf : ByteArray := prog_14_method_69_code
def yX12_startOf : MethodName := ⟨RX12, "startOf", "(I)I"⟩
abbrev cX12_findInHalf : ByteArray := prog_14_method_70_code
def yX12_findInHalf : MethodName := ⟨RX12, "findInHalf", "(II)I"⟩
abbrev cX12_findByForm : ByteArray := prog_14_method_71_code
def yX12_findByForm : MethodName := ⟨RX12, "findByForm", "(I)I"⟩
abbrev cX12_freeWords : ByteArray := prog_14_method_72_code
def yX12_freeWords : MethodName := ⟨RX12, "freeWords", "()I"⟩
abbrev cX12_findInSteps : ByteArray := prog_14_method_73_code
def yX12_findInSteps : MethodName := ⟨RX12, "findInSteps", "(I)I"⟩
abbrev cX12_findInYoung : ByteArray := prog_14_method_74_code
def yX12_findInYoung : MethodName := ⟨RX12, "findInYoung", "(I)I"⟩
abbrev cX12_findInRegion : ByteArray := prog_14_method_75_code
def yX12_findInRegion : MethodName := ⟨RX12, "findInRegion", "(I)I"⟩
abbrev cX12_findInRegions : ByteArray := prog_14_method_76_code
def yX12_findInRegions : MethodName := ⟨RX12, "findInRegions", "(I)I"⟩
abbrev cX12_findRoom : ByteArray := prog_14_method_77_code
def yX12_findRoom : MethodName := ⟨RX12, "findRoom", "(I)I"⟩
abbrev cX12_fresh : ByteArray := prog_14_method_78_code
def yX12_fresh : MethodName := ⟨RX12, "fresh", "(III)I"⟩
abbrev cX12_setRoot : ByteArray := prog_14_method_79_code
def yX12_setRoot : MethodName := ⟨RX12, "setRoot", "(II)V"⟩
abbrev cX12_isNamed : ByteArray := prog_14_method_80_code
def yX12_isNamed : MethodName := ⟨RX12, "isNamed", "(I)Z"⟩
abbrev cX12_make : ByteArray := prog_14_method_81_code
def yX12_make : MethodName := ⟨RX12, "make", "(II)I"⟩
abbrev cX12_row : ByteArray := prog_14_method_82_code
def yX12_row : MethodName := ⟨RX12, "row", "(ZII)I"⟩
abbrev cX12_put : ByteArray := prog_14_method_83_code
def yX12_put : MethodName := ⟨RX12, "put", "(III)I"⟩
abbrev cX12_numberOf : ByteArray := prog_14_method_84_code
def yX12_numberOf : MethodName := ⟨RX12, "numberOf", "(I)I"⟩
abbrev cX12_link : ByteArray := prog_14_method_85_code
def yX12_link : MethodName := ⟨RX12, "link", "(III)I"⟩
abbrev cX12_get : ByteArray := prog_14_method_86_code
def yX12_get : MethodName := ⟨RX12, "get", "(II)I"⟩
abbrev cX12_root : ByteArray := prog_14_method_87_code
def yX12_root : MethodName := ⟨RX12, "root", "(II)I"⟩
abbrev cX12_weak : ByteArray := prog_14_method_88_code
def yX12_weak : MethodName := ⟨RX12, "weak", "(II)I"⟩
abbrev cX12_strong : ByteArray := prog_14_method_89_code
def yX12_strong : MethodName := ⟨RX12, "strong", "(II)I"⟩
abbrev cX12_hold : ByteArray := prog_14_method_90_code
def yX12_hold : MethodName := ⟨RX12, "hold", "(IZ)I"⟩
abbrev cX12_wish : ByteArray := prog_14_method_91_code
def yX12_wish : MethodName := ⟨RX12, "wish", "(I)I"⟩
abbrev cX12_granted : ByteArray := prog_14_method_92_code
def yX12_granted : MethodName := ⟨RX12, "granted", "(I)I"⟩
abbrev cX12_clean : ByteArray := prog_14_method_93_code
def yX12_clean : MethodName := ⟨RX12, "clean", "()I"⟩
abbrev cX12_step : ByteArray := prog_14_method_94_code
def yX12_step : MethodName := ⟨RX12, "step", "(I)I"⟩
abbrev cX12_about : ByteArray := prog_14_method_95_code
def yX12_about : MethodName := ⟨RX12, "about", "(II)I"⟩
abbrev cX12_block : ByteArray := prog_14_method_96_code
def yX12_block : MethodName := ⟨RX12, "block", "(II)I"⟩
abbrev cX12_dirtyCards : ByteArray := prog_14_method_97_code
def yX12_dirtyCards : MethodName := ⟨RX12, "dirtyCards", "()I"⟩
abbrev cX12_count : ByteArray := prog_14_method_98_code
def yX12_count : MethodName := ⟨RX12, "count", "(I)I"⟩
def RJx3273f : String := "java/lang/ClassCastException"
def TJx3273f : u_T := fun k => match k with
  | 0 => ("java/lang/Throwable", "cause", "Ljava/lang/Throwable;", false)
  | 1 => ("java/lang/Throwable", "stackTrace", "[Ljava/lang/StackTraceElement;", false)
  | 2 => ("java/lang/Throwable", "suppressedExceptions", "Ljava/util/List;", false)
  | 3 => ("java/lang/Throwable", "detailMessage", "Ljava/lang/String;", false)
  | 4 => ("java/lang/Throwable", "backtrace", "Ljava/lang/Object;", false)
  | _ => ("java/lang/Throwable", "depth", "I", false)
def RJ0 : String := "java/lang/String"
abbrev cJ0_length_8abf5 : ByteArray := prog_22_method_54_code
def yJ0_length_8abf5 : MethodName := ⟨RJ0, "length", "()I"⟩
abbrev cJ0_charAt_5068e : ByteArray := prog_22_method_56_code
def yJ0_charAt_5068e : MethodName := ⟨RJ0, "charAt", "(I)C"⟩
abbrev cJ0_coder_7d493 : ByteArray := prog_22_method_152_code
def yJ0_coder_7d493 : MethodName := ⟨RJ0, "coder", "()B"⟩
abbrev cJ0_isLatin1_aae02 : ByteArray := prog_22_method_154_code
def yJ0_isLatin1_aae02 : MethodName := ⟨RJ0, "isLatin1", "()Z"⟩
abbrev cJ0_checkIndex_df160 : ByteArray := prog_22_method_155_code
def yJ0_checkIndex_df160 : MethodName := ⟨RJ0, "checkIndex", "(II)V"⟩
def RJ1 : String := "java/lang/StringLatin1"
abbrev cJ1_charAt_3b067 : ByteArray := prog_23_method_2_code
def yJ1_charAt_3b067 : MethodName := ⟨RJ1, "charAt", "([BI)C"⟩
def RJ7 : String := "java/util/Arrays"
abbrev cJ7_fill_53178 : ByteArray := prog_28_method_103_code
def yJ7_fill_53178 : MethodName := ⟨RJ7, "fill", "([II)V"⟩
def RJ3 : String := "jdk/internal/util/Preconditions"
abbrev cJ3_checkIndex_8e157 : ByteArray := prog_30_method_11_code
def yJ3_checkIndex_8e157 : MethodName := ⟨RJ3, "checkIndex", "(IILjava/util/function/BiFunction;)I"⟩
abbrev vwCl : List vw_C := [(RJx3273f, TJx3273f, 6), (RX0, TX0, 10), (RX2, TX2, 8), (RX3, TX3, 5), (RX4, TX4, 9), (RX5, TX5, 4), (RX6, TX6, 9), (RX7, TX7, 13), (RX8, TX8, 5), (RX9, TX9, 9), (RX10, TX10, 6), (RX11, TX11, 12), (RX12, TX12, 85)]

/-! from 10.simple -/
/-! THE SMALL MACHINE, part 1: values, locals, the instructions that touch no heap; and that the machine does what they say -/
abbrev ma_V : Type := Int32 ⊕ (Int64 ⊕ Option Nat)
abbrev ma_L : Type := List (Nat × ma_V)
def ma_tv (ad : Nat → Nat) (v : ma_V) : Value := match v with
  | .inl x => .int x
  | .inr (.inl x) => .long x
  | .inr (.inr r) => va_rf (r.map ad)
def ma_2 (v : ma_V) : Bool := match v with
  | .inr (.inl _) => true
  | _ => false
def ma_tl (ad : Nat → Nat) (L : ma_L) : List (Nat × Value) := L.map (fun q => (q.1, ma_tv ad q.2))
def ma_ts (ad : Nat → Nat) (st : List ma_V) : List Value := st.map (ma_tv ad)
def ma_st (L : ma_L) (i : Nat) (v : ma_V) : ma_L := (i, v) :: L.filter (fun q => !(q.1 == i) && !(q.1 + 1 == i && ma_2 q.2))
def ma_get (L : ma_L) (i : Nat) : Option ma_V := (L.find? (fun q => q.1 == i)).map (·.2)
theorem ma_cat (ad : Nat → Nat) (v : ma_V) : (ma_tv ad v).category = if ma_2 v then 2 else 1 := by
  rcases v with x | x | r
  · rfl
  · rfl
  · cases r <;> rfl
theorem ma_cat2 (ad : Nat → Nat) (v : ma_V) : ((ma_tv ad v).category == 2) = ma_2 v := by
  rw [ma_cat]; cases ma_2 v <;> rfl
theorem ma_cat1 (ad : Nat → Nat) {v : ma_V} (h : ma_2 v = false) : (ma_tv ad v).category = 1 := by
  rw [ma_cat, h]; rfl
theorem ma_tl_st (ad : Nat → Nat) (L : ma_L) (i : Nat) (v : ma_V) : (i, ma_tv ad v) :: (ma_tl ad L).filter (fun q => !(q.1 == i) && !(q.1 + 1 == i && q.2.category == 2)) = ma_tl ad (ma_st L i v) := by
  unfold ma_tl ma_st
  rw [List.map_cons, List.filter_map]
  congr 2
  apply List.filter_congr
  intro q _
  show (!(q.1 == i) && !(q.1 + 1 == i && (ma_tv ad q.2).category == 2)) = _
  rw [ma_cat2]
theorem ma_get_at {ad : Nat → Nat} {L : ma_L} {i : Nat} {v : ma_V} {ls : Array Slot} {nL : Nat} (h : ma_get L i = some v) (hl : lv_has ls nL (ma_tl ad L)) : ls[i]? = some (.val (ma_tv ad v)) := by
  unfold ma_get at h
  cases hf : L.find? (fun q => q.1 == i) with
  | none => rw [hf] at h; cases h
  | some q =>
    rw [hf] at h
    have h2 : q.2 = v := Option.some.inj h
    have h3 : q.1 = i := by have := List.find?_some hf; simpa using this
    have h4 : q ∈ L := List.mem_of_find?_eq_some hf
    have := hl.2.2 (q.1, ma_tv ad q.2) (List.mem_map.mpr ⟨q, h4, rfl⟩)
    rw [h2, h3] at this
    exact this
/-- constants and loads -/
def ma_push (i : Instr) (n : Nat) (L : ma_L) : Option ma_V := match i, n with
  | .iconst k, 1 => some (.inl (Int32.ofInt k))
  | .bipush k, 2 => some (.inl (Int8.ofInt k).toInt32)
  | .sipush k, 3 => some (.inl (Int16.ofInt k).toInt32)
  | .lconst k, 1 => some (.inr (.inl (Int64.ofNat (k : Nat))))
  | .aconst_null, 1 => some (.inr (.inr none))
  | .iload k, 2 => match ma_get L k with
    | some (.inl x) => some (.inl x)
    | _ => none
  | .iload_n k, 1 => match ma_get L (k : Nat) with
    | some (.inl x) => some (.inl x)
    | _ => none
  | .lload k, 2 => match ma_get L k with
    | some (.inr (.inl x)) => some (.inr (.inl x))
    | _ => none
  | .lload_n k, 1 => match ma_get L (k : Nat) with
    | some (.inr (.inl x)) => some (.inr (.inl x))
    | _ => none
  | .aload k, 2 => match ma_get L k with
    | some (.inr (.inr x)) => some (.inr (.inr x))
    | _ => none
  | .aload_n k, 1 => match ma_get L (k : Nat) with
    | some (.inr (.inr x)) => some (.inr (.inr x))
    | _ => none
  | _, _ => none
/-- what works on the operand stack alone -/
def ma_stk (i : Instr) (n : Nat) (st : List ma_V) : Option (List ma_V) := match i, n, st with
  | .iadd, 1, .inl y :: .inl x :: r => some (.inl (x + y) :: r)
  | .isub, 1, .inl y :: .inl x :: r => some (.inl (x - y) :: r)
  | .imul, 1, .inl y :: .inl x :: r => some (.inl (x * y) :: r)
  | .iand, 1, .inl y :: .inl x :: r => some (.inl (x &&& y) :: r)
  | .ior, 1, .inl y :: .inl x :: r => some (.inl (x ||| y) :: r)
  | .ixor, 1, .inl y :: .inl x :: r => some (.inl (x ^^^ y) :: r)
  | .ishl, 1, .inl y :: .inl x :: r => some (.inl (x <<< (y &&& 31)) :: r)
  | .ishr, 1, .inl y :: .inl x :: r => some (.inl (x >>> (y &&& 31)) :: r)
  | .iushr, 1, .inl y :: .inl x :: r => some (.inl (x.toUInt32 >>> (y.toUInt32 &&& Int32.toUInt32 31)).toInt32 :: r)
  | .idiv, 1, .inl y :: .inl x :: r => if y = 0 then none else some (.inl (x / y) :: r)
  | .i2b, 1, .inl x :: r => some (.inl x.toInt8.toInt32 :: r)
  | .i2c, 1, .inl x :: r => some (.inl (x.toUInt32 % 65536).toInt32 :: r)
  | .i2l, 1, .inl x :: r => some (.inr (.inl x.toInt64) :: r)
  | .land, 1, .inr (.inl y) :: .inr (.inl x) :: r => some (.inr (.inl (x &&& y)) :: r)
  | .lushr, 1, .inl y :: .inr (.inl x) :: r => some (.inr (.inl (x.toUInt64 >>> (y.toInt64.toUInt64 &&& Int64.toUInt64 63)).toInt64) :: r)
  | .lcmp, 1, .inr (.inl y) :: .inr (.inl x) :: r => some (.inl (lg_cmp x y) :: r)
  | .dup, 1, v :: r => if ma_2 v then none else some (v :: v :: r)
  | .pop, 1, v :: r => if ma_2 v then none else some r
  | .dup2, 1, v :: w :: r => if ma_2 v || ma_2 w then none else some (v :: w :: v :: w :: r)
  | _, _, _ => none
/-- stores, and the local that counts -/
def ma_sto (i : Instr) (n nL : Nat) (L : ma_L) (st : List ma_V) : Option (ma_L × List ma_V) := match i, n, st with
  | .istore k, 2, .inl x :: r => if k < nL then some (ma_st L k (.inl x), r) else none
  | .istore_n k, 1, .inl x :: r => if (k : Nat) < nL then some (ma_st L k (.inl x), r) else none
  | .astore k, 2, .inr (.inr x) :: r => if k < nL then some (ma_st L k (.inr (.inr x)), r) else none
  | .astore_n k, 1, .inr (.inr x) :: r => if (k : Nat) < nL then some (ma_st L k (.inr (.inr x)), r) else none
  | .iinc k d, 3, r => match ma_get L k with
    | some (.inl x) => if k < nL then some (ma_st L k (.inl (x + Int32.ofInt d)), r) else none
    | _ => none
  | _, _, _ => none
def ma_to (pc : Nat) (off : Int) : Option Nat := if 0 ≤ (pc : Int) + off then some ((pc : Int) + off).toNat else none
theorem ma_to_eq {pc : Nat} {off : Int} {t : Nat} (h : ma_to pc off = some t) : (pc : Int) + off = (t : Int) := by
  unfold ma_to at h
  split at h
  · cases h; omega
  · cases h
def ma_c0 (c : ClassFile.Cond) (x : Int32) : Bool := match c with
  | .eq => decide (x = 0)
  | .ne => decide (¬ x = 0)
  | .lt => decide (x < 0)
  | .ge => decide (0 ≤ x)
  | .gt => decide (0 < x)
  | .le => decide (x ≤ 0)
def ma_c2 (c : ClassFile.Cond) (x y : Int32) : Bool := match c with
  | .eq => decide (x = y)
  | .ne => decide (¬ x = y)
  | .lt => decide (x < y)
  | .ge => decide (y ≤ x)
  | .gt => decide (y < x)
  | .le => decide (x ≤ y)
/-- jumps: where to, and the stack behind -/
def ma_jmp (i : Instr) (n pc : Nat) (st : List ma_V) : Option (Nat × List ma_V) := match i, n, st with
  | .goto o, 3, r => (ma_to pc o).map (fun t => (t, r))
  | .ifCond c o, 3, .inl x :: r => (ma_to pc o).map (fun t => (if ma_c0 c x then t else pc + 3, r))
  | .if_icmp c o, 3, .inl y :: .inl x :: r => (ma_to pc o).map (fun t => (if ma_c2 c x y then t else pc + 3, r))
  | .ifnull o, 3, .inr (.inr x) :: r => match x with
    | none => (ma_to pc o).map (fun t => (t, r))
    | some _ => some (pc + 3, r)
  | .ifnonnull o, 3, .inr (.inr x) :: r => match x with
    | none => some (pc + 3, r)
    | some _ => (ma_to pc o).map (fun t => (t, r))
  | .tableswitch d lo hi offs, _, .inl x :: r => if x.toInt < lo ∨ hi < x.toInt then (ma_to pc d).map (fun t => (t, r)) else match offs[(x.toInt - lo).toNat]? with
    | some o => (ma_to pc o).map (fun t => (t, r))
    | none => none
  | .lookupswitch d ps, _, .inl x :: r => if (ps.toList.zip (ps.toList.drop 1)).all (fun (a, next) => a.1 < next.1) = true then (ma_to pc (Op.lookupswitch.offset ps.toList d x.toInt)).map (fun t => (t, r)) else none
  | _, _, _ => none
section MA1
variable {p : Program} {l : Launch} {e : Env} {R : Room} {s : State} {m : MethodId} {args : Array Value} {below : List Frame} {meth : Method} {c : Code} {H : Heap} {locs : List Loc} {cells slots : Nat} {Q : State → Prop} {cc : ByteArray} {pc : Nat} {ls : Array Slot} {ad : Nat → Nat}
theorem ma_push_ok (hx : p.tables.exec = Jvm.exec) (hb : c.code = cc) {i : Instr} {n nL : Nat} {L : ma_L} {v : ma_V} {rest : List Value} (hl : lv_has ls nL (ma_tl ad L)) (hd : decode cc pc = .ok (i, n)) (h : ma_push i n L = some v)
    (k : W p l e R s m args below meth c H locs cells slots Q (F0 m (pc + n) ls (ma_tv ad v :: rest))) : W p l e R s m args below meth c H locs cells slots Q (F0 m pc ls rest) := by
  unfold ma_push at h
  split at h
  · cases h; exact lv_iconst hx hb hd rfl k
  · cases h; exact lv_bipush hx hb hd rfl k
  · cases h; exact lv_sipush hx hb hd rfl k
  · cases h; exact lv_lconst hx hb hd rfl k
  · cases h; exact lv_null hx hb hd k
  · split at h
    · next hg => cases h; exact lv_iload hx hb hd (ma_get_at hg hl) k
    · cases h
  · split at h
    · next hg => cases h; exact lv_iload_n hx hb hd rfl (ma_get_at hg hl) k
    · cases h
  · split at h
    · next hg => cases h; exact lv_lload hx hb hd (ma_get_at hg hl) k
    · cases h
  · split at h
    · next hg => cases h; exact lv_lload_n hx hb hd rfl (ma_get_at hg hl) k
    · cases h
  · split at h
    · next x hg =>
      cases h
      have hg := ma_get_at hg hl
      cases x with
      | none => exact lv_aloadN hx hb hd hg k
      | some a => exact lv_aload hx hb hd hg k
    · cases h
  · split at h
    · next x hg =>
      cases h
      have hg := ma_get_at hg hl
      cases x with
      | none => exact lv_aload_nN hx hb hd rfl hg k
      | some a => exact lv_aload_n hx hb hd rfl hg k
    · cases h
  · cases h
theorem ma_stk_ok (hx : p.tables.exec = Jvm.exec) (hb : c.code = cc) {i : Instr} {n : Nat} {st st₉ : List ma_V} (hd : decode cc pc = .ok (i, n)) (h : ma_stk i n st = some st₉)
    (k : W p l e R s m args below meth c H locs cells slots Q (F0 m (pc + n) ls (ma_ts ad st₉))) : W p l e R s m args below meth c H locs cells slots Q (F0 m pc ls (ma_ts ad st)) := by
  unfold ma_stk at h
  split at h
  · cases h; exact lv_iadd hx hb hd k
  · cases h; exact lv_isub hx hb hd k
  · cases h; exact lv_imul hx hb hd k
  · cases h; exact lv_iand hx hb hd k
  · cases h; exact lv_ior hx hb hd k
  · cases h; exact lv_ixor hx hb hd k
  · cases h; exact lv_ishl hx hb hd k
  · cases h; exact lv_ishr hx hb hd k
  · cases h; exact lv_iushr hx hb hd rfl k
  · split at h
    · cases h
    · next hy => cases h; exact lv_idiv hx hb hd hy k
  · cases h; exact lv_i2b hx hb hd rfl k
  · cases h; exact lv_i2c hx hb hd rfl k
  · cases h; exact lv_i2l hx hb hd rfl k
  · cases h; exact lv_land hx hb hd k
  · cases h; exact lv_lushr hx hb hd rfl k
  · cases h; exact W.lcmp hx hb hd k
  · split at h
    · cases h
    · next hv => cases h; exact lv_dup hx hb hd (ma_cat1 ad (by simpa using hv)) k
  · split at h
    · cases h
    · next hv => cases h; exact lv_pop hx hb hd (ma_cat1 ad (by simpa using hv)) k
  · split at h
    · cases h
    · next hv =>
      cases h
      simp only [Bool.or_eq_true, not_or, Bool.not_eq_true] at hv
      exact lv_dup2_11 hx hb hd (ma_cat1 ad hv.1) (ma_cat1 ad hv.2) k
  · cases h
theorem ma_sto_ok (hx : p.tables.exec = Jvm.exec) (hb : c.code = cc) {i : Instr} {n nL : Nat} {L L₉ : ma_L} {st st₉ : List ma_V} (hl : lv_has ls nL (ma_tl ad L)) (hd : decode cc pc = .ok (i, n)) (h : ma_sto i n nL L st = some (L₉, st₉))
    (k : ∀ ls₉ : Array Slot, lv_has ls₉ nL (ma_tl ad L₉) → W p l e R s m args below meth c H locs cells slots Q (F0 m (pc + n) ls₉ (ma_ts ad st₉))) : W p l e R s m args below meth c H locs cells slots Q (F0 m pc ls (ma_ts ad st)) := by
  unfold ma_sto at h
  split at h
  · split at h
    · next hk => cases h; exact lv_istore hx hb hd hl hk (ma_tl_st ad L _ (.inl _)) k
    · cases h
  · split at h
    · next hk => cases h; exact lv_istore_n hx hb hd rfl hl hk (ma_tl_st ad L _ (.inl _)) k
    · cases h
  · next x r =>
    split at h
    · next hk =>
      cases h
      cases x with
      | none => exact lv_astoreN hx hb hd hl hk (ma_tl_st ad L _ (.inr (.inr none))) k
      | some a => exact lv_astore hx hb hd hl hk (ma_tl_st ad L _ (.inr (.inr (some a)))) k
    · cases h
  · next x r =>
    split at h
    · next hk =>
      cases h
      cases x with
      | none => exact lv_astore_nN hx hb hd rfl hl hk (ma_tl_st ad L _ (.inr (.inr none))) k
      | some a => exact lv_astore_n hx hb hd rfl hl hk (ma_tl_st ad L _ (.inr (.inr (some a)))) k
    · cases h
  · split at h
    · next x hg =>
      split at h
      · next hk =>
        cases h
        have hm := ma_get_at hg hl
        obtain ⟨j, hj⟩ : ∃ j, (ma_tl ad L)[j]? = some (_, Value.int x) := by
          unfold ma_get at hg
          cases hf : L.find? (fun q => q.1 == _) with
          | none => rw [hf] at hg; cases hg
          | some q =>
            rw [hf] at hg
            have h2 : q.2 = .inl x := Option.some.inj hg
            have h3 := List.find?_some hf
            have h4 : q ∈ L := List.mem_of_find?_eq_some hf
            obtain ⟨j, hj⟩ := List.getElem?_of_mem (show (q.1, ma_tv ad q.2) ∈ ma_tl ad L from List.mem_map.mpr ⟨q, h4, rfl⟩)
            refine ⟨j, ?_⟩
            rw [hj, h2, eq_of_beq h3]
            rfl
        exact lv_iinc hx hb hd hl hj rfl hk (ma_tl_st ad L _ (.inl _)) k
      · cases h
    · cases h
  · cases h
theorem ma_jmp_ok (hx : p.tables.exec = Jvm.exec) (hb : c.code = cc) {i : Instr} {n t : Nat} {st st₉ : List ma_V} (hd : decode cc pc = .ok (i, n)) (h : ma_jmp i n pc st = some (t, st₉))
    (k : W p l e R s m args below meth c H locs cells slots Q (F0 m t ls (ma_ts ad st₉))) : W p l e R s m args below meth c H locs cells slots Q (F0 m pc ls (ma_ts ad st)) := by
  have tk : ∀ {o : Int} {r : List ma_V}, (ma_to pc o).map (fun t => (t, r)) = some (t, st₉) → (pc : Int) + o = (t : Int) ∧ r = st₉ := by
    intro o r hh
    cases ht : ma_to pc o with
    | none => rw [ht] at hh; cases hh
    | some t₉ => rw [ht] at hh; cases hh; exact ⟨ma_to_eq ht, rfl⟩
  have tk2 : ∀ {o : Int} {b : Bool} {r : List ma_V}, (ma_to pc o).map (fun t => (if b then t else pc + 3, r)) = some (t, st₉) → ∃ t₉ : Nat, (pc : Int) + o = (t₉ : Int) ∧ (if b then t₉ else pc + 3) = t ∧ r = st₉ := by
    intro o b r hh
    cases ht : ma_to pc o with
    | none => rw [ht] at hh; cases hh
    | some t₉ => rw [ht] at hh; cases hh; exact ⟨t₉, ma_to_eq ht, rfl, rfl⟩
  unfold ma_jmp at h
  split at h
  · obtain ⟨h1, rfl⟩ := tk h
    exact lv_goto hx hb hd h1 k
  · next cd o x r =>
    obtain ⟨t₉, h1, h2, rfl⟩ := tk2 h
    cases cd <;> simp only [ma_c0, decide_eq_true_eq] at h2
    · exact lv_if_eq hx hb hd h1 (fun q => by rw [if_pos q] at h2; rw [h2]; exact k) (fun q => by rw [if_neg q] at h2; rw [h2]; exact k)
    · exact lv_if_ne hx hb hd h1 (fun q => by rw [if_pos q] at h2; rw [h2]; exact k) (fun q => by rw [if_neg (fun z => z q)] at h2; rw [h2]; exact k)
    · exact lv_if_lt hx hb hd h1 (fun q => by rw [if_pos q] at h2; rw [h2]; exact k) (fun q => by rw [if_neg q] at h2; rw [h2]; exact k)
    · exact lv_if_ge hx hb hd h1 (fun q => by rw [if_pos q] at h2; rw [h2]; exact k) (fun q => by rw [if_neg q] at h2; rw [h2]; exact k)
    · exact lv_if_gt hx hb hd h1 (fun q => by rw [if_pos q] at h2; rw [h2]; exact k) (fun q => by rw [if_neg q] at h2; rw [h2]; exact k)
    · exact lv_if_le hx hb hd h1 (fun q => by rw [if_pos q] at h2; rw [h2]; exact k) (fun q => by rw [if_neg q] at h2; rw [h2]; exact k)
  · next cd o y x r =>
    obtain ⟨t₉, h1, h2, rfl⟩ := tk2 h
    cases cd <;> simp only [ma_c2, decide_eq_true_eq] at h2
    · exact lv_icmp_eq hx hb hd h1 (fun q => by rw [if_pos q] at h2; rw [h2]; exact k) (fun q => by rw [if_neg q] at h2; rw [h2]; exact k)
    · exact lv_icmp_ne hx hb hd h1 (fun q => by rw [if_pos q] at h2; rw [h2]; exact k) (fun q => by rw [if_neg (fun z => z q)] at h2; rw [h2]; exact k)
    · exact lv_icmp_lt hx hb hd h1 (fun q => by rw [if_pos q] at h2; rw [h2]; exact k) (fun q => by rw [if_neg q] at h2; rw [h2]; exact k)
    · exact lv_icmp_ge hx hb hd h1 (fun q => by rw [if_pos q] at h2; rw [h2]; exact k) (fun q => by rw [if_neg q] at h2; rw [h2]; exact k)
    · exact lv_icmp_gt hx hb hd h1 (fun q => by rw [if_pos q] at h2; rw [h2]; exact k) (fun q => by rw [if_neg q] at h2; rw [h2]; exact k)
    · exact lv_icmp_le hx hb hd h1 (fun q => by rw [if_pos q] at h2; rw [h2]; exact k) (fun q => by rw [if_neg q] at h2; rw [h2]; exact k)
  · next o x r =>
    cases x with
    | none =>
      obtain ⟨h1, rfl⟩ := tk h
      exact lv_ifnullN hx hb hd h1 k
    | some a =>
      cases h
      exact lv_ifnull hx hb hd k
  · next o x r =>
    cases x with
    | none =>
      cases h
      exact lv_ifnonnullN hx hb hd k
    | some a =>
      obtain ⟨h1, rfl⟩ := tk h
      exact lv_ifnonnull hx hb hd h1 k
  · split at h
    · next hc =>
      obtain ⟨h1, rfl⟩ := tk h
      exact lv_tableOut hx hb hd hc h1 k
    · next hc =>
      split at h
      · next o ho =>
        obtain ⟨h1, rfl⟩ := tk h
        exact lv_tableIn hx hb hd (fun q => hc (Or.inl q)) (fun q => hc (Or.inr q)) ho h1 k
      · cases h
  · split at h
    · next hp =>
      obtain ⟨h1, rfl⟩ := tk h
      exact lv_lookup hx hb hd hp rfl h1 k
    · cases h
  · cases h
end MA1

/-! from 20.world -/
/-! THE SMALL MACHINE, part 2: its heap (cells by number: shape, ints, longs, references), and the world of cells that stands for it.
Numbers below 64 name what lies outside: the script is 30, constant texts are 0 .., their rows of bytes 32 .. -/
abbrev ma_S : Type := Nat × Nat × Nat × (Nat → Nat × Nat) × (Nat → Nat → Int32) × (Nat → Nat → Int64) × (Nat → Nat → Option Nat)
/-- the next cell's number; cells made; slots made; shapes (kind, length); contents -/
abbrev mN (S : ma_S) : Nat := S.1
abbrev mC (S : ma_S) : Nat := S.2.1
abbrev mZ (S : ma_S) : Nat := S.2.2.1
abbrev mH (S : ma_S) : Nat → Nat × Nat := S.2.2.2.1
abbrev mI (S : ma_S) : Nat → Nat → Int32 := S.2.2.2.2.1
abbrev mL (S : ma_S) : Nat → Nat → Int64 := S.2.2.2.2.2.1
abbrev mR (S : ma_S) : Nat → Nat → Option Nat := S.2.2.2.2.2.2
/-- one slot of one cell -/
def ma_u {α : Type} (h : Nat → Nat → α) (c k : Nat) (x : α) : Nat → Nat → α := fun c₉ k₉ => if c₉ = c ∧ k₉ = k then x else h c₉ k₉
/-- one cell -/
def ma_uc {α : Type} (h : Nat → α) (c : Nat) (x : α) : Nat → α := fun c₉ => if c₉ = c then x else h c₉
theorem ma_u_eq {α : Type} (h : Nat → Nat → α) (c k : Nat) (x : α) : ma_u h c k x c = va_up (h c) k x := by
  funext j; unfold ma_u va_up; simp
theorem ma_u_ne {α : Type} (h : Nat → Nat → α) {c c₉ : Nat} (k : Nat) (x : α) (hn : c₉ ≠ c) : ma_u h c k x c₉ = h c₉ := by
  funext j; unfold ma_u; simp [hn]
theorem ma_u_at {α : Type} (h : Nat → Nat → α) (c k : Nat) (x : α) (k₉ : Nat) : ma_u h c k x c k₉ = if k₉ = k then x else h c k₉ := by
  unfold ma_u; simp
def ma_put (S : ma_S) (c k : Nat) (v : ma_V) : ma_S := match v with
  | .inl x => (S.1, S.2.1, S.2.2.1, S.2.2.2.1, ma_u (mI S) c k x, mL S, mR S)
  | .inr (.inl x) => (S.1, S.2.1, S.2.2.1, S.2.2.2.1, mI S, ma_u (mL S) c k x, mR S)
  | .inr (.inr r) => (S.1, S.2.1, S.2.2.1, S.2.2.2.1, mI S, mL S, ma_u (mR S) c k r)
/-- a new cell of kind t with n slots, all 0 or null -/
def ma_new (S : ma_S) (t n : Nat) : ma_S := (S.1 + 1, S.2.1 + 1, S.2.2.1 + n, ma_uc (mH S) S.1 (t, n), ma_uc (mI S) S.1 (fun _ => 0), ma_uc (mL S) S.1 (fun _ => 0), ma_uc (mR S) S.1 (fun _ => none))
/-- the value that a slot of that type has -/
def ma_rd (S : ma_S) (c k : Nat) (ty : FieldType) : ma_V := match ty with
  | .long => .inr (.inl (mL S c k))
  | .object _ => .inr (.inr (mR S c k))
  | .array _ => .inr (.inr (mR S c k))
  | _ => .inl (mI S c k)
/-- classes: by their places in vwCl -/
def ma_ft (t : Nat) : Nat → FieldType := match t with
  | 1 => tyX0 | 2 => tyX2 | 3 => tyX3 | 4 => tyX4 | 5 => tyX5 | 6 => tyX6 | 7 => tyX7 | 8 => tyX8 | 9 => tyX9 | 10 => tyX10 | 11 => tyX11 | 12 => tyX12
  | _ => fun _ => .int
def ma_fn (t : Nat) : Nat := match t with
  | 1 => 10 | 2 => 8 | 3 => 5 | 4 => 9 | 5 => 4 | 6 => 9 | 7 => 13 | 8 => 5 | 9 => 9 | 10 => 6 | 11 => 12 | 12 => 85
  | _ => 0
def ma_fs (ad : Nat → Nat) (S : ma_S) (c t : Nat) : List Value := (List.range (ma_fn t)).map (fun k => ma_tv ad (ma_rd S c k (ma_ft t k)))
/-- arrays: 20 int, 21 byte, 22 boolean, 23 long, 24 Thing, 25 Collector -/
def ma_tys (kA : Nat → ClassId) : List (ClassId × FieldType) := [(kA 20, .int), (kA 21, .byte), (kA 22, .boolean), (kA 23, .long), (kA 24, .object RX9), (kA 25, .object RX1)]
def ma_E (kA : Nat → ClassId) (ad : Nat → Nat) (S : ma_S) (c : Nat) : va_E :=
  if (mH S c).1 < 20 then .inr ((mH S c).1, ma_fs ad S c (mH S c).1)
  else if (mH S c).1 < 23 then .inl (kA (mH S c).1, (mH S c).2, .inl (mI S c))
  else if (mH S c).1 < 24 then .inl (kA (mH S c).1, (mH S c).2, .inr (.inl (mL S c)))
  else .inl (kA (mH S c).1, (mH S c).2, .inr (.inr (.inr (.inr (fun j => (mR S c j).map ad)))))
def ma_wl (kA : Nat → ClassId) (ad : Nat → Nat) (S : ma_S) : va_W := (List.range (mN S - 64)).map (fun j => (ad (j + 64), ma_E kA ad S (j + 64)))
theorem ma_wl_at {kA : Nat → ClassId} {ad : Nat → Nat} {S : ma_S} {c : Nat} (h1 : 64 ≤ c) (h2 : c < mN S) : (ma_wl kA ad S)[c - 64]? = some (ad c, ma_E kA ad S c) := by
  unfold ma_wl
  rw [List.getElem?_map, List.getElem?_range (by omega)]
  show some (ad (c - 64 + 64), ma_E kA ad S (c - 64 + 64)) = _
  rw [Nat.sub_add_cancel h1]
theorem ma_wl_set {kA : Nat → ClassId} {ad : Nat → Nat} {S S₉ : ma_S} {c : Nat} {e : va_E} (h1 : 64 ≤ c) (h2 : c < mN S) (hn : mN S₉ = mN S) (he : ma_E kA ad S₉ c = e) (ho : ∀ c₉, c₉ ≠ c → ma_E kA ad S₉ c₉ = ma_E kA ad S c₉) : (ma_wl kA ad S).set (c - 64) (ad c, e) = ma_wl kA ad S₉ := by
  apply List.ext_getElem?
  intro j
  unfold ma_wl
  rw [hn]
  by_cases hj : j = c - 64
  · subst hj
    rw [List.getElem?_set_self (by simp; omega), List.getElem?_map, List.getElem?_range (by omega)]
    show _ = some (ad (c - 64 + 64), ma_E kA ad S₉ (c - 64 + 64))
    rw [Nat.sub_add_cancel h1, he]
  · rw [List.getElem?_set_ne (Ne.symm hj), List.getElem?_map, List.getElem?_map]
    by_cases hl : j < mN S - 64
    · rw [List.getElem?_range hl]
      show some (ad (j + 64), ma_E kA ad S (j + 64)) = some (ad (j + 64), ma_E kA ad S₉ (j + 64))
      rw [ho (j + 64) (by omega)]
    · rw [List.getElem?_eq_none (by simp; omega)]
      rfl
/-- no reference beyond the last cell -/
def ma_cv (n : Nat) (v : ma_V) : Prop := ∀ b, v = .inr (.inr (some b)) → b < n
def ma_ch (S : ma_S) : Prop := (∀ c k b, mR S c k = some b → b < mN S) ∧ 64 ≤ mN S
def ma_cL (n : Nat) (L : ma_L) : Prop := ∀ q ∈ L, ma_cv n q.2
def ma_cs (n : Nat) (st : List ma_V) : Prop := ∀ v ∈ st, ma_cv n v
theorem ma_cv_i {n : Nat} {x : Int32} : ma_cv n (.inl x) := fun _ h => by cases h
theorem ma_cv_l {n : Nat} {x : Int64} : ma_cv n (.inr (.inl x)) := fun _ h => by cases h
theorem ma_cv_n {n : Nat} : ma_cv n (.inr (.inr none)) := fun _ h => by cases h
theorem ma_cv.mono {n n₉ : Nat} {v : ma_V} (h : ma_cv n v) (hn : n ≤ n₉) : ma_cv n₉ v := fun b hb => Nat.lt_of_lt_of_le (h b hb) hn
theorem ma_tv_ad {ad ad₉ : Nat → Nat} {n : Nat} {v : ma_V} (h : ma_cv n v) (ha : ∀ b, b < n → ad₉ b = ad b) : ma_tv ad₉ v = ma_tv ad v := by
  rcases v with x | x | r
  · rfl
  · rfl
  · cases r with
    | none => rfl
    | some b => show Value.ref (ad₉ b) = Value.ref (ad b); rw [ha b (h b rfl)]
theorem ma_tl_ad {ad ad₉ : Nat → Nat} {n : Nat} {L : ma_L} (h : ma_cL n L) (ha : ∀ b, b < n → ad₉ b = ad b) : ma_tl ad₉ L = ma_tl ad L := by
  unfold ma_tl
  apply List.map_congr_left
  intro q hq
  rw [ma_tv_ad (h q hq) ha]
theorem ma_ts_ad {ad ad₉ : Nat → Nat} {n : Nat} {st : List ma_V} (h : ma_cs n st) (ha : ∀ b, b < n → ad₉ b = ad b) : ma_ts ad₉ st = ma_ts ad st := by
  unfold ma_ts
  apply List.map_congr_left
  intro q hq
  rw [ma_tv_ad (h q hq) ha]
theorem ma_rd_cv {S : ma_S} (h : ma_ch S) (c k : Nat) (ty : FieldType) : ma_cv (mN S) (ma_rd S c k ty) := by
  intro b hb
  cases ty <;> simp only [ma_rd, reduceCtorEq, Sum.inr.injEq] at hb
  · exact h.1 c k b hb
  · exact h.1 c k b hb
theorem ma_E_ad {kA : Nat → ClassId} {ad ad₉ : Nat → Nat} {S : ma_S} (h : ma_ch S) (ha : ∀ b, b < mN S → ad₉ b = ad b) (c : Nat) : ma_E kA ad₉ S c = ma_E kA ad S c := by
  unfold ma_E
  have h1 : ma_fs ad₉ S c (mH S c).1 = ma_fs ad S c (mH S c).1 := by
    unfold ma_fs
    apply List.map_congr_left
    intro k _
    rw [ma_tv_ad (ma_rd_cv h c k _) ha]
  have h2 : (fun j => (mR S c j).map ad₉) = (fun j => (mR S c j).map ad) := by
    funext j
    cases hr : mR S c j with
    | none => rfl
    | some b => show some (ad₉ b) = some (ad b); rw [ha b (h.1 c j b hr)]
  rw [h1, h2]
theorem ma_E_congr {kA : Nat → ClassId} {ad : Nat → Nat} {S S₉ : ma_S} {c : Nat} (h1 : mH S₉ c = mH S c) (h2 : mI S₉ c = mI S c) (h3 : mL S₉ c = mL S c) (h4 : mR S₉ c = mR S c) : ma_E kA ad S₉ c = ma_E kA ad S c := by
  have h5 : ∀ k ty, ma_rd S₉ c k ty = ma_rd S c k ty := by
    intro k ty
    cases ty <;> simp only [ma_rd, h2, h3, h4]
  unfold ma_E ma_fs
  simp only [h1, h2, h3, h4, h5]
theorem ma_wl_new {kA : Nat → ClassId} {ad : Nat → Nat} {S : ma_S} (h : ma_ch S) (t n q : Nat) : ma_wl kA (va_up ad (mN S) q) (ma_new S t n) = ma_wl kA ad S ++ [(q, ma_E kA (va_up ad (mN S) q) (ma_new S t n) (mN S))] := by
  have h32 := h.2
  unfold ma_wl
  have hn : mN (ma_new S t n) - 64 = (mN S - 64) + 1 := by show S.1 + 1 - 64 = _; show _ = S.1 - 64 + 1; have : 64 ≤ S.1 := h32; omega
  rw [hn, List.range_succ, List.map_append]
  congr 1
  · apply List.map_congr_left
    intro j hj
    have hj := List.mem_range.mp hj
    have hne : j + 64 ≠ mN S := by omega
    have e1 : va_up ad (mN S) q (j + 64) = ad (j + 64) := va_up_ne ad q hne
    have e2 : ma_E kA (va_up ad (mN S) q) (ma_new S t n) (j + 64) = ma_E kA ad S (j + 64) := by
      rw [← ma_E_ad (ad₉ := va_up ad (mN S) q) h (fun b hb => va_up_ne ad q (by omega))]
      have hne : j + 64 ≠ S.1 := hne
      exact ma_E_congr (if_neg hne) (if_neg hne) (if_neg hne) (if_neg hne)
    rw [e1, e2]
  · have e : mN S - 64 + 64 = mN S := Nat.sub_add_cancel h32
    rw [List.map_cons, List.map_nil, e, va_up_self]
theorem ma_new_ch {S : ma_S} (h : ma_ch S) (t n : Nat) : ma_ch (ma_new S t n) := by
  refine ⟨fun c k b hb => ?_, Nat.le_succ_of_le h.2⟩
  have hb : ma_uc (mR S) S.1 (fun _ => none) c k = some b := hb
  unfold ma_uc at hb
  split at hb
  · cases hb
  · exact Nat.lt_succ_of_lt (h.1 c k b hb)
theorem ma_put_ch {S : ma_S} (h : ma_ch S) {c k : Nat} {v : ma_V} (hv : ma_cv (mN S) v) : ma_ch (ma_put S c k v) := by
  rcases v with x | x | r
  · exact h
  · exact h
  · refine ⟨fun c₉ k₉ b hb => ?_, h.2⟩
    have hb : ma_u (mR S) c k r c₉ k₉ = some b := hb
    unfold ma_u at hb
    split at hb
    · exact hv b (by rw [hb])
    · exact h.1 c₉ k₉ b hb
theorem ma_put_n (S : ma_S) (c k : Nat) (v : ma_V) : mN (ma_put S c k v) = mN S ∧ mC (ma_put S c k v) = mC S ∧ mZ (ma_put S c k v) = mZ S ∧ mH (ma_put S c k v) = mH S := by
  rcases v with x | x | r <;> exact ⟨rfl, rfl, rfl, rfl⟩
theorem ma_put_o {kA : Nat → ClassId} {ad : Nat → Nat} {S : ma_S} {c k : Nat} {v : ma_V} {c₉ : Nat} (h : c₉ ≠ c) : ma_E kA ad (ma_put S c k v) c₉ = ma_E kA ad S c₉ := by
  rcases v with x | x | r
  · exact ma_E_congr rfl (ma_u_ne _ _ _ h) rfl rfl
  · exact ma_E_congr rfl rfl (ma_u_ne _ _ _ h) rfl
  · exact ma_E_congr rfl rfl rfl (ma_u_ne _ _ _ h)

/-! from 25.links -/
/-! field links by numbers: (own class, pool entry, class of the object) to the field's place; each with its rows of tables_1 -/
def ma_cn (o : Nat) : String := match o with
  | 0 => "java/lang/ClassCastException"
  | 1 => "CollectorHouse$Ages"
  | 2 => "CollectorHouse$Counts"
  | 3 => "CollectorHouse$Halves"
  | 4 => "CollectorHouse$Regions"
  | 5 => "CollectorHouse$Slide"
  | 6 => "CollectorHouse$Steps"
  | 7 => "CollectorHouse$Store"
  | 8 => "CollectorHouse$Sweep"
  | 9 => "CollectorHouse$Thing"
  | 10 => "CollectorHouse$Walk"
  | 11 => "CollectorHouse"
  | 12 => "CollectorHouseModel"
  | 13 => "CollectorHouse$Collector"
  | 14 => "CollectorHouseLaw"
  | 15 => "java/util/Arrays"
  | 16 => "java/lang/Math"
  | 17 => "java/lang/String"
  | 18 => "java/lang/StringLatin1"
  | 19 => "jdk/internal/util/Preconditions"
  | _ => ""
/-- private methods, called on objects of a class below -/
def ma_sx : List Cond := [.selects "CollectorHouse$Counts" ⟨"CollectorHouse$Sweep", "fitFirst", "(III)I"⟩ ⟨"CollectorHouse$Sweep", "fitFirst", "(III)I"⟩, .selects "CollectorHouse$Counts" ⟨"CollectorHouse$Sweep", "fitNext", "(I)I"⟩ ⟨"CollectorHouse$Sweep", "fitNext", "(I)I"⟩, .selects "CollectorHouse$Counts" ⟨"CollectorHouse$Sweep", "fitByLength", "(IZ)I"⟩ ⟨"CollectorHouse$Sweep", "fitByLength", "(IZ)I"⟩, .selects "CollectorHouse$Steps" ⟨"CollectorHouse$Sweep", "fitFirst", "(III)I"⟩ ⟨"CollectorHouse$Sweep", "fitFirst", "(III)I"⟩, .selects "CollectorHouse$Steps" ⟨"CollectorHouse$Sweep", "fitNext", "(I)I"⟩ ⟨"CollectorHouse$Sweep", "fitNext", "(I)I"⟩, .selects "CollectorHouse$Steps" ⟨"CollectorHouse$Sweep", "fitByLength", "(IZ)I"⟩ ⟨"CollectorHouse$Sweep", "fitByLength", "(IZ)I"⟩]
def ma_TB : List Cond := (ma_sx ++ lw_tbl).filter goodWord
theorem ma_TB_in {w : Cond} {j : Nat} (h : decide (ma_ti j = some w) = true) (hg : goodWord w = true) : w ∈ ma_TB :=
  List.mem_filter.mpr ⟨List.mem_append_right _ (List.mem_append_right _ (tb_in (of_decide_eq_true h))), hg⟩
theorem ma_TB_p {w : Cond} {i : Nat} (h : decide ((ma_sx ++ k2_sels lw_privs)[i]? = some w) = true) (hg : goodWord w = true) : w ∈ ma_TB := by
  have h := List.mem_append.mp (List.mem_of_getElem? (of_decide_eq_true h))
  refine List.mem_filter.mpr ⟨?_, hg⟩
  rcases h with h | h
  · exact List.mem_append_left _ h
  · exact List.mem_append_right _ (List.mem_append_left _ h)
def ma_flc (q : (Nat × Nat × Nat × Nat) × String × Nat × Nat) : Bool := match vwCl[q.1.2.2.1]? with
  | some (_, T, N) => decide (q.1.2.2.2 < N) && decide (N = ma_fn q.1.2.2.1) && decide (parseFieldDescriptor (T q.1.2.2.2).2.2.1 = some (ma_ft q.1.2.2.1 q.1.2.2.2)) &&
    (decide (ma_ti (q.2.2.1) = some (.fieldLink (ma_cn q.1.1) q.1.2.1 q.2.1 (T q.1.2.2.2).2.1 (T q.1.2.2.2).2.2.1)) && goodWord (.fieldLink (ma_cn q.1.1) q.1.2.1 q.2.1 (T q.1.2.2.2).2.1 (T q.1.2.2.2).2.2.1)) &&
    (decide (q.2.1 = (T q.1.2.2.2).1) || (decide (ma_ti (q.2.2.2) = some (.sameField q.2.1 (T q.1.2.2.2).1 (T q.1.2.2.2).2.1 (T q.1.2.2.2).2.2.1)) && goodWord (.sameField q.2.1 (T q.1.2.2.2).1 (T q.1.2.2.2).2.1 (T q.1.2.2.2).2.2.1)))
  | none => false
/-- rows in small lists; of each the class and the numbers between which its rows lie; those that may hold (o, x) -/
def kh_cs {α : Type} (o x : Nat) : List ((Nat × Nat × Nat) × List α) → List α
  | [] => []
  | c :: r => bif Nat.beq c.1.1 o && (Nat.ble c.1.2.1 x && Nat.ble x c.1.2.2) then c.2 ++ kh_cs o x r else kh_cs o x r
theorem kh_ok {α : Type} {p : α → Bool} {o x : Nat} : ∀ ks : List ((Nat × Nat × Nat) × List α), ks.all (fun c => c.2.all p) = true → ∀ q ∈ kh_cs o x ks, p q = true
  | [], _, q, hq => absurd hq (by simp [kh_cs])
  | c :: r, h, q, hq => by
    simp only [List.all_cons, Bool.and_eq_true] at h
    unfold kh_cs at hq
    cases hb : (Nat.beq c.1.1 o && (Nat.ble c.1.2.1 x && Nat.ble x c.1.2.2)) with
    | true =>
      rw [hb] at hq
      rcases List.mem_append.mp hq with hq | hq
      · exact List.all_eq_true.mp h.1 q hq
      · exact kh_ok r h.2 q hq
    | false =>
      rw [hb] at hq
      exact kh_ok r h.2 q hq
def ma_flh_0 : List ((Nat × Nat × Nat × Nat) × String × Nat × Nat) := [((1, 9, 1, 9), "CollectorHouse$Ages", 225, 0), ((1, 15, 1, 2), "CollectorHouse$Ages", 218, 0), ((1, 19, 1, 3), "CollectorHouse$Ages", 219, 0), ((1, 22, 1, 4), "CollectorHouse$Ages", 220, 0), ((1, 25, 1, 5), "CollectorHouse$Ages", 221, 0), ((1, 28, 1, 6), "CollectorHouse$Ages", 222, 0), ((1, 31, 1, 7), "CollectorHouse$Ages", 223, 0), ((1, 34, 1, 8), "CollectorHouse$Ages", 224, 0), ((1, 62, 9, 4), "CollectorHouse$Thing", 1041, 0), ((1, 67, 9, 2), "CollectorHouse$Thing", 1028, 0), ((1, 70, 1, 1), "CollectorHouse$Ages", 166, 167), ((1, 80, 1, 0), "CollectorHouse$Ages", 159, 160), ((1, 119, 7, 6), "CollectorHouse$Store", 59, 0), ((1, 126, 9, 5), "CollectorHouse$Thing", 1045, 0)]
def ma_flh_1 : List ((Nat × Nat × Nat × Nat) × String × Nat × Nat) := [((1, 147, 10, 4), "CollectorHouse$Walk", 119, 0)]
def ma_flh_2 : List ((Nat × Nat × Nat × Nat) × String × Nat × Nat) := [((2, 11, 2, 5), "CollectorHouse$Counts", 252, 0), ((2, 17, 2, 6), "CollectorHouse$Counts", 253, 0), ((2, 21, 9, 6), "CollectorHouse$Thing", 1047, 0), ((2, 25, 2, 7), "CollectorHouse$Counts", 254, 0), ((2, 41, 2, 3), "CollectorHouse$Counts", 153, 154), ((2, 57, 9, 8), "CollectorHouse$Thing", 1054, 0)]
def ma_flh_3 : List ((Nat × Nat × Nat × Nat) × String × Nat × Nat) := [((3, 9, 3, 2), "CollectorHouse$Halves", 200, 0), ((3, 15, 3, 3), "CollectorHouse$Halves", 201, 0), ((3, 18, 3, 4), "CollectorHouse$Halves", 202, 0), ((3, 29, 9, 4), "CollectorHouse$Thing", 1040, 0), ((3, 34, 9, 2), "CollectorHouse$Thing", 1027, 0), ((3, 40, 3, 1), "CollectorHouse$Halves", 164, 165), ((3, 44, 10, 4), "CollectorHouse$Walk", 117, 0), ((3, 53, 3, 0), "CollectorHouse$Halves", 155, 156)]
def ma_flh_4 : List ((Nat × Nat × Nat × Nat) × String × Nat × Nat) := [((4, 9, 4, 7), "CollectorHouse$Regions", 304, 0), ((4, 15, 4, 8), "CollectorHouse$Regions", 305, 0), ((4, 18, 4, 2), "CollectorHouse$Regions", 299, 0), ((4, 28, 4, 3), "CollectorHouse$Regions", 300, 0), ((4, 31, 4, 4), "CollectorHouse$Regions", 301, 0), ((4, 34, 4, 5), "CollectorHouse$Regions", 302, 0), ((4, 63, 9, 2), "CollectorHouse$Thing", 1029, 0), ((4, 83, 4, 6), "CollectorHouse$Regions", 303, 0), ((4, 97, 9, 4), "CollectorHouse$Thing", 1042, 0), ((4, 100, 4, 0), "CollectorHouse$Regions", 161, 162), ((4, 104, 7, 6), "CollectorHouse$Store", 60, 0), ((4, 117, 9, 7), "CollectorHouse$Thing", 1052, 0)]
def ma_flh_5 : List ((Nat × Nat × Nat × Nat) × String × Nat × Nat) := [((5, 9, 5, 2), "CollectorHouse$Slide", 185, 0), ((5, 15, 5, 3), "CollectorHouse$Slide", 186, 0), ((5, 22, 9, 4), "CollectorHouse$Thing", 1039, 0), ((5, 27, 9, 2), "CollectorHouse$Thing", 1026, 0)]
def ma_flh_6 : List ((Nat × Nat × Nat × Nat) × String × Nat × Nat) := [((6, 14, 6, 5), "CollectorHouse$Steps", 275, 0), ((6, 24, 6, 6), "CollectorHouse$Steps", 276, 0), ((6, 28, 6, 7), "CollectorHouse$Steps", 277, 0), ((6, 31, 6, 8), "CollectorHouse$Steps", 278, 0), ((6, 35, 6, 0), "CollectorHouse$Steps", 146, 147), ((6, 38, 6, 3), "CollectorHouse$Steps", 151, 152), ((6, 42, 7, 8), "CollectorHouse$Store", 65, 0), ((6, 104, 10, 4), "CollectorHouse$Walk", 118, 0), ((6, 107, 10, 3), "CollectorHouse$Walk", 115, 0)]
def ma_flh_7 : List ((Nat × Nat × Nat × Nat) × String × Nat × Nat) := [((7, 11, 7, 0), "CollectorHouse$Store", 46, 0), ((7, 17, 7, 1), "CollectorHouse$Store", 47, 0), ((7, 21, 7, 2), "CollectorHouse$Store", 48, 0), ((7, 24, 7, 3), "CollectorHouse$Store", 50, 0), ((7, 27, 7, 4), "CollectorHouse$Store", 52, 0), ((7, 36, 7, 5), "CollectorHouse$Store", 54, 0), ((7, 40, 7, 6), "CollectorHouse$Store", 57, 0), ((7, 43, 7, 7), "CollectorHouse$Store", 62, 0), ((7, 46, 7, 8), "CollectorHouse$Store", 64, 0), ((7, 49, 7, 9), "CollectorHouse$Store", 67, 0), ((7, 52, 7, 10), "CollectorHouse$Store", 69, 0), ((7, 55, 7, 11), "CollectorHouse$Store", 71, 0), ((7, 58, 7, 12), "CollectorHouse$Store", 73, 0), ((7, 61, 9, 4), "CollectorHouse$Thing", 1037, 0)]
def ma_flh_8 : List ((Nat × Nat × Nat × Nat) × String × Nat × Nat) := [((7, 64, 9, 2), "CollectorHouse$Thing", 1024, 0), ((7, 67, 9, 0), "CollectorHouse$Thing", 1019, 0), ((7, 74, 9, 3), "CollectorHouse$Thing", 1034, 0), ((7, 98, 9, 6), "CollectorHouse$Thing", 1048, 0), ((7, 101, 9, 7), "CollectorHouse$Thing", 1050, 0), ((7, 108, 9, 8), "CollectorHouse$Thing", 1055, 0)]
def ma_flh_9 : List ((Nat × Nat × Nat × Nat) × String × Nat × Nat) := [((8, 9, 2, 0), "CollectorHouse$Sweep", 145, 0), ((8, 9, 6, 0), "CollectorHouse$Sweep", 145, 0), ((8, 9, 8, 2), "CollectorHouse$Sweep", 145, 0), ((8, 15, 2, 1), "CollectorHouse$Sweep", 148, 0), ((8, 15, 6, 1), "CollectorHouse$Sweep", 148, 0), ((8, 15, 8, 3), "CollectorHouse$Sweep", 148, 0), ((8, 18, 2, 2), "CollectorHouse$Sweep", 149, 0), ((8, 18, 6, 2), "CollectorHouse$Sweep", 149, 0), ((8, 18, 8, 4), "CollectorHouse$Sweep", 149, 0), ((8, 29, 9, 4), "CollectorHouse$Thing", 1038, 0), ((8, 34, 9, 2), "CollectorHouse$Thing", 1025, 0), ((8, 46, 2, 3), "CollectorHouse$Sweep", 157, 158), ((8, 46, 6, 3), "CollectorHouse$Sweep", 157, 158), ((8, 46, 8, 0), "CollectorHouse$Sweep", 157, 158)]
def ma_flh_10 : List ((Nat × Nat × Nat × Nat) × String × Nat × Nat) := [((8, 67, 7, 12), "CollectorHouse$Store", 74, 0)]
def ma_flh_11 : List ((Nat × Nat × Nat × Nat) × String × Nat × Nat) := [((9, 7, 9, 0), "CollectorHouse$Thing", 1017, 0), ((9, 13, 9, 1), "CollectorHouse$Thing", 1021, 0), ((9, 16, 9, 2), "CollectorHouse$Thing", 1023, 0), ((9, 19, 9, 3), "CollectorHouse$Thing", 1033, 0), ((9, 23, 9, 4), "CollectorHouse$Thing", 1035, 0)]
def ma_flh_12 : List ((Nat × Nat × Nat × Nat) × String × Nat × Nat) := [((10, 9, 10, 1), "CollectorHouse$Walk", 112, 0), ((10, 15, 10, 2), "CollectorHouse$Walk", 113, 0), ((10, 18, 10, 0), "CollectorHouse$Walk", 111, 0), ((10, 28, 10, 3), "CollectorHouse$Walk", 114, 0), ((10, 32, 10, 4), "CollectorHouse$Walk", 116, 0), ((10, 35, 10, 5), "CollectorHouse$Walk", 120, 0), ((10, 49, 9, 4), "CollectorHouse$Thing", 1036, 0), ((10, 58, 9, 0), "CollectorHouse$Thing", 1018, 0), ((10, 61, 7, 2), "CollectorHouse$Store", 49, 0), ((10, 74, 7, 5), "CollectorHouse$Store", 55, 0), ((10, 77, 7, 4), "CollectorHouse$Store", 53, 0), ((10, 80, 7, 6), "CollectorHouse$Store", 58, 0), ((10, 83, 9, 7), "CollectorHouse$Thing", 1049, 0), ((10, 89, 9, 2), "CollectorHouse$Thing", 1030, 0)]
def ma_flh_13 : List ((Nat × Nat × Nat × Nat) × String × Nat × Nat) := [((11, 9, 11, 0), "CollectorHouse", 323, 0), ((11, 13, 11, 4), "CollectorHouse", 327, 0), ((11, 17, 11, 5), "CollectorHouse", 328, 0), ((11, 20, 11, 6), "CollectorHouse", 329, 0), ((11, 26, 11, 8), "CollectorHouse", 331, 0), ((11, 35, 11, 9), "CollectorHouse", 332, 0), ((11, 64, 11, 10), "CollectorHouse", 333, 0), ((11, 68, 11, 1), "CollectorHouse", 324, 0), ((11, 82, 11, 7), "CollectorHouse", 330, 0), ((11, 92, 11, 2), "CollectorHouse", 325, 0), ((11, 98, 11, 11), "CollectorHouse", 334, 0), ((11, 173, 7, 3), "CollectorHouse$Store", 51, 0), ((11, 182, 9, 0), "CollectorHouse$Thing", 1020, 0), ((11, 189, 9, 7), "CollectorHouse$Thing", 1051, 0)]
def ma_flh_14 : List ((Nat × Nat × Nat × Nat) × String × Nat × Nat) := [((11, 199, 9, 8), "CollectorHouse$Thing", 1056, 0), ((11, 214, 9, 4), "CollectorHouse$Thing", 1044, 0), ((11, 217, 9, 2), "CollectorHouse$Thing", 1032, 0), ((11, 220, 9, 1), "CollectorHouse$Thing", 1022, 0), ((11, 223, 9, 5), "CollectorHouse$Thing", 1046, 0), ((11, 238, 7, 7), "CollectorHouse$Store", 63, 0), ((11, 241, 7, 8), "CollectorHouse$Store", 66, 0), ((11, 244, 7, 6), "CollectorHouse$Store", 61, 0), ((11, 247, 7, 9), "CollectorHouse$Store", 68, 0), ((11, 250, 7, 10), "CollectorHouse$Store", 70, 0), ((11, 253, 7, 11), "CollectorHouse$Store", 72, 0), ((11, 256, 7, 12), "CollectorHouse$Store", 75, 0), ((11, 259, 7, 5), "CollectorHouse$Store", 56, 0), ((11, 275, 11, 3), "CollectorHouse", 326, 0)]
def ma_flh_15 : List ((Nat × Nat × Nat × Nat) × String × Nat × Nat) := [((12, 1, 12, 0), "CollectorHouseModel", 1514, 0), ((12, 13, 12, 1), "CollectorHouseModel", 1515, 0), ((12, 17, 12, 2), "CollectorHouseModel", 1516, 0), ((12, 20, 12, 5), "CollectorHouseModel", 1519, 0), ((12, 24, 12, 6), "CollectorHouseModel", 1520, 0), ((12, 27, 12, 31), "CollectorHouseModel", 1545, 0), ((12, 31, 12, 32), "CollectorHouseModel", 1546, 0), ((12, 34, 12, 33), "CollectorHouseModel", 1547, 0), ((12, 37, 12, 34), "CollectorHouseModel", 1548, 0), ((12, 40, 12, 35), "CollectorHouseModel", 1549, 0), ((12, 43, 12, 36), "CollectorHouseModel", 1550, 0), ((12, 46, 12, 37), "CollectorHouseModel", 1551, 0), ((12, 49, 12, 38), "CollectorHouseModel", 1552, 0), ((12, 52, 12, 39), "CollectorHouseModel", 1553, 0)]
def ma_flh_16 : List ((Nat × Nat × Nat × Nat) × String × Nat × Nat) := [((12, 56, 12, 40), "CollectorHouseModel", 1554, 0), ((12, 59, 12, 41), "CollectorHouseModel", 1555, 0), ((12, 62, 12, 42), "CollectorHouseModel", 1556, 0), ((12, 65, 12, 43), "CollectorHouseModel", 1557, 0), ((12, 68, 12, 51), "CollectorHouseModel", 1565, 0), ((12, 71, 12, 52), "CollectorHouseModel", 1566, 0), ((12, 74, 12, 53), "CollectorHouseModel", 1567, 0), ((12, 77, 12, 54), "CollectorHouseModel", 1568, 0), ((12, 80, 12, 65), "CollectorHouseModel", 1579, 0), ((12, 83, 12, 66), "CollectorHouseModel", 1580, 0), ((12, 86, 12, 72), "CollectorHouseModel", 1586, 0), ((12, 89, 12, 74), "CollectorHouseModel", 1588, 0), ((12, 92, 12, 78), "CollectorHouseModel", 1592, 0), ((12, 95, 12, 79), "CollectorHouseModel", 1593, 0)]
def ma_flh_17 : List ((Nat × Nat × Nat × Nat) × String × Nat × Nat) := [((12, 98, 12, 81), "CollectorHouseModel", 1595, 0), ((12, 101, 12, 82), "CollectorHouseModel", 1596, 0), ((12, 104, 12, 83), "CollectorHouseModel", 1597, 0), ((12, 107, 12, 3), "CollectorHouseModel", 1517, 0), ((12, 118, 12, 7), "CollectorHouseModel", 1521, 0), ((12, 121, 12, 67), "CollectorHouseModel", 1581, 0), ((12, 124, 12, 4), "CollectorHouseModel", 1518, 0), ((12, 127, 12, 68), "CollectorHouseModel", 1582, 0), ((12, 130, 12, 69), "CollectorHouseModel", 1583, 0), ((12, 133, 12, 70), "CollectorHouseModel", 1584, 0), ((12, 147, 12, 71), "CollectorHouseModel", 1585, 0), ((12, 154, 12, 22), "CollectorHouseModel", 1536, 0), ((12, 159, 12, 21), "CollectorHouseModel", 1535, 0), ((12, 162, 12, 20), "CollectorHouseModel", 1534, 0)]
def ma_flh_18 : List ((Nat × Nat × Nat × Nat) × String × Nat × Nat) := [((12, 165, 12, 23), "CollectorHouseModel", 1537, 0), ((12, 168, 12, 24), "CollectorHouseModel", 1538, 0), ((12, 171, 12, 25), "CollectorHouseModel", 1539, 0), ((12, 174, 12, 26), "CollectorHouseModel", 1540, 0), ((12, 183, 12, 27), "CollectorHouseModel", 1541, 0), ((12, 186, 12, 30), "CollectorHouseModel", 1544, 0), ((12, 190, 12, 28), "CollectorHouseModel", 1542, 0), ((12, 193, 12, 29), "CollectorHouseModel", 1543, 0), ((12, 199, 12, 10), "CollectorHouseModel", 1524, 0), ((12, 202, 12, 11), "CollectorHouseModel", 1525, 0), ((12, 205, 12, 12), "CollectorHouseModel", 1526, 0), ((12, 207, 12, 13), "CollectorHouseModel", 1527, 0), ((12, 210, 12, 14), "CollectorHouseModel", 1528, 0), ((12, 213, 12, 15), "CollectorHouseModel", 1529, 0)]
def ma_flh_19 : List ((Nat × Nat × Nat × Nat) × String × Nat × Nat) := [((12, 216, 12, 16), "CollectorHouseModel", 1530, 0), ((12, 219, 12, 17), "CollectorHouseModel", 1531, 0), ((12, 222, 12, 18), "CollectorHouseModel", 1532, 0), ((12, 225, 12, 19), "CollectorHouseModel", 1533, 0), ((12, 228, 12, 9), "CollectorHouseModel", 1523, 0), ((12, 234, 12, 64), "CollectorHouseModel", 1578, 0), ((12, 237, 12, 8), "CollectorHouseModel", 1522, 0), ((12, 240, 12, 44), "CollectorHouseModel", 1558, 0), ((12, 243, 12, 45), "CollectorHouseModel", 1559, 0), ((12, 246, 12, 46), "CollectorHouseModel", 1560, 0), ((12, 249, 12, 47), "CollectorHouseModel", 1561, 0), ((12, 252, 12, 48), "CollectorHouseModel", 1562, 0), ((12, 255, 12, 49), "CollectorHouseModel", 1563, 0), ((12, 258, 12, 50), "CollectorHouseModel", 1564, 0)]
def ma_flh_20 : List ((Nat × Nat × Nat × Nat) × String × Nat × Nat) := [((12, 261, 12, 55), "CollectorHouseModel", 1569, 0), ((12, 264, 12, 56), "CollectorHouseModel", 1570, 0), ((12, 267, 12, 57), "CollectorHouseModel", 1571, 0), ((12, 270, 12, 58), "CollectorHouseModel", 1572, 0), ((12, 273, 12, 61), "CollectorHouseModel", 1575, 0), ((12, 276, 12, 59), "CollectorHouseModel", 1573, 0), ((12, 279, 12, 60), "CollectorHouseModel", 1574, 0), ((12, 282, 12, 62), "CollectorHouseModel", 1576, 0), ((12, 285, 12, 63), "CollectorHouseModel", 1577, 0), ((12, 291, 12, 73), "CollectorHouseModel", 1587, 0), ((12, 356, 12, 75), "CollectorHouseModel", 1589, 0), ((12, 359, 12, 77), "CollectorHouseModel", 1591, 0), ((12, 362, 12, 76), "CollectorHouseModel", 1590, 0), ((12, 390, 12, 80), "CollectorHouseModel", 1594, 0)]
def ma_flh_21 : List ((Nat × Nat × Nat × Nat) × String × Nat × Nat) := [((12, 420, 12, 84), "CollectorHouseModel", 1598, 0)]
def ma_flh_22 : List ((Nat × Nat × Nat × Nat) × String × Nat × Nat) := [((13, 9, 1, 0), "CollectorHouse$Collector", 150, 0), ((13, 9, 2, 3), "CollectorHouse$Collector", 150, 0), ((13, 9, 3, 0), "CollectorHouse$Collector", 150, 0), ((13, 9, 4, 0), "CollectorHouse$Collector", 150, 0), ((13, 9, 5, 0), "CollectorHouse$Collector", 150, 0), ((13, 9, 6, 3), "CollectorHouse$Collector", 150, 0), ((13, 9, 8, 0), "CollectorHouse$Collector", 150, 0), ((13, 15, 1, 1), "CollectorHouse$Collector", 163, 0), ((13, 15, 2, 4), "CollectorHouse$Collector", 163, 0), ((13, 15, 3, 1), "CollectorHouse$Collector", 163, 0), ((13, 15, 4, 1), "CollectorHouse$Collector", 163, 0), ((13, 15, 5, 1), "CollectorHouse$Collector", 163, 0), ((13, 15, 6, 4), "CollectorHouse$Collector", 163, 0), ((13, 15, 8, 1), "CollectorHouse$Collector", 163, 0)]
def ma_flh_23 : List ((Nat × Nat × Nat × Nat) × String × Nat × Nat) := [((13, 38, 9, 2), "CollectorHouse$Thing", 1031, 0), ((13, 44, 9, 7), "CollectorHouse$Thing", 1053, 0), ((13, 51, 9, 4), "CollectorHouse$Thing", 1043, 0)]
def ma_flk : List ((Nat × Nat × Nat) × List ((Nat × Nat × Nat × Nat) × String × Nat × Nat)) := [((1, 9, 126), ma_flh_0), ((1, 147, 147), ma_flh_1), ((2, 11, 57), ma_flh_2), ((3, 9, 53), ma_flh_3), ((4, 9, 117), ma_flh_4), ((5, 9, 27), ma_flh_5), ((6, 14, 107), ma_flh_6), ((7, 11, 61), ma_flh_7), ((7, 64, 108), ma_flh_8), ((8, 9, 46), ma_flh_9), ((8, 67, 67), ma_flh_10), ((9, 7, 23), ma_flh_11), ((10, 9, 89), ma_flh_12), ((11, 9, 189), ma_flh_13), ((11, 199, 275), ma_flh_14), ((12, 1, 52), ma_flh_15), ((12, 56, 95), ma_flh_16), ((12, 98, 162), ma_flh_17), ((12, 165, 213), ma_flh_18), ((12, 216, 258), ma_flh_19), ((12, 261, 390), ma_flh_20), ((12, 420, 420), ma_flh_21), ((13, 9, 15), ma_flh_22), ((13, 38, 51), ma_flh_23)]
set_option maxRecDepth 20000 in
theorem ma_flh_ok0 : ma_flh_0.all ma_flc = true := by decide +kernel
set_option maxRecDepth 20000 in
theorem ma_flh_ok1 : ma_flh_1.all ma_flc = true := by decide +kernel
set_option maxRecDepth 20000 in
theorem ma_flh_ok2 : ma_flh_2.all ma_flc = true := by decide +kernel
set_option maxRecDepth 20000 in
theorem ma_flh_ok3 : ma_flh_3.all ma_flc = true := by decide +kernel
set_option maxRecDepth 20000 in
theorem ma_flh_ok4 : ma_flh_4.all ma_flc = true := by decide +kernel
set_option maxRecDepth 20000 in
theorem ma_flh_ok5 : ma_flh_5.all ma_flc = true := by decide +kernel
set_option maxRecDepth 20000 in
theorem ma_flh_ok6 : ma_flh_6.all ma_flc = true := by decide +kernel
set_option maxRecDepth 20000 in
theorem ma_flh_ok7 : ma_flh_7.all ma_flc = true := by decide +kernel
set_option maxRecDepth 20000 in
theorem ma_flh_ok8 : ma_flh_8.all ma_flc = true := by decide +kernel
set_option maxRecDepth 20000 in
theorem ma_flh_ok9 : ma_flh_9.all ma_flc = true := by decide +kernel
set_option maxRecDepth 20000 in
theorem ma_flh_ok10 : ma_flh_10.all ma_flc = true := by decide +kernel
set_option maxRecDepth 20000 in
theorem ma_flh_ok11 : ma_flh_11.all ma_flc = true := by decide +kernel
set_option maxRecDepth 20000 in
theorem ma_flh_ok12 : ma_flh_12.all ma_flc = true := by decide +kernel
set_option maxRecDepth 20000 in
theorem ma_flh_ok13 : ma_flh_13.all ma_flc = true := by decide +kernel
set_option maxRecDepth 20000 in
theorem ma_flh_ok14 : ma_flh_14.all ma_flc = true := by decide +kernel
set_option maxRecDepth 20000 in
theorem ma_flh_ok15 : ma_flh_15.all ma_flc = true := by decide +kernel
set_option maxRecDepth 20000 in
theorem ma_flh_ok16 : ma_flh_16.all ma_flc = true := by decide +kernel
set_option maxRecDepth 20000 in
theorem ma_flh_ok17 : ma_flh_17.all ma_flc = true := by decide +kernel
set_option maxRecDepth 20000 in
theorem ma_flh_ok18 : ma_flh_18.all ma_flc = true := by decide +kernel
set_option maxRecDepth 20000 in
theorem ma_flh_ok19 : ma_flh_19.all ma_flc = true := by decide +kernel
set_option maxRecDepth 20000 in
theorem ma_flh_ok20 : ma_flh_20.all ma_flc = true := by decide +kernel
set_option maxRecDepth 20000 in
theorem ma_flh_ok21 : ma_flh_21.all ma_flc = true := by decide +kernel
set_option maxRecDepth 20000 in
theorem ma_flh_ok22 : ma_flh_22.all ma_flc = true := by decide +kernel
set_option maxRecDepth 20000 in
theorem ma_flh_ok23 : ma_flh_23.all ma_flc = true := by decide +kernel
theorem ma_flk_ok : ma_flk.all (fun c => c.2.all ma_flc) = true := by
  simp only [ma_flk, List.all_cons, List.all_nil, ma_flh_ok0, ma_flh_ok1, ma_flh_ok2, ma_flh_ok3, ma_flh_ok4, ma_flh_ok5, ma_flh_ok6, ma_flh_ok7, ma_flh_ok8, ma_flh_ok9, ma_flh_ok10, ma_flh_ok11, ma_flh_ok12, ma_flh_ok13, ma_flh_ok14, ma_flh_ok15, ma_flh_ok16, ma_flh_ok17, ma_flh_ok18, ma_flh_ok19, ma_flh_ok20, ma_flh_ok21, ma_flh_ok22, ma_flh_ok23, Bool.and_self]
theorem ma_flh_ok {o x : Nat} : ∀ q ∈ kh_cs o x ma_flk, ma_flc q = true := kh_ok _ ma_flk_ok
def ma_fld (o i t : Nat) : Option Nat := ((kh_cs o i ma_flk).find? (fun q => q.1.1 == o && q.1.2.1 == i && q.1.2.2.1 == t)).map (fun q => q.1.2.2.2)

/-! from 26.classes -/
/-! the classes of the world, by their numbers: their words, types and names -/
theorem ma_lay_in {C : String} {T : u_T} {N : Nat} (is : List Nat) (h : (List.range N).all (fun k => decide (ma_ti (is.getD k 0) = some (u_lay C T k)) && goodWord (u_lay C T k)) = true) : ∀ w ∈ u_ws C T N, w ∈ ma_TB := by
  intro w hw
  obtain ⟨k, hk, rfl⟩ := List.mem_map.mp hw
  have := List.all_eq_true.mp h k hk
  simp only [Bool.and_eq_true] at this
  exact ma_TB_in this.1 this.2
def ma_clok (t : Nat) : Prop := ∃ (C : String) (T : u_T), vwCl[t]? = some (C, T, ma_fn t) ∧ (∀ w ∈ u_ws C T (ma_fn t), w ∈ ma_TB) ∧ (∀ k, k < ma_fn t → parseFieldDescriptor (T k).2.2.1 = some (ma_ft t k)) ∧ ∀ a, a < ma_fn t → ∀ b, b < ma_fn t → a ≠ b → (T a).2.1 ≠ (T b).2.1
theorem ma_clw1 : ∀ w ∈ u_ws RX0 TX0 10, w ∈ ma_TB := ma_lay_in [242, 243, 226, 228, 230, 232, 234, 236, 238, 240] (by decide +kernel)
theorem ma_clok1 : ma_clok 1 := ⟨RX0, TX0, rfl, ma_clw1, tyX0_ok, nmX0⟩
theorem ma_clw2 : ∀ w ∈ u_ws RX2 TX2 8, w ∈ ma_TB := ma_lay_in [261, 262, 263, 264, 265, 255, 257, 259] (by decide +kernel)
theorem ma_clok2 : ma_clok 2 := ⟨RX2, TX2, rfl, ma_clw2, tyX2_ok, nmX2⟩
theorem ma_clw3 : ∀ w ∈ u_ws RX3 TX3 5, w ∈ ma_TB := ma_lay_in [209, 210, 203, 205, 207] (by decide +kernel)
theorem ma_clok3 : ma_clok 3 := ⟨RX3, TX3, rfl, ma_clw3, tyX3_ok, nmX3⟩
theorem ma_clw4 : ∀ w ∈ u_ws RX4 TX4 9, w ∈ ma_TB := ma_lay_in [320, 321, 306, 308, 310, 312, 314, 316, 318] (by decide +kernel)
theorem ma_clok4 : ma_clok 4 := ⟨RX4, TX4, rfl, ma_clw4, tyX4_ok, nmX4⟩
theorem ma_clw5 : ∀ w ∈ u_ws RX5 TX5 4, w ∈ ma_TB := ma_lay_in [191, 192, 187, 189] (by decide +kernel)
theorem ma_clok5 : ma_clok 5 := ⟨RX5, TX5, rfl, ma_clw5, tyX5_ok, nmX5⟩
theorem ma_clw6 : ∀ w ∈ u_ws RX6 TX6 9, w ∈ ma_TB := ma_lay_in [287, 288, 289, 290, 291, 279, 281, 283, 285] (by decide +kernel)
theorem ma_clok6 : ma_clok 6 := ⟨RX6, TX6, rfl, ma_clw6, tyX6_ok, nmX6⟩
theorem ma_clw7 : ∀ w ∈ u_ws RX7 TX7 13, w ∈ ma_TB := ma_lay_in [76, 78, 80, 82, 84, 86, 88, 90, 92, 94, 96, 98, 100] (by decide +kernel)
theorem ma_clok7 : ma_clok 7 := ⟨RX7, TX7, rfl, ma_clw7, tyX7_ok, nmX7⟩
theorem ma_clw8 : ∀ w ∈ u_ws RX8 TX8 5, w ∈ ma_TB := ma_lay_in [174, 176, 168, 170, 172] (by decide +kernel)
theorem ma_clok8 : ma_clok 8 := ⟨RX8, TX8, rfl, ma_clw8, tyX8_ok, nmX8⟩
theorem ma_clw9 : ∀ w ∈ u_ws RX9 TX9 9, w ∈ ma_TB := ma_lay_in [1057, 1059, 1061, 1063, 1065, 1067, 1069, 1071, 1073] (by decide +kernel)
theorem ma_clok9 : ma_clok 9 := ⟨RX9, TX9, rfl, ma_clw9, tyX9_ok, nmX9⟩
theorem ma_clw10 : ∀ w ∈ u_ws RX10 TX10 6, w ∈ ma_TB := ma_lay_in [121, 123, 125, 127, 129, 131] (by decide +kernel)
theorem ma_clok10 : ma_clok 10 := ⟨RX10, TX10, rfl, ma_clw10, tyX10_ok, nmX10⟩
theorem ma_clw11 : ∀ w ∈ u_ws RX11 TX11 12, w ∈ ma_TB := ma_lay_in [335, 337, 339, 341, 343, 345, 347, 349, 351, 353, 355, 357] (by decide +kernel)
theorem ma_clok11 : ma_clok 11 := ⟨RX11, TX11, rfl, ma_clw11, tyX11_ok, nmX11⟩
theorem ma_clw12 : ∀ w ∈ u_ws RX12 TX12 85, w ∈ ma_TB := ma_lay_in [1599, 1601, 1603, 1605, 1607, 1609, 1611, 1613, 1615, 1617, 1619, 1621, 1623, 1625, 1627, 1629, 1631, 1633, 1635, 1637, 1639, 1641, 1643, 1645, 1647, 1649, 1651, 1653, 1655, 1657, 1659, 1661, 1663, 1665, 1667, 1669, 1671, 1673, 1675, 1677, 1679, 1681, 1683, 1685, 1687, 1689, 1691, 1693, 1695, 1697, 1699, 1701, 1703, 1705, 1707, 1709, 1711, 1713, 1715, 1717, 1719, 1721, 1723, 1725, 1727, 1729, 1731, 1733, 1735, 1737, 1739, 1741, 1743, 1745, 1747, 1749, 1751, 1753, 1755, 1757, 1759, 1761, 1763, 1765, 1767] (by decide +kernel)
theorem ma_clok12 : ma_clok 12 := ⟨RX12, TX12, rfl, ma_clw12, tyX12_ok, nmX12⟩
theorem ma_clok_all {t : Nat} (h1 : 1 ≤ t) (h2 : t ≤ 12) : ma_clok t := by
  have h : t = 1 ∨ t = 2 ∨ t = 3 ∨ t = 4 ∨ t = 5 ∨ t = 6 ∨ t = 7 ∨ t = 8 ∨ t = 9 ∨ t = 10 ∨ t = 11 ∨ t = 12 := by omega
  rcases h with rfl | rfl | rfl | rfl | rfl | rfl | rfl | rfl | rfl | rfl | rfl | rfl
  · exact ma_clok1
  · exact ma_clok2
  · exact ma_clok3
  · exact ma_clok4
  · exact ma_clok5
  · exact ma_clok6
  · exact ma_clok7
  · exact ma_clok8
  · exact ma_clok9
  · exact ma_clok10
  · exact ma_clok11
  · exact ma_clok12

/-! from 30.heap -/
/-! THE SMALL MACHINE, part 3: instructions on cells that are there -/
/-- what a field of that type takes as it is -/
def ma_ok (ty : FieldType) (v : ma_V) : Bool := match v with
  | .inl x => decide (narrow ty (.int x) = .int x) && fits ty (.int x)
  | .inr (.inl _) => decide (ty = .long)
  | .inr (.inr _) => match ty with
    | .object _ => true
    | .array _ => true
    | _ => false
theorem ma_ok_spec (ad : Nat → Nat) {ty : FieldType} {v : ma_V} (h : ma_ok ty v = true) : narrow ty (ma_tv ad v) = ma_tv ad v ∧ fits ty (ma_tv ad v) = true := by
  rcases v with x | x | r
  · simp only [ma_ok, Bool.and_eq_true, decide_eq_true_eq] at h
    exact h
  · simp only [ma_ok, decide_eq_true_eq] at h
    subst h
    exact ⟨rfl, rfl⟩
  · cases ty <;> simp only [ma_ok, Bool.false_eq_true] at h
    · cases r <;> exact ⟨rfl, rfl⟩
    · cases r <;> exact ⟨rfl, rfl⟩
/-- what is put there is what is read there -/
theorem ma_rd_put {S : ma_S} {c k : Nat} {ty : FieldType} {v : ma_V} (h : ma_ok ty v = true) : ma_rd (ma_put S c k v) c k ty = v := by
  rcases v with x | x | r
  · cases ty <;> first | (simp [ma_ok, narrow, fits] at h; done) | (simp [ma_rd, ma_put, ma_u, mI, mL, mR]; done)
  · simp only [ma_ok, decide_eq_true_eq] at h
    subst h
    simp [ma_rd, ma_put, ma_u, mI, mL, mR]
  · cases ty <;> simp only [ma_ok, Bool.false_eq_true] at h
    · simp [ma_rd, ma_put, ma_u, mI, mL, mR]
    · simp [ma_rd, ma_put, ma_u, mI, mL, mR]
theorem ma_rd_put_ne {S : ma_S} {c k k₉ : Nat} {ty : FieldType} {v : ma_V} (h : k₉ ≠ k) : ma_rd (ma_put S c k v) c k₉ ty = ma_rd S c k₉ ty := by
  rcases v with x | x | r <;> cases ty <;> simp [ma_rd, ma_put, ma_u, mI, mL, mR, h]
theorem ma_fs_put (ad : Nat → Nat) {S : ma_S} {c k t : Nat} {v : ma_V} (h : ma_ok (ma_ft t k) v = true) : (ma_fs ad S c t).set k (ma_tv ad v) = ma_fs ad (ma_put S c k v) c t := by
  apply List.ext_getElem?
  intro j
  unfold ma_fs
  by_cases hj : j = k
  · subst hj
    by_cases hl : j < ma_fn t
    · rw [List.getElem?_set_self (by simpa using hl), List.getElem?_map, List.getElem?_range hl]
      show _ = some (ma_tv ad (ma_rd (ma_put S c j v) c j (ma_ft t j)))
      rw [ma_rd_put h]
    · rw [List.getElem?_eq_none (by simp; omega), List.getElem?_eq_none (by simp; omega)]
  · rw [List.getElem?_set_ne (Ne.symm hj), List.getElem?_map, List.getElem?_map]
    by_cases hl : j < ma_fn t
    · rw [List.getElem?_range hl]
      show some (ma_tv ad (ma_rd S c j (ma_ft t j))) = some (ma_tv ad (ma_rd (ma_put S c k v) c j (ma_ft t j)))
      rw [ma_rd_put_ne hj]
    · rw [List.getElem?_eq_none (by simp; omega)]
      rfl
/-- a cell of the world -/
def ma_is (S : ma_S) (c : Nat) : Bool := decide (64 ≤ c) && decide (c < mN S)
/-- an index in its row -/
def ma_ix (S : ma_S) (c : Nat) (i : Int32) : Bool := decide (0 ≤ i) && decide (i.toNatClampNeg < (mH S c).2)
theorem ma_ix_in {S : ma_S} {c : Nat} {i : Int32} (h : ma_ix S c i = true) : vp_in i (mH S c).2 := by
  simp only [ma_ix, Bool.and_eq_true, decide_eq_true_eq] at h
  intro q
  rcases q with q | q
  · exact absurd h.1 (Int32.not_le.mpr q)
  · omega
/-- fields and rows: the stack and the heap behind. o: the own class's number; ini: it is a constructor -/
def ma_hp (o : Nat) (ini : Bool) (i : Instr) (n : Nat) (st : List ma_V) (S : ma_S) : Option (List ma_V × ma_S) := match i, n, st with
  | .getfield x, 3, .inr (.inr (some c)) :: r => if ma_is S c && decide (1 ≤ (mH S c).1) && decide ((mH S c).1 ≤ 12) then (ma_fld o x (mH S c).1).map (fun k => (ma_rd S c k (ma_ft (mH S c).1 k) :: r, S)) else none
  | .putfield x, 3, v :: .inr (.inr (some c)) :: r => if ma_is S c && decide (1 ≤ (mH S c).1) && decide ((mH S c).1 ≤ 12) then (match ma_fld o x (mH S c).1, vwCl[(mH S c).1]? with
    | some k, some (_, T, _) => if ma_ok (ma_ft (mH S c).1 k) v && (!(T k).2.2.2 || (ini && decide ((T k).1 = ma_cn o))) then some (r, ma_put S c k v) else none
    | _, _ => none) else none
  | .iaload, 1, .inl j :: .inr (.inr (some c)) :: r => if ma_is S c && decide ((mH S c).1 = 20) && ma_ix S c j then some (.inl (mI S c j.toNatClampNeg) :: r, S) else none
  | .baload, 1, .inl j :: .inr (.inr (some c)) :: r => if ma_is S c && (decide ((mH S c).1 = 21) || decide ((mH S c).1 = 22)) && ma_ix S c j then some (.inl (mI S c j.toNatClampNeg) :: r, S) else none
  | .laload, 1, .inl j :: .inr (.inr (some c)) :: r => if ma_is S c && decide ((mH S c).1 = 23) && ma_ix S c j then some (.inr (.inl (mL S c j.toNatClampNeg)) :: r, S) else none
  | .aaload, 1, .inl j :: .inr (.inr (some c)) :: r => if ma_is S c && (decide ((mH S c).1 = 24) || decide ((mH S c).1 = 25)) && ma_ix S c j then some (.inr (.inr (mR S c j.toNatClampNeg)) :: r, S) else none
  | .iastore, 1, .inl x :: .inl j :: .inr (.inr (some c)) :: r => if ma_is S c && decide ((mH S c).1 = 20) && ma_ix S c j then some (r, ma_put S c j.toNatClampNeg (.inl x)) else none
  | .bastore, 1, .inl x :: .inl j :: .inr (.inr (some c)) :: r => if ma_is S c && ma_ix S c j then (if (mH S c).1 = 21 then some (r, ma_put S c j.toNatClampNeg (.inl (vp_nar .byte x))) else if (mH S c).1 = 22 then some (r, ma_put S c j.toNatClampNeg (.inl (vp_nar .boolean x))) else none) else none
  | .lastore, 1, .inr (.inl x) :: .inl j :: .inr (.inr (some c)) :: r => if ma_is S c && decide ((mH S c).1 = 23) && ma_ix S c j then some (r, ma_put S c j.toNatClampNeg (.inr (.inl x))) else none
  | .aastore, 1, .inr (.inr x) :: .inl j :: .inr (.inr (some c)) :: r => if ma_is S c && decide ((mH S c).1 = 24) && ma_ix S c j then (match x with
    | none => some (r, ma_put S c j.toNatClampNeg (.inr (.inr none)))
    | some b => if ma_is S b && decide ((mH S b).1 = 9) then some (r, ma_put S c j.toNatClampNeg (.inr (.inr (some b)))) else none) else none
  | .arraylength, 1, .inr (.inr (some c)) :: r => if ma_is S c && decide (20 ≤ (mH S c).1) && decide ((mH S c).1 ≤ 25) then some (.inl (Int32.ofNat (mH S c).2) :: r, S) else none
  | _, _, _ => none

theorem ma_fld_spec {o x t k : Nat} {C : String} {T : u_T} {N : Nat} (h : ma_fld o x t = some k) (hc : vwCl[t]? = some (C, T, N)) :
    k < N ∧ ∃ ref : String, Cond.fieldLink (ma_cn o) x ref (T k).2.1 (T k).2.2.1 ∈ ma_TB ∧ (ref = (T k).1 ∨ Cond.sameField ref (T k).1 (T k).2.1 (T k).2.2.1 ∈ ma_TB) := by
  unfold ma_fld at h
  cases hf : (kh_cs o x ma_flk).find? (fun q => q.1.1 == o && q.1.2.1 == x && q.1.2.2.1 == t) with
  | none => rw [hf] at h; cases h
  | some q =>
    rw [hf] at h
    have hk : q.1.2.2.2 = k := Option.some.inj h
    have h1 := List.find?_some hf
    simp only [Bool.and_eq_true, beq_iff_eq] at h1
    obtain ⟨⟨e1, e2⟩, e3⟩ := h1
    have h2 := ma_flh_ok q (List.mem_of_find?_eq_some hf)
    unfold ma_flc at h2
    rw [e3, hc] at h2
    simp only [Bool.and_eq_true, Bool.or_eq_true, e1, e2, e3, hk] at h2
    obtain ⟨⟨⟨⟨a1, a2⟩, a3⟩, a4, a5⟩, a6⟩ := h2
    refine ⟨of_decide_eq_true a1, q.2.1, ma_TB_in a4 a5, ?_⟩
    rcases a6 with a6 | a6
    · exact Or.inl (of_decide_eq_true a6)
    · exact Or.inr (ma_TB_in a6.1 a6.2)
theorem ma_E_obj {kA : Nat → ClassId} {ad : Nat → Nat} {S : ma_S} {c : Nat} (h : (mH S c).1 < 20) : ma_E kA ad S c = .inr ((mH S c).1, ma_fs ad S c (mH S c).1) := if_pos h
theorem ma_E_int {kA : Nat → ClassId} {ad : Nat → Nat} {S : ma_S} {c t : Nat} (ht : (mH S c).1 = t) (h1 : 20 ≤ t) (h2 : t < 23) : ma_E kA ad S c = .inl (kA t, (mH S c).2, .inl (mI S c)) := by
  unfold ma_E; rw [ht, if_neg (by omega), if_pos h2]
theorem ma_E_long {kA : Nat → ClassId} {ad : Nat → Nat} {S : ma_S} {c : Nat} (ht : (mH S c).1 = 23) : ma_E kA ad S c = .inl (kA 23, (mH S c).2, .inr (.inl (mL S c))) := by
  unfold ma_E; rw [ht, if_neg (by omega), if_neg (by omega), if_pos (by omega)]
theorem ma_E_ref {kA : Nat → ClassId} {ad : Nat → Nat} {S : ma_S} {c t : Nat} (ht : (mH S c).1 = t) (h : 24 ≤ t) : ma_E kA ad S c = .inl (kA t, (mH S c).2, .inr (.inr (.inr (.inr (fun j => (mR S c j).map ad))))) := by
  unfold ma_E; rw [ht, if_neg (by omega), if_neg (by omega), if_neg (by omega)]
section MA3
variable {p : Program} {l : Launch} {e : Env} {R : Room} {s : State} {m : MethodId} {args : Array Value} {below : List Frame} {meth : Method} {c : Code} {H H0 : Heap} {locs : List Loc} {cells slots : Nat} {Q : State → Prop} {cc : ByteArray} {pc : Nat} {ls : Array Slot} {ad : Nat → Nat} {kA : Nat → ClassId} {D : va_G} {A : Nat → Prop}
theorem ma_hp_ok (hx : p.tables.exec = Jvm.exec) (hb : c.code = cc) {o n : Nat} {ini : Bool} {i : Instr} {st st₉ : List ma_V} {S S₉ : ma_S} (hown : s.vm.findClass (ma_cn o) = some m.cls) (hts : ∀ w ∈ ma_TB, w.before args s = true) (hK : va_K D vwCl (ma_tys kA) s) (hini : ini = true → meth.name = "<init>")
    (hP : va_P D vwCl (ma_wl kA ad S) H) (hD : va_D A (ma_wl kA ad S)) (hS : va_S A H0 H locs) (hd : decode cc pc = .ok (i, n)) (h : ma_hp o ini i n st S = some (st₉, S₉))
    (k : ∀ (H1 : Heap) (locs1 : List Loc), va_P D vwCl (ma_wl kA ad S₉) H1 → va_D A (ma_wl kA ad S₉) → va_S A H0 H1 locs1 → W p l e R s m args below meth c H1 locs1 cells slots Q (F0 m (pc + n) ls (ma_ts ad st₉))) : W p l e R s m args below meth c H locs cells slots Q (F0 m pc ls (ma_ts ad st)) := by
  have is2 : ∀ {c : Nat}, ma_is S c = true → 64 ≤ c ∧ c < mN S := fun hh => by simpa [ma_is] using hh
  unfold ma_hp at h
  split at h
  · next x cx r =>
    split at h
    · next hc =>
      simp only [Bool.and_eq_true, decide_eq_true_eq] at hc
      obtain ⟨⟨hi, t1⟩, t2⟩ := hc
      obtain ⟨i1, i2⟩ := is2 hi
      obtain ⟨C, T, hcl, hw, hty, hnm⟩ := ma_clok_all t1 t2
      cases hf : ma_fld o x (mH S cx).1 with
      | none => rw [hf] at h; cases h
      | some kf =>
        rw [hf] at h
        cases h
        obtain ⟨hk, ref, hl, hsm⟩ := ma_fld_spec hf hcl
        refine va_get hx hb hts hw hown hK hP (cx - 64) ((ma_wl_at i1 i2).trans (by rw [ma_E_obj (by omega)])) hcl kf hk (hts _ hl) ?_ (v := ma_tv ad (ma_rd S cx kf (ma_ft (mH S cx).1 kf))) ?_ hd (k H locs hP hD hS)
        · rcases hsm with e1 | e1
          · rw [e1]; exact fun _ z => z
          · exact u_same (hts _ e1)
        · unfold ma_fs
          rw [List.getElem?_map, List.getElem?_range hk]
          rfl
    · cases h
  · next x v cx r =>
    split at h
    · next hc =>
      simp only [Bool.and_eq_true, decide_eq_true_eq] at hc
      obtain ⟨⟨hi, t1⟩, t2⟩ := hc
      obtain ⟨i1, i2⟩ := is2 hi
      obtain ⟨C, T, hcl, hw, hty, hnm⟩ := ma_clok_all t1 t2
      split at h
      · next kf C9 T9 N9 hf hcl9 =>
        cases hcl.symm.trans hcl9
        obtain ⟨hk, ref, hl, hsm⟩ := ma_fld_spec hf hcl
        have hsame : ∀ x, s.fieldFound? (T kf).1 (T kf).2.1 (T kf).2.2.1 = some x → s.fieldFound? ref (T kf).2.1 (T kf).2.2.1 = some x := by
          rcases hsm with e1 | e1
          · rw [e1]; exact fun _ z => z
          · exact u_same (hts _ e1)
        split at h
        · next hg =>
          cases h
          simp only [Bool.and_eq_true, Bool.or_eq_true, Bool.not_eq_true', decide_eq_true_eq] at hg
          obtain ⟨hok, hfin⟩ := hg
          obtain ⟨hn1, hn2⟩ := ma_ok_spec ad hok
          have hset : (ma_wl kA ad S).set (cx - 64) (ad cx, .inr ((mH S cx).1, (ma_fs ad S cx (mH S cx).1).set kf (ma_tv ad v))) = ma_wl kA ad (ma_put S cx kf v) := by
            refine ma_wl_set i1 i2 (ma_put_n S cx kf v).1 ?_ (fun c₉ hc₉ => ma_put_o hc₉)
            have hh : mH (ma_put S cx kf v) = mH S := (ma_put_n S cx kf v).2.2.2
            rw [ma_E_obj (by rw [hh]; omega), hh, ma_fs_put ad hok]
          have hlen : kf < (ma_fs ad S cx (mH S cx).1).length := by unfold ma_fs; simpa using hk
          have he := (ma_wl_at (kA := kA) (ad := ad) i1 i2).trans (by rw [ma_E_obj (by omega)])
          rcases hfin with hfin | ⟨hfi, hfo⟩
          · exact va_put hx hb hts hw (ma_ft (mH S cx).1) hty hnm hown hK hP hD hS (cx - 64) he hcl kf hk (hts _ hl) hsame hfin (hty kf hk) hn1 hn2 hlen hd (fun H1 locs1 a1 a2 a3 => k H1 locs1 (hset ▸ a1) (hset ▸ a2) a3)
          · cases hf2 : (T kf).2.2.2 with
            | false => exact va_put hx hb hts hw (ma_ft (mH S cx).1) hty hnm hown hK hP hD hS (cx - 64) he hcl kf hk (hts _ hl) hsame hf2 (hty kf hk) hn1 hn2 hlen hd (fun H1 locs1 a1 a2 a3 => k H1 locs1 (hset ▸ a1) (hset ▸ a2) a3)
            | true => exact va_putF hx hb hts hw (ma_ft (mH S cx).1) hty hnm hown hK hP hD hS (cx - 64) he hcl kf hk (hts _ hl) hsame hf2 (hini hfi) hfo (hty kf hk) hn1 hn2 hlen hd (fun H1 locs1 a1 a2 a3 => k H1 locs1 (hset ▸ a1) (hset ▸ a2) a3)
        · cases h
      · cases h
    · cases h
  · next j cx r =>
    split at h
    · next hc =>
      simp only [Bool.and_eq_true, decide_eq_true_eq] at hc
      obtain ⟨⟨hi, t1⟩, t2⟩ := hc
      obtain ⟨i1, i2⟩ := is2 hi
      cases h
      exact va_iald hx hb hK hP (cx - 64) 0 ((ma_wl_at i1 i2).trans (by rw [ma_E_int t1 (by omega) (by omega)])) rfl (ma_ix_in t2) hd (k H locs hP hD hS)
    · cases h
  · next j cx r =>
    split at h
    · next hc =>
      simp only [Bool.and_eq_true, Bool.or_eq_true, decide_eq_true_eq] at hc
      obtain ⟨⟨hi, t1⟩, t2⟩ := hc
      obtain ⟨i1, i2⟩ := is2 hi
      cases h
      rcases t1 with t1 | t1
      · exact va_bald hx hb hK hP (cx - 64) 1 ((ma_wl_at i1 i2).trans (by rw [ma_E_int t1 (by omega) (by omega)])) rfl (ma_ix_in t2) hd (k H locs hP hD hS)
      · exact va_zald hx hb hK hP (cx - 64) 2 ((ma_wl_at i1 i2).trans (by rw [ma_E_int t1 (by omega) (by omega)])) rfl (ma_ix_in t2) hd (k H locs hP hD hS)
    · cases h
  · next j cx r =>
    split at h
    · next hc =>
      simp only [Bool.and_eq_true, decide_eq_true_eq] at hc
      obtain ⟨⟨hi, t1⟩, t2⟩ := hc
      obtain ⟨i1, i2⟩ := is2 hi
      cases h
      exact va_lald hx hb hK hP (cx - 64) 3 ((ma_wl_at i1 i2).trans (by rw [ma_E_long t1])) rfl (ma_ix_in t2) hd (k H locs hP hD hS)
    · cases h
  · next j cx r =>
    split at h
    · next hc =>
      simp only [Bool.and_eq_true, Bool.or_eq_true, decide_eq_true_eq] at hc
      obtain ⟨⟨hi, t1⟩, t2⟩ := hc
      obtain ⟨i1, i2⟩ := is2 hi
      cases h
      rcases t1 with t1 | t1
      · exact va_aldq (f := fun j => (mR S cx j).map ad) hx hb hK hP (cx - 64) 4 ((ma_wl_at i1 i2).trans (by rw [ma_E_ref t1 (by omega)])) rfl (ma_ix_in t2) hd (k H locs hP hD hS)
      · exact va_aldq (f := fun j => (mR S cx j).map ad) hx hb hK hP (cx - 64) 5 ((ma_wl_at i1 i2).trans (by rw [ma_E_ref t1 (by omega)])) rfl (ma_ix_in t2) hd (k H locs hP hD hS)
    · cases h
  · next x j cx r =>
    split at h
    · next hc =>
      simp only [Bool.and_eq_true, decide_eq_true_eq] at hc
      obtain ⟨⟨hi, t1⟩, t2⟩ := hc
      obtain ⟨i1, i2⟩ := is2 hi
      cases h
      have hset : (ma_wl kA ad S).set (cx - 64) (ad cx, .inl (kA 20, (mH S cx).2, .inl (upd (mI S cx) j.toNatClampNeg x))) = ma_wl kA ad (ma_put S cx j.toNatClampNeg (.inl x)) := by
        refine ma_wl_set i1 i2 rfl ?_ (fun c₉ hc₉ => ma_put_o hc₉)
        rw [ma_E_int (S := ma_put S cx j.toNatClampNeg (.inl x)) (t := 20) t1 (by omega) (by omega)]
        show Sum.inl (kA 20, (mH S cx).2, Sum.inl (ma_u (mI S) cx j.toNatClampNeg x cx)) = _
        rw [ma_u_eq]; rfl
      exact va_iast hx hb hK hP hD hS (cx - 64) 0 ((ma_wl_at i1 i2).trans (by rw [ma_E_int t1 (by omega) (by omega)])) rfl (ma_ix_in t2) hd (fun H1 locs1 a1 a2 a3 => k H1 locs1 (hset ▸ a1) (hset ▸ a2) a3)
    · cases h
  · next x j cx r =>
    split at h
    · next hc =>
      simp only [Bool.and_eq_true, decide_eq_true_eq] at hc
      obtain ⟨hi, t2⟩ := hc
      obtain ⟨i1, i2⟩ := is2 hi
      split at h
      · next t1 =>
        cases h
        have hset : (ma_wl kA ad S).set (cx - 64) (ad cx, .inl (kA 21, (mH S cx).2, .inl (upd (mI S cx) j.toNatClampNeg (vp_nar .byte x)))) = ma_wl kA ad (ma_put S cx j.toNatClampNeg (.inl (vp_nar .byte x))) := by
          refine ma_wl_set i1 i2 rfl ?_ (fun c₉ hc₉ => ma_put_o hc₉)
          rw [ma_E_int (S := ma_put S cx j.toNatClampNeg (.inl (vp_nar .byte x))) (t := 21) t1 (by omega) (by omega)]
          show Sum.inl (kA 21, (mH S cx).2, Sum.inl (ma_u (mI S) cx j.toNatClampNeg _ cx)) = _
          rw [ma_u_eq]; rfl
        exact va_bast hx hb hK hP hD hS (cx - 64) 1 ((ma_wl_at i1 i2).trans (by rw [ma_E_int t1 (by omega) (by omega)])) rfl (ma_ix_in t2) hd (fun H1 locs1 a1 a2 a3 => k H1 locs1 (hset ▸ a1) (hset ▸ a2) a3)
      · split at h
        · next t1 =>
          cases h
          have hset : (ma_wl kA ad S).set (cx - 64) (ad cx, .inl (kA 22, (mH S cx).2, .inl (upd (mI S cx) j.toNatClampNeg (vp_nar .boolean x)))) = ma_wl kA ad (ma_put S cx j.toNatClampNeg (.inl (vp_nar .boolean x))) := by
            refine ma_wl_set i1 i2 rfl ?_ (fun c₉ hc₉ => ma_put_o hc₉)
            rw [ma_E_int (S := ma_put S cx j.toNatClampNeg (.inl (vp_nar .boolean x))) (t := 22) t1 (by omega) (by omega)]
            show Sum.inl (kA 22, (mH S cx).2, Sum.inl (ma_u (mI S) cx j.toNatClampNeg _ cx)) = _
            rw [ma_u_eq]; rfl
          exact va_zast hx hb hK hP hD hS (cx - 64) 2 ((ma_wl_at i1 i2).trans (by rw [ma_E_int t1 (by omega) (by omega)])) rfl (ma_ix_in t2) hd (fun H1 locs1 a1 a2 a3 => k H1 locs1 (hset ▸ a1) (hset ▸ a2) a3)
        · cases h
    · cases h
  · next x j cx r =>
    split at h
    · next hc =>
      simp only [Bool.and_eq_true, decide_eq_true_eq] at hc
      obtain ⟨⟨hi, t1⟩, t2⟩ := hc
      obtain ⟨i1, i2⟩ := is2 hi
      cases h
      have hset : (ma_wl kA ad S).set (cx - 64) (ad cx, .inl (kA 23, (mH S cx).2, .inr (.inl (vp_updL (mL S cx) j.toNatClampNeg x)))) = ma_wl kA ad (ma_put S cx j.toNatClampNeg (.inr (.inl x))) := by
        refine ma_wl_set i1 i2 rfl ?_ (fun c₉ hc₉ => ma_put_o hc₉)
        rw [ma_E_long (S := ma_put S cx j.toNatClampNeg (.inr (.inl x))) t1]
        show Sum.inl (kA 23, (mH S cx).2, Sum.inr (Sum.inl (ma_u (mL S) cx j.toNatClampNeg x cx))) = _
        rw [ma_u_eq]; rfl
      exact va_last hx hb hK hP hD hS (cx - 64) 3 ((ma_wl_at i1 i2).trans (by rw [ma_E_long t1])) rfl (ma_ix_in t2) hd (fun H1 locs1 a1 a2 a3 => k H1 locs1 (hset ▸ a1) (hset ▸ a2) a3)
    · cases h
  · next x j cx r =>
    split at h
    · next hc =>
      simp only [Bool.and_eq_true, decide_eq_true_eq] at hc
      obtain ⟨⟨hi, t1⟩, t2⟩ := hc
      obtain ⟨i1, i2⟩ := is2 hi
      have hset : ∀ y : Option Nat, (ma_wl kA ad S).set (cx - 64) (ad cx, .inl (kA 24, (mH S cx).2, .inr (.inr (.inr (.inr (va_up (fun j => (mR S cx j).map ad) j.toNatClampNeg (y.map ad))))))) = ma_wl kA ad (ma_put S cx j.toNatClampNeg (.inr (.inr y))) := by
        intro y
        refine ma_wl_set i1 i2 rfl ?_ (fun c₉ hc₉ => ma_put_o hc₉)
        rw [ma_E_ref (S := ma_put S cx j.toNatClampNeg (.inr (.inr y))) (t := 24) t1 (by omega)]
        show Sum.inl (kA 24, (mH S cx).2, Sum.inr (Sum.inr (Sum.inr (Sum.inr (fun i => (ma_u (mR S) cx j.toNatClampNeg y cx i).map ad))))) = _
        rw [ma_u_eq]
        have : (fun i => (va_up (mR S cx) j.toNatClampNeg y i).map ad) = va_up (fun j => (mR S cx j).map ad) j.toNatClampNeg (y.map ad) := by
          funext i; unfold va_up; split <;> rfl
        rw [this]
      split at h
      · cases h
        exact va_astqN hx hb hK hP hD hS (cx - 64) 4 ((ma_wl_at i1 i2).trans (by rw [ma_E_ref t1 (by omega)])) rfl (ma_ix_in t2) hd (fun H1 locs1 a1 a2 a3 => k H1 locs1 (hset none ▸ a1) (hset none ▸ a2) a3)
      · next bx =>
        split at h
        · next hv =>
          simp only [Bool.and_eq_true, decide_eq_true_eq] at hv
          obtain ⟨v1, v2⟩ := is2 hv.1
          cases h
          exact va_astq hx hb hK hP hD hS (cx - 64) 4 (bx - 64) 9 ((ma_wl_at i1 i2).trans (by rw [ma_E_ref t1 (by omega)])) (r := (RX9, TX9, 9)) rfl ((ma_wl_at v1 v2).trans (by rw [ma_E_obj (by omega), hv.2])) rfl (ma_ix_in t2) hd (fun H1 locs1 a1 a2 a3 => k H1 locs1 (hset (some bx) ▸ a1) (hset (some bx) ▸ a2) a3)
        · cases h
    · cases h
  · next cx r =>
    split at h
    · next hc =>
      simp only [Bool.and_eq_true, decide_eq_true_eq] at hc
      obtain ⟨⟨hi, t1⟩, t2⟩ := hc
      obtain ⟨i1, i2⟩ := is2 hi
      cases h
      have ht : (mH S cx).1 = 20 ∨ (mH S cx).1 = 21 ∨ (mH S cx).1 = 22 ∨ (mH S cx).1 = 23 ∨ (mH S cx).1 = 24 ∨ (mH S cx).1 = 25 := by omega
      have go : ∀ (t0 : Nat) (cA : ClassId) (x : vp_A) (ty : FieldType), ma_E kA ad S cx = .inl (cA, x) → (ma_tys kA)[t0]? = some (cA, ty) → x.1 = (mH S cx).2 → W p l e R s m args below meth c H locs cells slots Q (F0 m pc ls (ma_ts ad (.inr (.inr (some cx)) :: r))) := by
        intro t0 cA x ty hE htt hlen
        exact va_alen hx hb hK hP (cx - 64) t0 ((ma_wl_at i1 i2).trans (by rw [hE])) htt (by rw [hlen]) hd (k H locs hP hD hS)
      rcases ht with ht | ht | ht | ht | ht | ht
      · exact go 0 _ _ _ (ma_E_int ht (by omega) (by omega)) rfl rfl
      · exact go 1 _ _ _ (ma_E_int ht (by omega) (by omega)) rfl rfl
      · exact go 2 _ _ _ (ma_E_int ht (by omega) (by omega)) rfl rfl
      · exact go 3 _ _ _ (ma_E_long ht) rfl rfl
      · exact go 4 _ _ _ (ma_E_ref ht (by omega)) rfl rfl
      · exact go 5 _ _ _ (ma_E_ref ht (by omega)) rfl rfl
    · cases h
  · cases h
end MA3

/-! from 35.make -/
/-! THE SMALL MACHINE, part 4: references stay inside; new cells -/
theorem ma_get_cv {n : Nat} {L : ma_L} {i : Nat} {v : ma_V} (hL : ma_cL n L) (h : ma_get L i = some v) : ma_cv n v := by
  unfold ma_get at h
  cases hf : L.find? (fun q => q.1 == i) with
  | none => rw [hf] at h; cases h
  | some q =>
    rw [hf] at h
    have h2 : q.2 = v := Option.some.inj h
    rw [← h2]
    exact hL q (List.mem_of_find?_eq_some hf)
theorem ma_push_cv {N : Nat} {i : Instr} {n : Nat} {L : ma_L} {v : ma_V} (hL : ma_cL N L) (h : ma_push i n L = some v) : ma_cv N v := by
  unfold ma_push at h
  split at h
  · cases h; exact ma_cv_i
  · cases h; exact ma_cv_i
  · cases h; exact ma_cv_i
  · cases h; exact ma_cv_l
  · cases h; exact ma_cv_n
  all_goals first | (cases h; done) | (split at h; (next hg => cases h; exact ma_get_cv hL hg); (cases h; done))
theorem ma_cs_tl {n : Nat} {v : ma_V} {r : List ma_V} (h : ma_cs n (v :: r)) : ma_cs n r := fun w hw => h w (List.mem_cons_of_mem _ hw)
theorem ma_cs_hd {n : Nat} {v : ma_V} {r : List ma_V} (h : ma_cs n (v :: r)) : ma_cv n v := h v List.mem_cons_self
theorem ma_cs_cons {n : Nat} {v : ma_V} {r : List ma_V} (h1 : ma_cv n v) (h2 : ma_cs n r) : ma_cs n (v :: r) := fun w hw => (List.mem_cons.mp hw).elim (fun e => e ▸ h1) (h2 w)
theorem ma_stk_cs {N : Nat} {i : Instr} {n : Nat} {st st₉ : List ma_V} (hc : ma_cs N st) (h : ma_stk i n st = some st₉) : ma_cs N st₉ := by
  unfold ma_stk at h
  split at h
  all_goals first
    | (cases h; done)
    | (cases h; exact ma_cs_cons ma_cv_i (ma_cs_tl (ma_cs_tl hc)))
    | (cases h; exact ma_cs_cons ma_cv_l (ma_cs_tl (ma_cs_tl hc)))
    | (cases h; exact ma_cs_cons ma_cv_i (ma_cs_tl hc))
    | (cases h; exact ma_cs_cons ma_cv_l (ma_cs_tl hc))
    | (split at h; (focus cases h); (focus (cases h; exact ma_cs_cons ma_cv_i (ma_cs_tl (ma_cs_tl hc)))))
    | (split at h; (focus cases h); (focus (cases h; exact ma_cs_cons (ma_cs_hd hc) hc)))
    | (split at h; (focus cases h); (focus (cases h; exact ma_cs_tl hc)))
    | (split at h; (focus cases h); (focus (cases h; exact ma_cs_cons (ma_cs_hd hc) (ma_cs_cons (ma_cs_hd (ma_cs_tl hc)) hc))))
theorem ma_st_cL {n : Nat} {L : ma_L} {i : Nat} {v : ma_V} (hL : ma_cL n L) (hv : ma_cv n v) : ma_cL n (ma_st L i v) := by
  intro q hq
  rcases List.mem_cons.mp hq with e | e
  · rw [e]; exact hv
  · exact hL q (List.mem_filter.mp e).1
theorem ma_sto_c {N : Nat} {i : Instr} {n nL : Nat} {L L₉ : ma_L} {st st₉ : List ma_V} (hL : ma_cL N L) (hc : ma_cs N st) (h : ma_sto i n nL L st = some (L₉, st₉)) : ma_cL N L₉ ∧ ma_cs N st₉ := by
  unfold ma_sto at h
  split at h
  · split at h
    · cases h; exact ⟨ma_st_cL hL ma_cv_i, ma_cs_tl hc⟩
    · cases h
  · split at h
    · cases h; exact ⟨ma_st_cL hL ma_cv_i, ma_cs_tl hc⟩
    · cases h
  · split at h
    · cases h; exact ⟨ma_st_cL hL (ma_cs_hd hc), ma_cs_tl hc⟩
    · cases h
  · split at h
    · cases h; exact ⟨ma_st_cL hL (ma_cs_hd hc), ma_cs_tl hc⟩
    · cases h
  · split at h
    · split at h
      · cases h; exact ⟨ma_st_cL hL ma_cv_i, hc⟩
      · cases h
    · cases h
  · cases h
theorem ma_jmp_cs {N : Nat} {i : Instr} {n pc t : Nat} {st st₉ : List ma_V} (hc : ma_cs N st) (h : ma_jmp i n pc st = some (t, st₉)) : ma_cs N st₉ := by
  have key : ∀ {o : Option Nat} {f : Nat → Nat} {r : List ma_V}, o.map (fun t => (f t, r)) = some (t, st₉) → r = st₉ := by
    intro o f r hh
    cases o with
    | none => cases hh
    | some t₉ => cases hh; rfl
  unfold ma_jmp at h
  split at h
  · cases key (f := fun t => t) h; exact hc
  · cases key h; exact ma_cs_tl hc
  · cases key h; exact ma_cs_tl (ma_cs_tl hc)
  · split at h
    · cases key (f := fun t => t) h; exact ma_cs_tl hc
    · cases h; exact ma_cs_tl hc
  · split at h
    · cases h; exact ma_cs_tl hc
    · cases key (f := fun t => t) h; exact ma_cs_tl hc
  · split at h
    · cases key (f := fun t => t) h; exact ma_cs_tl hc
    · split at h
      · cases key (f := fun t => t) h; exact ma_cs_tl hc
      · cases h
  · split at h
    · cases key (f := fun t => t) h; exact ma_cs_tl hc
    · cases h
  · cases h
/-- behind an instruction on cells that are there: as many cells, references inside -/
theorem ma_hp_c {o n : Nat} {ini : Bool} {i : Instr} {st st₉ : List ma_V} {S S₉ : ma_S} (hh : ma_ch S) (hc : ma_cs (mN S) st) (h : ma_hp o ini i n st S = some (st₉, S₉)) : ma_ch S₉ ∧ ma_cs (mN S₉) st₉ ∧ mN S₉ = mN S ∧ mC S₉ = mC S ∧ mZ S₉ = mZ S := by
  have put : ∀ (c k : Nat) (v : ma_V) (r : List ma_V), ma_cv (mN S) v → ma_cs (mN S) r → ma_ch (ma_put S c k v) ∧ ma_cs (mN (ma_put S c k v)) r ∧ mN (ma_put S c k v) = mN S ∧ mC (ma_put S c k v) = mC S ∧ mZ (ma_put S c k v) = mZ S := by
    intro c k v r hv hr
    obtain ⟨e1, e2, e3, e4⟩ := ma_put_n S c k v
    exact ⟨ma_put_ch hh hv, by rw [e1]; exact hr, e1, e2, e3⟩
  unfold ma_hp at h
  split at h
  · split at h
    · next x cx r hcc =>
      cases hf : ma_fld o x (mH S cx).1 with
      | none => rw [hf] at h; cases h
      | some kf => rw [hf] at h; cases h; exact ⟨hh, ma_cs_cons (ma_rd_cv hh _ _ _) (ma_cs_tl hc), rfl, rfl, rfl⟩
    · cases h
  · split at h
    · split at h
      · split at h
        · cases h; exact put _ _ _ _ (ma_cs_hd hc) (ma_cs_tl (ma_cs_tl hc))
        · cases h
      · cases h
    · cases h
  · split at h
    · cases h; exact ⟨hh, ma_cs_cons ma_cv_i (ma_cs_tl (ma_cs_tl hc)), rfl, rfl, rfl⟩
    · cases h
  · split at h
    · cases h; exact ⟨hh, ma_cs_cons ma_cv_i (ma_cs_tl (ma_cs_tl hc)), rfl, rfl, rfl⟩
    · cases h
  · split at h
    · cases h; exact ⟨hh, ma_cs_cons ma_cv_l (ma_cs_tl (ma_cs_tl hc)), rfl, rfl, rfl⟩
    · cases h
  · split at h
    · cases h
      exact ⟨hh, ma_cs_cons (fun b hb => hh.1 _ _ _ (Sum.inr.inj (Sum.inr.inj hb))) (ma_cs_tl (ma_cs_tl hc)), rfl, rfl, rfl⟩
    · cases h
  · split at h
    · cases h; exact put _ _ _ _ ma_cv_i (ma_cs_tl (ma_cs_tl (ma_cs_tl hc)))
    · cases h
  · split at h
    · split at h
      · cases h; exact put _ _ _ _ ma_cv_i (ma_cs_tl (ma_cs_tl (ma_cs_tl hc)))
      · split at h
        · cases h; exact put _ _ _ _ ma_cv_i (ma_cs_tl (ma_cs_tl (ma_cs_tl hc)))
        · cases h
    · cases h
  · split at h
    · cases h; exact put _ _ _ _ ma_cv_l (ma_cs_tl (ma_cs_tl (ma_cs_tl hc)))
    · cases h
  · split at h
    · split at h
      · cases h; exact put _ _ _ _ ma_cv_n (ma_cs_tl (ma_cs_tl (ma_cs_tl hc)))
      · split at h
        · cases h; exact put _ _ _ _ (ma_cs_hd hc) (ma_cs_tl (ma_cs_tl (ma_cs_tl hc)))
        · cases h
    · cases h
  · split at h
    · cases h; exact ⟨hh, ma_cs_cons ma_cv_i (ma_cs_tl hc), rfl, rfl, rfl⟩
    · cases h
  · cases h

/-! new cells -/
def ma_nwh : List ((Nat × Nat × Nat) × Nat × Nat × Nat) := [((11, 23, 7), 38, 39, 2), ((11, 30, 10), 105, 106, 3), ((11, 41, 8), 136, 137, 5), ((11, 46, 5), 179, 180, 6), ((11, 49, 3), 194, 195, 7), ((11, 52, 1), 212, 213, 8), ((11, 55, 2), 245, 246, 9), ((11, 58, 6), 267, 268, 10), ((11, 61, 4), 293, 294, 11), ((11, 128, 9), 1011, 1012, 26), ((2, 9, 9), 251, 1012, 26), ((6, 9, 10), 273, 106, 3), ((7, 9, 9), 44, 1012, 26), ((14, 8, 11), 30, 31, 1), ((14, 86, 12), 1507, 1508, 12)]
def ma_nwc (q : (Nat × Nat × Nat) × Nat × Nat × Nat) : Bool := match vwCl[q.1.2.2]? with
  | some (C, _, N) => decide (1 ≤ q.1.2.2) && decide (q.1.2.2 ≤ 12) && decide (N = ma_fn q.1.2.2) && (decide (ma_ti (q.2.1) = some (.classLink (ma_cn q.1.1) q.1.2.1 C)) && goodWord (.classLink (ma_cn q.1.1) q.1.2.1 C)) && (decide (ma_ti (q.2.2.1) = some (.instantiable C N)) && goodWord (.instantiable C N)) && (decide (ma_ti (q.2.2.2) = some (.initialized C)) && goodWord (.initialized C))
  | none => false
theorem ma_nwh_ok : ∀ q ∈ ma_nwh, ma_nwc q = true := List.all_eq_true.mp (by decide +kernel)
def ma_nwt (o i : Nat) : Option Nat := (ma_nwh.find? (fun q => q.1.1 == o && q.1.2.1 == i)).map (fun q => q.1.2.2)
theorem ma_nwt_spec {o i t : Nat} (h : ma_nwt o i = some t) : 1 ≤ t ∧ t ≤ 12 ∧ ∃ (C : String) (T : u_T), vwCl[t]? = some (C, T, ma_fn t) ∧ Cond.classLink (ma_cn o) i C ∈ ma_TB ∧ Cond.instantiable C (ma_fn t) ∈ ma_TB ∧ Cond.initialized C ∈ ma_TB := by
  unfold ma_nwt at h
  cases hf : ma_nwh.find? (fun q => q.1.1 == o && q.1.2.1 == i) with
  | none => rw [hf] at h; cases h
  | some q =>
    rw [hf] at h
    have hk : q.1.2.2 = t := Option.some.inj h
    have h1 := List.find?_some hf
    simp only [Bool.and_eq_true, beq_iff_eq] at h1
    have h2 := ma_nwh_ok q (List.mem_of_find?_eq_some hf)
    unfold ma_nwc at h2
    rw [hk, h1.1, h1.2] at h2
    split at h2
    · next C T N hc =>
      simp only [Bool.and_eq_true] at h2
      obtain ⟨⟨⟨⟨⟨a1, a2⟩, a3⟩, a4, a5⟩, a6, a7⟩, a8, a9⟩ := h2
      have a3 := of_decide_eq_true a3
      subst a3
      exact ⟨of_decide_eq_true a1, of_decide_eq_true a2, C, T, hc, ma_TB_in a4 a5, ma_TB_in a6 a7, ma_TB_in a8 a9⟩
    · cases h2
/-- rows of references: the class of what they hold -/
def ma_anh : List ((Nat × Nat × Nat) × Nat) := [((11, 39, 25), 134), ((11, 128, 24), 1011), ((2, 9, 24), 251), ((7, 9, 24), 44)]
def ma_anC (t : Nat) : String := if t = 24 then RX9 else RX1
def ma_anc (q : (Nat × Nat × Nat) × Nat) : Bool := (decide (q.1.2.2 = 24) || decide (q.1.2.2 = 25)) && decide (ma_ti (q.2) = some (.classLink (ma_cn q.1.1) q.1.2.1 (ma_anC q.1.2.2))) && goodWord (.classLink (ma_cn q.1.1) q.1.2.1 (ma_anC q.1.2.2))
theorem ma_anh_ok : ∀ q ∈ ma_anh, ma_anc q = true := List.all_eq_true.mp (by decide +kernel)
def ma_ant (o i : Nat) : Option Nat := (ma_anh.find? (fun q => q.1.1 == o && q.1.2.1 == i)).map (fun q => q.1.2.2)
theorem ma_ant_spec {o i t : Nat} (h : ma_ant o i = some t) : (t = 24 ∨ t = 25) ∧ Cond.classLink (ma_cn o) i (ma_anC t) ∈ ma_TB := by
  unfold ma_ant at h
  cases hf : ma_anh.find? (fun q => q.1.1 == o && q.1.2.1 == i) with
  | none => rw [hf] at h; cases h
  | some q =>
    rw [hf] at h
    have hk : q.1.2.2 = t := Option.some.inj h
    have h1 := List.find?_some hf
    simp only [Bool.and_eq_true, beq_iff_eq] at h1
    have h2 := ma_anh_ok q (List.mem_of_find?_eq_some hf)
    unfold ma_anc at h2
    rw [hk, h1.1, h1.2] at h2
    simp only [Bool.and_eq_true, Bool.or_eq_true] at h2
    exact ⟨h2.1.1.imp of_decide_eq_true of_decide_eq_true, ma_TB_in h2.1.2 h2.2⟩
def ma_at (a : ArrayType) : Option Nat := match a with
  | .int => some 20
  | .byte => some 21
  | .boolean => some 22
  | .long => some 23
  | _ => none
def ma_al (o : Nat) (i : Instr) (n : Nat) (st : List ma_V) (S : ma_S) : Option (List ma_V × ma_S) := match i, n, st with
  | .new x, 3, r => (ma_nwt o x).map (fun t => (.inr (.inr (some (mN S))) :: r, ma_new S t (ma_fn t)))
  | .newarray a, 2, .inl k :: r => if decide (0 ≤ k) && decide (k.toNatClampNeg ≤ 1000000) then (ma_at a).map (fun t => (.inr (.inr (some (mN S))) :: r, ma_new S t k.toNatClampNeg)) else none
  | .anewarray x, 3, .inl k :: r => if decide (0 ≤ k) && decide (k.toNatClampNeg ≤ 1000000) then (ma_ant o x).map (fun t => (.inr (.inr (some (mN S))) :: r, ma_new S t k.toNatClampNeg)) else none
  | _, _, _ => none
/-- no type of the world's fields is one with a point -/
def ma_nf (ty : FieldType) : Bool := match ty with
  | .float => false
  | .double => false
  | _ => true
theorem ma_nf_all : (List.range 13).all (fun t => (List.range (ma_fn t)).all (fun k => ma_nf (ma_ft t k))) = true := by decide +kernel
theorem ma_new_rd (S : ma_S) (t n k : Nat) (ty : FieldType) (ad : Nat → Nat) (h : ma_nf ty = true) : ma_tv ad (ma_rd (ma_new S t n) (mN S) k ty) = defaultValue ty := by
  cases ty <;> first | (cases h; done) | (simp [ma_rd, ma_new, ma_uc, mI, mL, mR, mN, ma_tv, va_rf, defaultValue]; done)
theorem ma_new_fs (S : ma_S) {t n : Nat} (ht : t < 13) (ad ad₉ : Nat → Nat) : ma_fs ad₉ (ma_new S t n) (mN S) t = ma_fs ad (ma_new S t n) (mN S) t ∧ ∀ j, j < ma_fn t → defaultValue (ma_ft t j) = vp_V (ma_fs ad (ma_new S t n) (mN S) t) j := by
  have hall := List.all_eq_true.mp ma_nf_all t (List.mem_range.mpr ht)
  have hnf : ∀ k, k < ma_fn t → ma_nf (ma_ft t k) = true := fun k hk => List.all_eq_true.mp hall k (List.mem_range.mpr hk)
  refine ⟨?_, fun j hj => ?_⟩
  · unfold ma_fs
    apply List.map_congr_left
    intro k hk
    rw [ma_new_rd S t n k _ ad₉ (hnf k (List.mem_range.mp hk)), ma_new_rd S t n k _ ad (hnf k (List.mem_range.mp hk))]
  · unfold vp_V ma_fs
    rw [List.getD_eq_getElem?_getD, List.getElem?_map, List.getElem?_range hj]
    show _ = ma_tv ad (ma_rd (ma_new S t n) (mN S) j (ma_ft t j))
    rw [ma_new_rd S t n j _ ad (hnf j hj)]
theorem ma_new_H (S : ma_S) (t n : Nat) : mH (ma_new S t n) (mN S) = (t, n) := if_pos rfl
section MA4
variable {p : Program} {l : Launch} {e : Env} {R : Room} {s : State} {m : MethodId} {args : Array Value} {below : List Frame} {meth : Method} {c : Code} {H H0 : Heap} {locs : List Loc} {cells slots : Nat} {Q : State → Prop} {cc : ByteArray} {pc : Nat} {ls : Array Slot} {ad : Nat → Nat} {kA : Nat → ClassId} {D : va_G} {A : Nat → Prop}
theorem ma_al_ok (hx : p.tables.exec = Jvm.exec) (hb : c.code = cc) {o n : Nat} {i : Instr} {st st₉ : List ma_V} {S S₉ : ma_S} (hown : s.vm.findClass (ma_cn o) = some m.cls) (hts : ∀ w ∈ ma_TB, w.before args s = true) (hK : va_K D vwCl (ma_tys kA) s) (hO : va_AO RX9 s ∧ va_AO RX1 s) (hA : ∀ q, H0.size ≤ q → A q)
    (hh : ma_ch S) (hc : ma_cs (mN S) st) (hP : va_P D vwCl (ma_wl kA ad S) H) (hD : va_D A (ma_wl kA ad S)) (hS : va_S A H0 H locs) (hd : decode cc pc = .ok (i, n)) (h : ma_al o i n st S = some (st₉, S₉)) (hr1 : cells + (mC S₉ - mC S) ≤ R.cells) (hr2 : slots + (mZ S₉ - mZ S) ≤ R.slots)
    (k : ∀ (q : Nat) (H1 : Heap), va_P D vwCl (ma_wl kA (va_up ad (mN S) q) S₉) H1 → va_D A (ma_wl kA (va_up ad (mN S) q) S₉) → va_S A H0 H1 locs → W p l e R s m args below meth c H1 locs (cells + (mC S₉ - mC S)) (slots + (mZ S₉ - mZ S)) Q (F0 m (pc + n) ls (ma_ts (va_up ad (mN S) q) st₉))) :
    W p l e R s m args below meth c H locs cells slots Q (F0 m pc ls (ma_ts ad st)) ∧ ma_ch S₉ ∧ ma_cs (mN S₉) st₉ ∧ mN S₉ = mN S + 1 ∧ mC S₉ = mC S + 1 ∧ mZ S ≤ mZ S₉ := by
  have fin : ∀ (t N : Nat) (r : List ma_V), ma_cs (mN S) r → ma_ch (ma_new S t N) ∧ ma_cs (mN (ma_new S t N)) (.inr (.inr (some (mN S))) :: r) ∧ mN (ma_new S t N) = mN S + 1 ∧ mC (ma_new S t N) = mC S + 1 ∧ mZ S ≤ mZ (ma_new S t N) := by
    intro t N r hr
    exact ⟨ma_new_ch hh t N, ma_cs_cons (fun b hb => by cases hb; exact Nat.lt_succ_self _) (fun v hv => (hr v hv).mono (Nat.le_succ _)), rfl, rfl, Nat.le_add_right _ _⟩
  have e1 : ∀ t N : Nat, mC (ma_new S t N) - mC S = 1 := fun t N => by show S.2.1 + 1 - S.2.1 = 1; omega
  have e2 : ∀ t N : Nat, mZ (ma_new S t N) - mZ S = N := fun t N => by show S.2.2.1 + N - S.2.2.1 = N; omega
  have tsr : ∀ (q : Nat) (r : List ma_V), ma_cs (mN S) r → ma_ts (va_up ad (mN S) q) (.inr (.inr (some (mN S))) :: r) = .ref q :: ma_ts ad r := by
    intro q r hr
    show Value.ref (va_up ad (mN S) q (mN S)) :: ma_ts (va_up ad (mN S) q) r = _
    rw [va_up_self, ma_ts_ad hr (fun b hb => va_up_ne ad q (by omega))]
  unfold ma_al at h
  split at h
  · next r x =>
    cases ht : ma_nwt o x with
    | none => rw [ht] at h; cases h
    | some t =>
      rw [ht] at h
      cases h
      obtain ⟨t1, t2, C, T, hcl, w1, w2, w3⟩ := ma_nwt_spec ht
      obtain ⟨C9, T9, hcl9, hw, hty, hnm⟩ := ma_clok_all t1 t2
      cases hcl.symm.trans hcl9
      rw [e1] at hr1
      rw [e2] at hr2
      simp only [e1, e2] at k
      refine ⟨?_, fin t (ma_fn t) st hc⟩
      obtain ⟨f1, f2⟩ := ma_new_fs S (t := t) (n := ma_fn t) (by omega) ad ad
      refine va_new (c0 := c) (ci := t) (fs := ma_fs ad (ma_new S t (ma_fn t)) (mN S) t) hx hb hts hw (ma_ft t) hty hown (hts _ w1) (hts _ w2) (hts _ w3) hK hP hD hS hA hcl f2 hr1 hr2 hd (fun q H1 a1 a2 a3 => ?_)
      have hE : ma_wl kA ad S ++ [(q, .inr (t, ma_fs ad (ma_new S t (ma_fn t)) (mN S) t))] = ma_wl kA (va_up ad (mN S) q) (ma_new S t (ma_fn t)) := by
        rw [ma_wl_new hh, ma_E_obj (by rw [ma_new_H]; show t < 20; omega), ma_new_H, (ma_new_fs S (t := t) (n := ma_fn t) (by omega) ad (va_up ad (mN S) q)).1]
      have := k q H1 (hE ▸ a1) (hE ▸ a2) a3
      rw [tsr q st hc] at this
      exact this
  · next a kx r =>
    split at h
    · next hk =>
      simp only [Bool.and_eq_true, decide_eq_true_eq] at hk
      have hneg : ¬ kx < 0 := fun z => absurd hk.1 (Int32.not_le.mpr z)
      cases ht : ma_at a with
      | none => rw [ht] at h; cases h
      | some t =>
        rw [ht] at h
        cases h
        rw [e1] at hr1
        rw [e2] at hr2
        simp only [e1, e2] at k
        refine ⟨?_, fin t kx.toNatClampNeg r (ma_cs_tl hc)⟩
        have go : ∀ (t0 : Nat) (ty : FieldType) (a0 : vp_A), newarray.typeOf a = ty → Cond.arrayClass ty ∈ ma_TB → (ma_tys kA)[t0]? = some (kA t, ty) → (∀ cA cA₉ : ClassId, va_RA s cA ty → va_RA s cA₉ ty → cA = cA₉) → (∀ cA : ClassId, vp_cell cA a0 = arrV cA kx.toNatClampNeg (fun _ => defaultValue ty)) → kx.toNatClampNeg * componentBytes ty ≤ 536870912 → (∀ q, ma_E kA (va_up ad (mN S) q) (ma_new S t kx.toNatClampNeg) (mN S) = .inl (kA t, a0)) → W p l e R s m args below meth c H locs cells slots Q (F0 m pc ls (ma_ts ad (.inl kx :: r))) := by
          intro t0 ty a0 hty hw ht0 huni ha0 hby hE
          refine va_newa hx hb (hty ▸ hts _ hw) hty hK hP hD hS hA ha0 hneg rfl hby hr1 hr2 hd (fun q cA H1 b1 b2 b3 b4 => ?_)
          have hcA : cA = kA t := huni cA (kA t) (b1.2 (ma_tys kA).length (cA, ty) (by rw [List.getElem?_append_right (Nat.le_refl _), Nat.sub_self]; rfl)).2 (hK.2 t0 _ ht0).2
          subst hcA
          have hE : ma_wl kA ad S ++ [(q, .inl (kA t, a0))] = ma_wl kA (va_up ad (mN S) q) (ma_new S t kx.toNatClampNeg) := by
            rw [ma_wl_new hh, hE]
          have := k q H1 (hE ▸ b2) (hE ▸ b3) b4
          rw [tsr q r (ma_cs_tl hc)] at this
          exact this
        cases a <;> simp only [ma_at, reduceCtorEq, Option.some.injEq] at ht
        · subst ht
          exact go 2 .boolean (kx.toNatClampNeg, .inl (fun _ => 0)) rfl (ma_TB_in (j := 1770) (by decide +kernel) rfl) rfl (fun _ _ h1 h2 => Option.some.inj (h1.symm.trans h2)) (fun _ => rfl) (by show _ * 1 ≤ _; omega) (fun q => by rw [ma_E_int (t := 22) (by rw [ma_new_H]) (by omega) (by omega), ma_new_H]; show Sum.inl (kA 22, _, Sum.inl (ma_uc (mI S) S.1 (fun _ => 0) (mN S))) = _; rw [show ma_uc (mI S) S.1 (fun _ => 0) (mN S) = (fun _ => 0) from if_pos rfl])
        · subst ht
          exact go 1 .byte (kx.toNatClampNeg, .inl (fun _ => 0)) rfl (ma_TB_in (j := 103) (by decide +kernel) rfl) rfl (fun _ _ h1 h2 => Option.some.inj (h1.symm.trans h2)) (fun _ => rfl) (by show _ * 1 ≤ _; omega) (fun q => by rw [ma_E_int (t := 21) (by rw [ma_new_H]) (by omega) (by omega), ma_new_H]; show Sum.inl (kA 21, _, Sum.inl (ma_uc (mI S) S.1 (fun _ => 0) (mN S))) = _; rw [show ma_uc (mI S) S.1 (fun _ => 0) (mN S) = (fun _ => 0) from if_pos rfl])
        · subst ht
          exact go 0 .int (kx.toNatClampNeg, .inl (fun _ => 0)) rfl (ma_TB_in (j := 104) (by decide +kernel) rfl) rfl (fun _ _ h1 h2 => Option.some.inj (h1.symm.trans h2)) (fun _ => rfl) (by show _ * 4 ≤ _; omega) (fun q => by rw [ma_E_int (t := 20) (by rw [ma_new_H]) (by omega) (by omega), ma_new_H]; show Sum.inl (kA 20, _, Sum.inl (ma_uc (mI S) S.1 (fun _ => 0) (mN S))) = _; rw [show ma_uc (mI S) S.1 (fun _ => 0) (mN S) = (fun _ => 0) from if_pos rfl])
        · subst ht
          exact go 3 .long (kx.toNatClampNeg, .inr (.inl (fun _ => 0))) rfl (ma_TB_in (j := 2155) (by decide +kernel) rfl) rfl (fun _ _ h1 h2 => Option.some.inj (h1.symm.trans h2)) (fun _ => rfl) (by show _ * 8 ≤ _; omega) (fun q => by rw [ma_E_long (by rw [ma_new_H]), ma_new_H]; show Sum.inl (kA 23, _, Sum.inr (Sum.inl (ma_uc (mL S) S.1 (fun _ => 0) (mN S)))) = _; rw [show ma_uc (mL S) S.1 (fun _ => 0) (mN S) = (fun _ => 0) from if_pos rfl])
    · cases h
  · next x kx r =>
    split at h
    · next hk =>
      simp only [Bool.and_eq_true, decide_eq_true_eq] at hk
      have hneg : ¬ kx < 0 := fun z => absurd hk.1 (Int32.not_le.mpr z)
      cases ht : ma_ant o x with
      | none => rw [ht] at h; cases h
      | some t =>
        rw [ht] at h
        cases h
        rw [e1] at hr1
        rw [e2] at hr2
        simp only [e1, e2] at k
        refine ⟨?_, fin t kx.toNatClampNeg r (ma_cs_tl hc)⟩
        obtain ⟨ht2, hw⟩ := ma_ant_spec ht
        have hAO : va_AO (ma_anC t) s := by
          rcases ht2 with rfl | rfl
          · exact hO.1
          · exact hO.2
        obtain ⟨t0, ht0⟩ : ∃ t0, (ma_tys kA)[t0]? = some (kA t, FieldType.object (ma_anC t)) := by
          rcases ht2 with rfl | rfl
          · exact ⟨4, rfl⟩
          · exact ⟨5, rfl⟩
        refine va_newq hx hb hown (hts _ hw) hAO hK hP hD hS hA hneg rfl (by omega) hr1 hr2 hd (fun q cA H1 b1 b2 b3 b4 => ?_)
        have hcA : cA = kA t := by
          obtain ⟨_, _, _, _, _, g1⟩ := (b1.2 (ma_tys kA).length (cA, .object (ma_anC t)) (by rw [List.getElem?_append_right (Nat.le_refl _), Nat.sub_self]; rfl)).2
          obtain ⟨_, _, _, _, _, g2⟩ := (hK.2 t0 _ ht0).2
          exact Option.some.inj (g1.symm.trans g2)
        subst hcA
        have hE : ma_wl kA ad S ++ [(q, .inl (kA t, kx.toNatClampNeg, .inr (.inr (.inr (.inr (fun _ => none))))))] = ma_wl kA (va_up ad (mN S) q) (ma_new S t kx.toNatClampNeg) := by
          rw [ma_wl_new hh, ma_E_ref (t := t) (by rw [ma_new_H]) (by omega), ma_new_H]
          show _ = _ ++ [(q, Sum.inl (kA t, _, Sum.inr (Sum.inr (Sum.inr (Sum.inr (fun j => (ma_uc (mR S) S.1 (fun _ => none) (mN S) j).map (va_up ad (mN S) q)))))))]
          rw [show ma_uc (mR S) S.1 (fun _ => none) (mN S) = (fun _ => none) from if_pos rfl]
          rfl
        have := k q H1 (hE ▸ b2) (hE ▸ b3) b4
        rw [tsr q r (ma_cs_tl hc)] at this
        exact this
    · cases h
  · cases h
end MA4

/-! from 40.extra -/
/-! THE SMALL MACHINE, part 5: constants, class tests, rows of collectors; what the tables say beyond the good words -/
def ma_nw : List Cond := [.castable "java/lang/IndexOutOfBoundsException" "java/lang/IndexOutOfBoundsException", .castable "java/lang/IllegalArgumentException" "java/lang/IllegalArgumentException", .castable "java/lang/IllegalStateException" "java/lang/IllegalStateException", .castable "java/util/NoSuchElementException" "java/util/NoSuchElementException", .castable "java/lang/ClassCastException" "java/lang/ClassCastException", .castable "java/lang/UnsupportedOperationException" "java/lang/UnsupportedOperationException", .castable "CollectorHouse$Steps" "CollectorHouse$Steps", .castable "CollectorHouse$Counts" "CollectorHouse$Sweep", .castable "CollectorHouse$Steps" "CollectorHouse$Sweep", .castable "CollectorHouse$Sweep" "CollectorHouse$Sweep", .castable "CollectorHouse$Ages" "CollectorHouse$Collector", .castable "CollectorHouse$Counts" "CollectorHouse$Collector", .castable "CollectorHouse$Halves" "CollectorHouse$Collector", .castable "CollectorHouse$Regions" "CollectorHouse$Collector", .castable "CollectorHouse$Slide" "CollectorHouse$Collector", .castable "CollectorHouse$Steps" "CollectorHouse$Collector", .castable "CollectorHouse$Sweep" "CollectorHouse$Collector", .methodLinkNest "CollectorHouse" 25 ⟨"CollectorHouse$Store", "<init>", "()V"⟩ "CollectorHouse", .methodLinkNest "CollectorHouse$Store" 82 ⟨"CollectorHouse", "numberOf", "(LCollectorHouse$Thing;)I"⟩ "CollectorHouse", .declares ⟨"CollectorHouse$Collector", "open", "([I)V"⟩, .declares ⟨"CollectorHouse$Collector", "total", "()I"⟩, .declares ⟨"java/lang/RuntimeException", "<init>", "()V"⟩, .declares ⟨"java/lang/RuntimeException", "<init>", "(Ljava/lang/String;)V"⟩, .declares ⟨"java/lang/Exception", "<init>", "()V"⟩, .declares ⟨"java/lang/Exception", "<init>", "(Ljava/lang/String;)V"⟩, .declares ⟨"java/lang/Throwable", "<init>", "()V"⟩, .declares ⟨"java/lang/Throwable", "<init>", "(Ljava/lang/String;)V"⟩, .declares ⟨"CollectorHouse$Collector", "findRoom", "(I)I"⟩, .declares ⟨"CollectorHouse$Collector", "slideDown", "(I)I"⟩, .declares ⟨"CollectorHouse$Collector", "removeUnreached", "()I"⟩, .declares ⟨"CollectorHouse$Sweep", "fit", "(I)I"⟩, .declares ⟨"CollectorHouse$Collector", "noteMade", "(LCollectorHouse$Thing;)V"⟩, .declares ⟨"CollectorHouse$Collector", "cleanAll", "()I"⟩]
def ma_nc : List (String × String) := [("CollectorHouse$Ages", "CollectorHouse$Steps"), ("CollectorHouse$Ages", "CollectorHouse$Sweep"), ("CollectorHouse$Counts", "CollectorHouse$Steps"), ("CollectorHouse$Halves", "CollectorHouse$Steps"), ("CollectorHouse$Halves", "CollectorHouse$Sweep"), ("CollectorHouse$Regions", "CollectorHouse$Steps"), ("CollectorHouse$Regions", "CollectorHouse$Sweep"), ("CollectorHouse$Slide", "CollectorHouse$Steps"), ("CollectorHouse$Slide", "CollectorHouse$Sweep"), ("CollectorHouse$Sweep", "CollectorHouse$Steps"), ("java/lang/IndexOutOfBoundsException", "java/lang/IllegalArgumentException"), ("java/lang/IndexOutOfBoundsException", "java/lang/IllegalStateException"), ("java/lang/IndexOutOfBoundsException", "java/util/NoSuchElementException"), ("java/lang/IndexOutOfBoundsException", "java/lang/ClassCastException"), ("java/lang/IndexOutOfBoundsException", "java/lang/UnsupportedOperationException"), ("java/lang/IllegalArgumentException", "java/lang/IndexOutOfBoundsException"), ("java/lang/IllegalArgumentException", "java/lang/IllegalStateException"), ("java/lang/IllegalArgumentException", "java/util/NoSuchElementException"), ("java/lang/IllegalArgumentException", "java/lang/ClassCastException"), ("java/lang/IllegalArgumentException", "java/lang/UnsupportedOperationException"), ("java/lang/IllegalStateException", "java/lang/IndexOutOfBoundsException"), ("java/lang/IllegalStateException", "java/lang/IllegalArgumentException"), ("java/lang/IllegalStateException", "java/util/NoSuchElementException"), ("java/lang/IllegalStateException", "java/lang/ClassCastException"), ("java/lang/IllegalStateException", "java/lang/UnsupportedOperationException"), ("java/util/NoSuchElementException", "java/lang/IndexOutOfBoundsException"), ("java/util/NoSuchElementException", "java/lang/IllegalArgumentException"), ("java/util/NoSuchElementException", "java/lang/IllegalStateException"), ("java/util/NoSuchElementException", "java/lang/ClassCastException"), ("java/util/NoSuchElementException", "java/lang/UnsupportedOperationException"), ("java/lang/ClassCastException", "java/lang/IndexOutOfBoundsException"), ("java/lang/ClassCastException", "java/lang/IllegalArgumentException"), ("java/lang/ClassCastException", "java/lang/IllegalStateException"), ("java/lang/ClassCastException", "java/util/NoSuchElementException"), ("java/lang/ClassCastException", "java/lang/UnsupportedOperationException"), ("java/lang/UnsupportedOperationException", "java/lang/IndexOutOfBoundsException"), ("java/lang/UnsupportedOperationException", "java/lang/IllegalArgumentException"), ("java/lang/UnsupportedOperationException", "java/lang/IllegalStateException"), ("java/lang/UnsupportedOperationException", "java/util/NoSuchElementException"), ("java/lang/UnsupportedOperationException", "java/lang/ClassCastException")]
def ma_Nx (s : State) : Prop := (∀ w ∈ ma_nw, va_Nw w s) ∧ (va_AO RX9 s ∧ va_AO RX1 s) ∧ ∀ q ∈ ma_nc, va_Nc q.1 q.2 s
def ma_wf3 (w : Cond) : Bool := match w with
  | .castable _ _ => true
  | .methodLinkNest _ _ _ _ => true
  | .declares _ => true
  | _ => false
theorem ma_nw_f : ∀ w ∈ ma_nw, ma_wf3 w = true := List.all_eq_true.mp (by decide +kernel)
theorem ma_Nx.warm {s U : State} (hW : s.WarmedH U.vm) (h : ma_Nx s) : ma_Nx U := by
  refine ⟨fun w hw => ?_, ⟨va_AO.moved hW.alike h.2.1.1, va_AO.moved hW.alike h.2.1.2⟩, fun q hq => va_Nc.moved hW.alike (h.2.2 q hq)⟩
  have hf := ma_nw_f w hw
  have hz := h.1 w hw
  unfold ma_wf3 at hf
  split at hf
  · exact va_Nw.warmC hW hz
  · exact va_Nw.warmM hW hz
  · exact va_Nw.warmD hW hz
  · cases hf
theorem ma_Nx.calling {s : State} (g : JFrame) (mk : MethodId) (a : Array Value) (h : ma_Nx s) : ma_Nx (s.calling g mk a) := by
  refine ⟨fun w hw => ?_, ⟨va_AO.moved (Vm.Alike.refl s.vm) h.2.1.1, va_AO.moved (Vm.Alike.refl s.vm) h.2.1.2⟩, fun q hq => va_Nc.moved (Vm.Alike.refl s.vm) (h.2.2 q hq)⟩
  have hf := ma_nw_f w hw
  have hz := h.1 w hw
  unfold ma_wf3 at hf
  split at hf
  · exact va_Nw.same rfl rfl hz
  · exact va_Nw.same rfl rfl hz
  · exact va_Nw.same rfl rfl hz
  · cases hf
def ma_lch : List ((Nat × Nat × Int32) × Nat) := [((2, 32, 1000000), 1152), ((12, 55, 186000), 1513)]
theorem ma_lch_ok : ∀ q ∈ ma_lch, (decide (ma_ti (q.2) = some (.constant (ma_cn q.1.1) q.1.2.1 q.1.2.2)) && goodWord (.constant (ma_cn q.1.1) q.1.2.1 q.1.2.2)) = true := List.all_eq_true.mp (by decide +kernel)
def ma_lct (o i : Nat) : Option Int32 := (ma_lch.find? (fun q => q.1.1 == o && q.1.2.1 == i)).map (fun q => q.1.2.2)
theorem ma_lct_spec {o i : Nat} {v : Int32} (h : ma_lct o i = some v) : Cond.constant (ma_cn o) i v ∈ ma_TB := by
  unfold ma_lct at h
  cases hf : ma_lch.find? (fun q => q.1.1 == o && q.1.2.1 == i) with
  | none => rw [hf] at h; cases h
  | some q =>
    rw [hf] at h
    have hk : q.1.2.2 = v := Option.some.inj h
    have h1 := List.find?_some hf
    simp only [Bool.and_eq_true, beq_iff_eq] at h1
    have h2 := ma_lch_ok q (List.mem_of_find?_eq_some hf)
    rw [hk, h1.1, h1.2] at h2
    simp only [Bool.and_eq_true] at h2
    exact ma_TB_in h2.1 h2.2
def ma_l2h : List ((Nat × Nat × Int64) × Nat) := [((11, 117, -1), 1181)]
theorem ma_l2h_ok : ∀ q ∈ ma_l2h, (decide (ma_ti (q.2) = some (.constantLong (ma_cn q.1.1) q.1.2.1 q.1.2.2)) && goodWord (.constantLong (ma_cn q.1.1) q.1.2.1 q.1.2.2)) = true := List.all_eq_true.mp (by decide +kernel)
def ma_l2t (o i : Nat) : Option Int64 := (ma_l2h.find? (fun q => q.1.1 == o && q.1.2.1 == i)).map (fun q => q.1.2.2)
theorem ma_l2t_spec {o i : Nat} {v : Int64} (h : ma_l2t o i = some v) : Cond.constantLong (ma_cn o) i v ∈ ma_TB := by
  unfold ma_l2t at h
  cases hf : ma_l2h.find? (fun q => q.1.1 == o && q.1.2.1 == i) with
  | none => rw [hf] at h; cases h
  | some q =>
    rw [hf] at h
    have hk : q.1.2.2 = v := Option.some.inj h
    have h1 := List.find?_some hf
    simp only [Bool.and_eq_true, beq_iff_eq] at h1
    have h2 := ma_l2h_ok q (List.mem_of_find?_eq_some hf)
    rw [hk, h1.1, h1.2] at h2
    simp only [Bool.and_eq_true] at h2
    exact ma_TB_in h2.1 h2.2
/-- (own class, pool entry, class of the object), is it one?; the class named; the row -/
def ma_cth : List ((Nat × Nat × Nat × Bool) × String × Nat) := [((11, 41, 1, false), "CollectorHouse$Sweep", 136), ((11, 41, 2, true), "CollectorHouse$Sweep", 136), ((11, 41, 3, false), "CollectorHouse$Sweep", 136), ((11, 41, 4, false), "CollectorHouse$Sweep", 136), ((11, 41, 5, false), "CollectorHouse$Sweep", 136), ((11, 41, 6, true), "CollectorHouse$Sweep", 136), ((11, 41, 8, true), "CollectorHouse$Sweep", 136), ((11, 58, 1, false), "CollectorHouse$Steps", 267), ((11, 58, 2, false), "CollectorHouse$Steps", 267), ((11, 58, 3, false), "CollectorHouse$Steps", 267), ((11, 58, 4, false), "CollectorHouse$Steps", 267), ((11, 58, 5, false), "CollectorHouse$Steps", 267), ((11, 58, 6, true), "CollectorHouse$Steps", 267), ((11, 58, 8, false), "CollectorHouse$Steps", 267)]
def ma_ctc (q : (Nat × Nat × Nat × Bool) × String × Nat) : Bool := match vwCl[q.1.2.2.1]? with
  | some (C, _, _) => (decide (ma_ti (q.2.2) = some (.classLink (ma_cn q.1.1) q.1.2.1 q.2.1)) && goodWord (.classLink (ma_cn q.1.1) q.1.2.1 q.2.1)) && (if q.1.2.2.2 then decide (Cond.castable C q.2.1 ∈ ma_nw) else decide ((C, q.2.1) ∈ ma_nc))
  | none => false
theorem ma_cth_ok : ∀ q ∈ ma_cth, ma_ctc q = true := List.all_eq_true.mp (by decide +kernel)
def ma_ctt (o i t : Nat) : Option Bool := (ma_cth.find? (fun q => q.1.1 == o && q.1.2.1 == i && q.1.2.2.1 == t)).map (fun q => q.1.2.2.2)
theorem ma_ctt_spec {o i t : Nat} {b : Bool} {C : String} {T : u_T} {N : Nat} (h : ma_ctt o i t = some b) (hc : vwCl[t]? = some (C, T, N)) : ∃ nm : String, Cond.classLink (ma_cn o) i nm ∈ ma_TB ∧ (if b then Cond.castable C nm ∈ ma_nw else (C, nm) ∈ ma_nc) := by
  unfold ma_ctt at h
  cases hf : ma_cth.find? (fun q => q.1.1 == o && q.1.2.1 == i && q.1.2.2.1 == t) with
  | none => rw [hf] at h; cases h
  | some q =>
    rw [hf] at h
    have hk : q.1.2.2.2 = b := Option.some.inj h
    have h1 := List.find?_some hf
    simp only [Bool.and_eq_true, beq_iff_eq] at h1
    have h2 := ma_cth_ok q (List.mem_of_find?_eq_some hf)
    unfold ma_ctc at h2
    rw [h1.2, hc] at h2
    simp only [h1.1.1, h1.1.2, hk, Bool.and_eq_true] at h2
    refine ⟨q.2.1, ma_TB_in h2.1.1 h2.1.2, ?_⟩
    cases b with
    | true => exact of_decide_eq_true h2.2
    | false => exact of_decide_eq_true h2.2
/-- classes whose objects a row of collectors may hold -/
def ma_co (t : Nat) : Bool := match vwCl[t]? with
  | some (C, _, _) => decide (Cond.castable C RX1 ∈ ma_nw)
  | none => false
def ma_ex (o : Nat) (i : Instr) (n : Nat) (st : List ma_V) (S : ma_S) : Option (List ma_V × ma_S) := match i, n, st with
  | .ldc x, 2, r => (ma_lct o x).map (fun v => (.inl v :: r, S))
  | .ldc2_w x, 3, r => (ma_l2t o x).map (fun v => (.inr (.inl v) :: r, S))
  | .instanceof x, 3, .inr (.inr none) :: r => some (.inl 0 :: r, S)
  | .instanceof x, 3, .inr (.inr (some c)) :: r => if ma_is S c && decide (1 ≤ (mH S c).1) && decide ((mH S c).1 ≤ 12) then (ma_ctt o x (mH S c).1).map (fun b => (.inl (if b then 1 else 0) :: r, S)) else none
  | .checkcast x, 3, .inr (.inr none) :: r => some (.inr (.inr none) :: r, S)
  | .checkcast x, 3, .inr (.inr (some c)) :: r => if ma_is S c && decide (1 ≤ (mH S c).1) && decide ((mH S c).1 ≤ 12) && decide (ma_ctt o x (mH S c).1 = some true) then some (.inr (.inr (some c)) :: r, S) else none
  | .aastore, 1, .inr (.inr (some b)) :: .inl j :: .inr (.inr (some c)) :: r => if ma_is S c && decide ((mH S c).1 = 25) && ma_ix S c j && ma_is S b && decide (1 ≤ (mH S b).1) && decide ((mH S b).1 ≤ 12) && ma_co (mH S b).1 then some (r, ma_put S c j.toNatClampNeg (.inr (.inr (some b)))) else none
  | _, _, _ => none
theorem ma_ex_c {o n : Nat} {i : Instr} {st st₉ : List ma_V} {S S₉ : ma_S} (hh : ma_ch S) (hc : ma_cs (mN S) st) (h : ma_ex o i n st S = some (st₉, S₉)) : ma_ch S₉ ∧ ma_cs (mN S₉) st₉ ∧ mN S₉ = mN S ∧ mC S₉ = mC S ∧ mZ S₉ = mZ S := by
  have mapv : ∀ {α : Type} {x : Option α} {f : α → List ma_V}, x.map (fun v => (f v, S)) = some (st₉, S₉) → (∀ v, ma_cs (mN S) (f v)) → ma_ch S₉ ∧ ma_cs (mN S₉) st₉ ∧ mN S₉ = mN S ∧ mC S₉ = mC S ∧ mZ S₉ = mZ S := by
    intro α x f hx hf
    cases x with
    | none => cases hx
    | some v => cases hx; exact ⟨hh, hf v, rfl, rfl, rfl⟩
  unfold ma_ex at h
  split at h
  · exact mapv h (fun v => ma_cs_cons ma_cv_i hc)
  · exact mapv h (fun v => ma_cs_cons ma_cv_l hc)
  · cases h; exact ⟨hh, ma_cs_cons ma_cv_i (ma_cs_tl hc), rfl, rfl, rfl⟩
  · split at h
    · exact mapv h (fun v => ma_cs_cons ma_cv_i (ma_cs_tl hc))
    · cases h
  · cases h; exact ⟨hh, hc, rfl, rfl, rfl⟩
  · split at h
    · cases h; exact ⟨hh, hc, rfl, rfl, rfl⟩
    · cases h
  · split at h
    · cases h
      exact ⟨ma_put_ch hh (ma_cs_hd hc), ma_cs_tl (ma_cs_tl (ma_cs_tl hc)), rfl, rfl, rfl⟩
    · cases h
  · cases h
section MA5
variable {p : Program} {l : Launch} {e : Env} {R : Room} {s : State} {m : MethodId} {args : Array Value} {below : List Frame} {meth : Method} {c : Code} {H H0 : Heap} {locs : List Loc} {cells slots : Nat} {Q : State → Prop} {cc : ByteArray} {pc : Nat} {ls : Array Slot} {ad : Nat → Nat} {kA : Nat → ClassId} {D : va_G} {A : Nat → Prop}
theorem ma_ex_ok (hx : p.tables.exec = Jvm.exec) (hb : c.code = cc) {o n : Nat} {i : Instr} {st st₉ : List ma_V} {S S₉ : ma_S} (hown : s.vm.findClass (ma_cn o) = some m.cls) (hts : ∀ w ∈ ma_TB, w.before args s = true) (hK : va_K D vwCl (ma_tys kA) s) (hN : ma_Nx s)
    (hP : va_P D vwCl (ma_wl kA ad S) H) (hD : va_D A (ma_wl kA ad S)) (hS : va_S A H0 H locs) (hd : decode cc pc = .ok (i, n)) (h : ma_ex o i n st S = some (st₉, S₉))
    (k : ∀ (H1 : Heap) (locs1 : List Loc), va_P D vwCl (ma_wl kA ad S₉) H1 → va_D A (ma_wl kA ad S₉) → va_S A H0 H1 locs1 → W p l e R s m args below meth c H1 locs1 cells slots Q (F0 m (pc + n) ls (ma_ts ad st₉))) : W p l e R s m args below meth c H locs cells slots Q (F0 m pc ls (ma_ts ad st)) := by
  have is2 : ∀ {c : Nat}, ma_is S c = true → 64 ≤ c ∧ c < mN S := fun hh => by simpa [ma_is] using hh
  unfold ma_ex at h
  split at h
  · next r x =>
    cases hf : ma_lct o x with
    | none => rw [hf] at h; cases h
    | some v => rw [hf] at h; cases h; exact lv_ldc hx hb hown (hts _ (ma_lct_spec hf)) hd (k H locs hP hD hS)
  · next r x =>
    cases hf : ma_l2t o x with
    | none => rw [hf] at h; cases h
    | some v => rw [hf] at h; cases h; exact lv_ldc2 hx hb hown (hts _ (ma_l2t_spec hf)) hd (k H locs hP hD hS)
  · cases h; exact lv_instN hx hb hd (k H locs hP hD hS)
  · next x cx r =>
    split at h
    · next hc =>
      simp only [Bool.and_eq_true, decide_eq_true_eq] at hc
      obtain ⟨⟨hi, t1⟩, t2⟩ := hc
      obtain ⟨i1, i2⟩ := is2 hi
      obtain ⟨C, T, hcl, hw, hty, hnm⟩ := ma_clok_all t1 t2
      cases hf : ma_ctt o x (mH S cx).1 with
      | none => rw [hf] at h; cases h
      | some b =>
        rw [hf] at h
        cases h
        obtain ⟨nm, w1, w2⟩ := ma_ctt_spec hf hcl
        have hr := va_recv (a := ad cx) (fs := ma_fs ad S cx (mH S cx).1) hK hP hcl ((ma_wl_at i1 i2).trans (by rw [ma_E_obj (by omega)]))
        cases b with
        | true => exact va_instY hx hb hown (hts _ w1) (hN.1 _ w2) hr hd (k H locs hP hD hS)
        | false => exact va_instNo hx hb hown (hts _ w1) (hN.2.2 _ w2) hr hd (k H locs hP hD hS)
    · cases h
  · cases h; exact lv_castN hx hb hd (k H locs hP hD hS)
  · next x cx r =>
    split at h
    · next hc =>
      simp only [Bool.and_eq_true, decide_eq_true_eq] at hc
      obtain ⟨⟨⟨hi, t1⟩, t2⟩, hf⟩ := hc
      obtain ⟨i1, i2⟩ := is2 hi
      obtain ⟨C, T, hcl, hw, hty, hnm⟩ := ma_clok_all t1 t2
      cases h
      obtain ⟨nm, w1, w2⟩ := ma_ctt_spec hf hcl
      exact va_castY hx hb hown (hts _ w1) (hN.1 _ w2) (va_recv (a := ad cx) (fs := ma_fs ad S cx (mH S cx).1) hK hP hcl ((ma_wl_at i1 i2).trans (by rw [ma_E_obj (by omega)]))) hd (k H locs hP hD hS)
    · cases h
  · next bx j cx r =>
    split at h
    · next hc =>
      simp only [Bool.and_eq_true, decide_eq_true_eq] at hc
      obtain ⟨⟨⟨⟨⟨⟨hi, t1⟩, t2⟩, hv⟩, v3⟩, v4⟩, v5⟩ := hc
      obtain ⟨i1, i2⟩ := is2 hi
      obtain ⟨v1, v2⟩ := is2 hv
      obtain ⟨C, T, hcl, hw, hty, hnm⟩ := ma_clok_all v3 v4
      have hca : Cond.castable C RX1 ∈ ma_nw := by
        unfold ma_co at v5
        rw [hcl] at v5
        exact of_decide_eq_true v5
      cases h
      have hset : (ma_wl kA ad S).set (cx - 64) (ad cx, .inl (kA 25, (mH S cx).2, .inr (.inr (.inr (.inr (va_up (fun j => (mR S cx j).map ad) j.toNatClampNeg (some (ad bx)))))))) = ma_wl kA ad (ma_put S cx j.toNatClampNeg (.inr (.inr (some bx)))) := by
        refine ma_wl_set i1 i2 rfl ?_ (fun c₉ hc₉ => ma_put_o hc₉)
        rw [ma_E_ref (S := ma_put S cx j.toNatClampNeg (.inr (.inr (some bx)))) (t := 25) t1 (by omega)]
        show Sum.inl (kA 25, (mH S cx).2, Sum.inr (Sum.inr (Sum.inr (Sum.inr (fun i => (ma_u (mR S) cx j.toNatClampNeg (some bx) cx i).map ad))))) = _
        rw [ma_u_eq]
        have : (fun i => (va_up (mR S cx) j.toNatClampNeg (some bx) i).map ad) = va_up (fun j => (mR S cx j).map ad) j.toNatClampNeg (some (ad bx)) := by
          funext i; unfold va_up; split <;> rfl
        rw [this]
      exact va_astqO (r := (C, T, ma_fn (mH S bx).1)) hx hb hK hP hD hS (cx - 64) 5 (bx - 64) (mH S bx).1 ((ma_wl_at i1 i2).trans (by rw [ma_E_ref t1 (by omega)])) rfl (hN.1 _ hca) ((ma_wl_at v1 v2).trans (by rw [ma_E_obj (by omega)])) hcl (ma_ix_in t2) hd (fun H1 locs1 a1 a2 a3 => k H1 locs1 (hset ▸ a1) (hset ▸ a2) a3)
    · cases h
  · cases h
end MA5

