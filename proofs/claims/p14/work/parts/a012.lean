/-! from 92.1instr -/
/-! instructions, decoded -/
theorem dX7_referenceOf_0 : decode cX7_referenceOf 0 = .ok (.aload_n 1, 1) := by decide +kernel
theorem dX7_referenceOf_4 : decode cX7_referenceOf 4 = .ok (.iconst 1, 1) := by decide +kernel
theorem dX7_referenceOf_5 : decode cX7_referenceOf 5 = .ok (.iadd, 1) := by decide +kernel
theorem dX7_referenceOf_6 : decode cX7_referenceOf 6 = .ok (.iload_n 2, 1) := by decide +kernel
theorem dX7_referenceOf_7 : decode cX7_referenceOf 7 = .ok (.iadd, 1) := by decide +kernel
theorem dX7_referenceOf_8 : decode cX7_referenceOf 8 = .ok (.istore_n 3, 1) := by decide +kernel
theorem dX7_referenceOf_9 : decode cX7_referenceOf 9 = .ok (.aload_n 1, 1) := by decide +kernel
theorem dX7_referenceOf_13 : decode cX7_referenceOf 13 = .ok (.iload_n 2, 1) := by decide +kernel
theorem dX7_referenceOf_14 : decode cX7_referenceOf 14 = .ok (.lushr, 1) := by decide +kernel
theorem dX7_referenceOf_15 : decode cX7_referenceOf 15 = .ok (.lconst 1, 1) := by decide +kernel
theorem dX7_referenceOf_16 : decode cX7_referenceOf 16 = .ok (.land, 1) := by decide +kernel
theorem dX7_referenceOf_17 : decode cX7_referenceOf 17 = .ok (.lconst 0, 1) := by decide +kernel
theorem dX7_referenceOf_18 : decode cX7_referenceOf 18 = .ok (.lcmp, 1) := by decide +kernel
theorem dX7_referenceOf_26 : decode cX7_referenceOf 26 = .ok (.iconst 0, 1) := by decide +kernel
theorem dX7_referenceOf_27 : decode cX7_referenceOf 27 = .ok (.istore 4, 2) := by decide +kernel
theorem dX7_referenceOf_29 : decode cX7_referenceOf 29 = .ok (.iload 4, 2) := by decide +kernel
theorem dX7_referenceOf_31 : decode cX7_referenceOf 31 = .ok (.ifCond .eq 23, 3) := by decide +kernel
theorem dX7_referenceOf_54 : decode cX7_referenceOf 54 = .ok (.iconst (-1), 1) := by decide +kernel
theorem dX7_referenceOf_55 : decode cX7_referenceOf 55 = .ok (.istore 5, 2) := by decide +kernel
theorem dX7_referenceOf_57 : decode cX7_referenceOf 57 = .ok (.iload 5, 2) := by decide +kernel
theorem dX7_referenceOf_59 : decode cX7_referenceOf 59 = .ok (.ifCond .lt 21, 3) := by decide +kernel
theorem dX7_referenceOf_80 : decode cX7_referenceOf 80 = .ok (.aconst_null, 1) := by decide +kernel
theorem dX7_referenceOf_81 : decode cX7_referenceOf 81 = .ok (.areturn, 1) := by decide +kernel
theorem dX7_referenceOf_22 : decode cX7_referenceOf 22 = .ok (.iconst 1, 1) := by decide +kernel
theorem dX7_referenceOf_23 : decode cX7_referenceOf 23 = .ok (.goto 4, 3) := by decide +kernel
theorem dX7_referenceOf_34 : decode cX7_referenceOf 34 = .ok (.iload_n 3, 1) := by decide +kernel
theorem dX7_referenceOf_38 : decode cX7_referenceOf 38 = .ok (.iload_n 3, 1) := by decide +kernel
theorem dX7_referenceOf_39 : decode cX7_referenceOf 39 = .ok (.sipush 4500, 3) := by decide +kernel
theorem dX7_referenceOf_45 : decode cX7_referenceOf 45 = .ok (.aload_n 0, 1) := by decide +kernel
theorem dX7_referenceOf_49 : decode cX7_referenceOf 49 = .ok (.iload_n 3, 1) := by decide +kernel
theorem dX7_referenceOf_51 : decode cX7_referenceOf 51 = .ok (.goto 4, 3) := by decide +kernel
theorem dX7_referenceOf_62 : decode cX7_referenceOf 62 = .ok (.iload 5, 2) := by decide +kernel
theorem dX7_referenceOf_64 : decode cX7_referenceOf 64 = .ok (.sipush 512, 3) := by decide +kernel
theorem dX7_referenceOf_70 : decode cX7_referenceOf 70 = .ok (.aload_n 0, 1) := by decide +kernel
theorem dX7_referenceOf_74 : decode cX7_referenceOf 74 = .ok (.iload 5, 2) := by decide +kernel
theorem dX7_referenceOf_77 : decode cX7_referenceOf 77 = .ok (.goto 4, 3) := by decide +kernel
theorem dX7_referenceOf_76 : decode cX7_referenceOf 76 = .ok (.aaload, 1) := by decide +kernel
theorem dX7_referenceOf_71 : decode cX7_referenceOf 71 = .ok (.getfield 11, 3) := by decide +kernel
theorem dX7_referenceOf_67 : decode cX7_referenceOf 67 = .ok (.if_icmp .ge 13, 3) := by decide +kernel
theorem dX7_referenceOf_50 : decode cX7_referenceOf 50 = .ok (.iaload, 1) := by decide +kernel
theorem dX7_referenceOf_46 : decode cX7_referenceOf 46 = .ok (.getfield 17, 3) := by decide +kernel
theorem dX7_referenceOf_42 : decode cX7_referenceOf 42 = .ok (.if_icmp .ge 12, 3) := by decide +kernel
theorem dX7_referenceOf_35 : decode cX7_referenceOf 35 = .ok (.ifCond .lt 19, 3) := by decide +kernel
theorem dX7_referenceOf_19 : decode cX7_referenceOf 19 = .ok (.ifCond .eq 7, 3) := by decide +kernel
theorem dX7_referenceOf_10 : decode cX7_referenceOf 10 = .ok (.getfield 74, 3) := by decide +kernel
theorem dX7_referenceOf_1 : decode cX7_referenceOf 1 = .ok (.getfield 61, 3) := by decide +kernel
theorem dX7_changeInt_0 : decode cX7_changeInt 0 = .ok (.aload_n 1, 1) := by decide +kernel
theorem dX7_changeInt_4 : decode cX7_changeInt 4 = .ok (.iconst 1, 1) := by decide +kernel
theorem dX7_changeInt_5 : decode cX7_changeInt 5 = .ok (.iadd, 1) := by decide +kernel
theorem dX7_changeInt_6 : decode cX7_changeInt 6 = .ok (.iload_n 2, 1) := by decide +kernel
theorem dX7_changeInt_7 : decode cX7_changeInt 7 = .ok (.iadd, 1) := by decide +kernel
theorem dX7_changeInt_8 : decode cX7_changeInt 8 = .ok (.istore 4, 2) := by decide +kernel
theorem dX7_changeInt_10 : decode cX7_changeInt 10 = .ok (.iload 4, 2) := by decide +kernel
theorem dX7_changeInt_23 : decode cX7_changeInt 23 = .ok (.iconst (-1), 1) := by decide +kernel
theorem dX7_changeInt_24 : decode cX7_changeInt 24 = .ok (.ireturn, 1) := by decide +kernel
theorem dX7_changeInt_15 : decode cX7_changeInt 15 = .ok (.iload 4, 2) := by decide +kernel
theorem dX7_changeInt_17 : decode cX7_changeInt 17 = .ok (.sipush 4500, 3) := by decide +kernel
theorem dX7_changeInt_25 : decode cX7_changeInt 25 = .ok (.aload_n 0, 1) := by decide +kernel
theorem dX7_changeInt_29 : decode cX7_changeInt 29 = .ok (.iload 4, 2) := by decide +kernel
theorem dX7_changeInt_32 : decode cX7_changeInt 32 = .ok (.istore 5, 2) := by decide +kernel
theorem dX7_changeInt_34 : decode cX7_changeInt 34 = .ok (.aload_n 0, 1) := by decide +kernel
theorem dX7_changeInt_38 : decode cX7_changeInt 38 = .ok (.iload 4, 2) := by decide +kernel
theorem dX7_changeInt_40 : decode cX7_changeInt 40 = .ok (.iload_n 3, 1) := by decide +kernel
theorem dX7_changeInt_42 : decode cX7_changeInt 42 = .ok (.iload 5, 2) := by decide +kernel
theorem dX7_changeInt_44 : decode cX7_changeInt 44 = .ok (.ireturn, 1) := by decide +kernel
theorem dX7_changeInt_41 : decode cX7_changeInt 41 = .ok (.iastore, 1) := by decide +kernel
theorem dX7_changeInt_35 : decode cX7_changeInt 35 = .ok (.getfield 17, 3) := by decide +kernel
theorem dX7_changeInt_31 : decode cX7_changeInt 31 = .ok (.iaload, 1) := by decide +kernel
theorem dX7_changeInt_26 : decode cX7_changeInt 26 = .ok (.getfield 17, 3) := by decide +kernel
theorem dX7_changeInt_20 : decode cX7_changeInt 20 = .ok (.if_icmp .lt 5, 3) := by decide +kernel
theorem dX7_changeInt_12 : decode cX7_changeInt 12 = .ok (.ifCond .lt 11, 3) := by decide +kernel
theorem dX7_changeInt_1 : decode cX7_changeInt 1 = .ok (.getfield 61, 3) := by decide +kernel
theorem dX7_wordOf_0 : decode cX7_wordOf 0 = .ok (.aload_n 1, 1) := by decide +kernel
theorem dX7_wordOf_4 : decode cX7_wordOf 4 = .ok (.iconst 1, 1) := by decide +kernel
theorem dX7_wordOf_5 : decode cX7_wordOf 5 = .ok (.iadd, 1) := by decide +kernel
theorem dX7_wordOf_6 : decode cX7_wordOf 6 = .ok (.iload_n 2, 1) := by decide +kernel
theorem dX7_wordOf_7 : decode cX7_wordOf 7 = .ok (.iadd, 1) := by decide +kernel
theorem dX7_wordOf_8 : decode cX7_wordOf 8 = .ok (.istore_n 3, 1) := by decide +kernel
theorem dX7_wordOf_9 : decode cX7_wordOf 9 = .ok (.iload_n 3, 1) := by decide +kernel
theorem dX7_wordOf_29 : decode cX7_wordOf 29 = .ok (.iconst (-1), 1) := by decide +kernel
theorem dX7_wordOf_30 : decode cX7_wordOf 30 = .ok (.ireturn, 1) := by decide +kernel
theorem dX7_wordOf_13 : decode cX7_wordOf 13 = .ok (.iload_n 3, 1) := by decide +kernel
theorem dX7_wordOf_14 : decode cX7_wordOf 14 = .ok (.sipush 4500, 3) := by decide +kernel
theorem dX7_wordOf_20 : decode cX7_wordOf 20 = .ok (.aload_n 0, 1) := by decide +kernel
theorem dX7_wordOf_24 : decode cX7_wordOf 24 = .ok (.iload_n 3, 1) := by decide +kernel
theorem dX7_wordOf_26 : decode cX7_wordOf 26 = .ok (.goto 4, 3) := by decide +kernel
theorem dX7_wordOf_25 : decode cX7_wordOf 25 = .ok (.iaload, 1) := by decide +kernel
theorem dX7_wordOf_21 : decode cX7_wordOf 21 = .ok (.getfield 17, 3) := by decide +kernel
theorem dX7_wordOf_17 : decode cX7_wordOf 17 = .ok (.if_icmp .ge 12, 3) := by decide +kernel
theorem dX7_wordOf_10 : decode cX7_wordOf 10 = .ok (.ifCond .lt 19, 3) := by decide +kernel
theorem dX7_wordOf_1 : decode cX7_wordOf 1 = .ok (.getfield 61, 3) := by decide +kernel
theorem dX7_changeCounts_0 : decode cX7_changeCounts 0 = .ok (.aload_n 1, 1) := by decide +kernel
theorem dX7_changeCounts_14 : decode cX7_changeCounts 14 = .ok (.aload_n 0, 1) := by decide +kernel
theorem dX7_changeCounts_28 : decode cX7_changeCounts 28 = .ok (.return_, 1) := by decide +kernel
theorem dX7_changeCounts_18 : decode cX7_changeCounts 18 = .ok (.aload_n 0, 1) := by decide +kernel
theorem dX7_changeCounts_19 : decode cX7_changeCounts 19 = .ok (.dup, 1) := by decide +kernel
theorem dX7_changeCounts_23 : decode cX7_changeCounts 23 = .ok (.iconst 1, 1) := by decide +kernel
theorem dX7_changeCounts_24 : decode cX7_changeCounts 24 = .ok (.isub, 1) := by decide +kernel
theorem dX7_changeCounts_25 : decode cX7_changeCounts 25 = .ok (.putfield 98, 3) := by decide +kernel
theorem dX7_changeCounts_20 : decode cX7_changeCounts 20 = .ok (.getfield 98, 3) := by decide +kernel
theorem dX7_changeCounts_15 : decode cX7_changeCounts 15 = .ok (.ifnull 13, 3) := by decide +kernel
theorem dX7_changeCounts_4 : decode cX7_changeCounts 4 = .ok (.aload_n 1, 1) := by decide +kernel
theorem dX7_changeCounts_5 : decode cX7_changeCounts 5 = .ok (.dup, 1) := by decide +kernel
theorem dX7_changeCounts_9 : decode cX7_changeCounts 9 = .ok (.iconst 1, 1) := by decide +kernel
theorem dX7_changeCounts_10 : decode cX7_changeCounts 10 = .ok (.iadd, 1) := by decide +kernel
theorem dX7_changeCounts_11 : decode cX7_changeCounts 11 = .ok (.putfield 98, 3) := by decide +kernel
theorem dX7_changeCounts_6 : decode cX7_changeCounts 6 = .ok (.getfield 98, 3) := by decide +kernel
theorem dX7_changeCounts_1 : decode cX7_changeCounts 1 = .ok (.ifnull 13, 3) := by decide +kernel
theorem dX7_changeReference_0 : decode cX7_changeReference 0 = .ok (.aload_n 0, 1) := by decide +kernel
theorem dX7_changeReference_1 : decode cX7_changeReference 1 = .ok (.aload_n 1, 1) := by decide +kernel
theorem dX7_changeReference_2 : decode cX7_changeReference 2 = .ok (.iload_n 2, 1) := by decide +kernel
theorem dX7_changeReference_3 : decode cX7_changeReference 3 = .ok (.invokevirtual 78, 3) := by decide +kernel
theorem dX7_changeReference_6 : decode cX7_changeReference 6 = .ok (.astore 4, 2) := by decide +kernel
theorem dX7_changeReference_8 : decode cX7_changeReference 8 = .ok (.aload_n 0, 1) := by decide +kernel
theorem dX7_changeReference_9 : decode cX7_changeReference 9 = .ok (.aload_n 1, 1) := by decide +kernel
theorem dX7_changeReference_10 : decode cX7_changeReference 10 = .ok (.iload_n 2, 1) := by decide +kernel
theorem dX7_changeReference_11 : decode cX7_changeReference 11 = .ok (.aload_n 3, 1) := by decide +kernel
theorem dX7_changeReference_12 : decode cX7_changeReference 12 = .ok (.invokestatic 82, 3) := by decide +kernel
theorem dX11_numberOf_0 : decode cX11_numberOf 0 = .ok (.aload_n 0, 1) := by decide +kernel
theorem dX11_numberOf_4 : decode cX11_numberOf 4 = .ok (.iconst (-1), 1) := by decide +kernel
theorem dX11_numberOf_5 : decode cX11_numberOf 5 = .ok (.goto 7, 3) := by decide +kernel
theorem dX7_changeReference_15 : decode cX7_changeReference 15 = .ok (.invokevirtual 86, 3) := by decide +kernel
theorem dX7_changeReference_18 : decode cX7_changeReference 18 = .ok (.pop, 1) := by decide +kernel
theorem dX7_changeReference_19 : decode cX7_changeReference 19 = .ok (.aload 4, 2) := by decide +kernel
theorem dX7_changeReference_21 : decode cX7_changeReference 21 = .ok (.aload_n 3, 1) := by decide +kernel
theorem dX7_changeReference_22 : decode cX7_changeReference 22 = .ok (.invokestatic 90, 3) := by decide +kernel
theorem dX7_changeReference_25 : decode cX7_changeReference 25 = .ok (.aload 4, 2) := by decide +kernel
theorem dX7_changeReference_27 : decode cX7_changeReference 27 = .ok (.areturn, 1) := by decide +kernel
theorem dX11_numberOf_12 : decode cX11_numberOf 12 = .ok (.ireturn, 1) := by decide +kernel
theorem dX11_numberOf_8 : decode cX11_numberOf 8 = .ok (.aload_n 0, 1) := by decide +kernel
theorem dX11_numberOf_9 : decode cX11_numberOf 9 = .ok (.getfield 182, 3) := by decide +kernel
theorem dX11_numberOf_1 : decode cX11_numberOf 1 = .ok (.ifnonnull 7, 3) := by decide +kernel
theorem dX7_changeRoot_0 : decode cX7_changeRoot 0 = .ok (.iload_n 1, 1) := by decide +kernel
theorem dX7_changeRoot_10 : decode cX7_changeRoot 10 = .ok (.aconst_null, 1) := by decide +kernel
theorem dX7_changeRoot_11 : decode cX7_changeRoot 11 = .ok (.areturn, 1) := by decide +kernel
theorem dX7_changeRoot_4 : decode cX7_changeRoot 4 = .ok (.iload_n 1, 1) := by decide +kernel
theorem dX7_changeRoot_5 : decode cX7_changeRoot 5 = .ok (.bipush 16, 2) := by decide +kernel
theorem dX7_changeRoot_12 : decode cX7_changeRoot 12 = .ok (.aload_n 0, 1) := by decide +kernel
theorem dX7_changeRoot_13 : decode cX7_changeRoot 13 = .ok (.aload_n 0, 1) := by decide +kernel
theorem dX7_changeRoot_17 : decode cX7_changeRoot 17 = .ok (.iload_n 1, 1) := by decide +kernel
theorem dX7_changeRoot_19 : decode cX7_changeRoot 19 = .ok (.invokevirtual 94, 3) := by decide +kernel
theorem dX7_thingAt_0 : decode cX7_thingAt 0 = .ok (.iload_n 1, 1) := by decide +kernel
theorem dX7_thingAt_20 : decode cX7_thingAt 20 = .ok (.aconst_null, 1) := by decide +kernel
theorem dX7_changeRoot_22 : decode cX7_changeRoot 22 = .ok (.astore_n 3, 1) := by decide +kernel
theorem dX7_changeRoot_23 : decode cX7_changeRoot 23 = .ok (.aload_n 0, 1) := by decide +kernel
theorem dX7_changeRoot_27 : decode cX7_changeRoot 27 = .ok (.iload_n 1, 1) := by decide +kernel
theorem dX7_changeRoot_28 : decode cX7_changeRoot 28 = .ok (.aload_n 2, 1) := by decide +kernel
theorem dX7_changeRoot_29 : decode cX7_changeRoot 29 = .ok (.invokestatic 82, 3) := by decide +kernel
theorem dX7_changeRoot_33 : decode cX7_changeRoot 33 = .ok (.aload_n 3, 1) := by decide +kernel
theorem dX7_changeRoot_34 : decode cX7_changeRoot 34 = .ok (.aload_n 2, 1) := by decide +kernel
theorem dX7_changeRoot_35 : decode cX7_changeRoot 35 = .ok (.invokestatic 90, 3) := by decide +kernel
theorem dX7_changeRoot_38 : decode cX7_changeRoot 38 = .ok (.aload_n 3, 1) := by decide +kernel
theorem dX7_changeRoot_39 : decode cX7_changeRoot 39 = .ok (.areturn, 1) := by decide +kernel
theorem dX7_changeRoot_32 : decode cX7_changeRoot 32 = .ok (.iastore, 1) := by decide +kernel
theorem dX7_changeRoot_24 : decode cX7_changeRoot 24 = .ok (.getfield 21, 3) := by decide +kernel
theorem dX7_thingAt_21 : decode cX7_thingAt 21 = .ok (.areturn, 1) := by decide +kernel
theorem dX7_thingAt_4 : decode cX7_thingAt 4 = .ok (.iload_n 1, 1) := by decide +kernel
theorem dX7_thingAt_5 : decode cX7_thingAt 5 = .ok (.sipush 512, 3) := by decide +kernel
theorem dX7_thingAt_11 : decode cX7_thingAt 11 = .ok (.aload_n 0, 1) := by decide +kernel
theorem dX7_thingAt_15 : decode cX7_thingAt 15 = .ok (.iload_n 1, 1) := by decide +kernel
theorem dX7_thingAt_17 : decode cX7_thingAt 17 = .ok (.goto 4, 3) := by decide +kernel
theorem dX7_thingAt_16 : decode cX7_thingAt 16 = .ok (.aaload, 1) := by decide +kernel
theorem dX7_thingAt_12 : decode cX7_thingAt 12 = .ok (.getfield 11, 3) := by decide +kernel
theorem dX7_thingAt_8 : decode cX7_thingAt 8 = .ok (.if_icmp .ge 12, 3) := by decide +kernel
theorem dX7_thingAt_1 : decode cX7_thingAt 1 = .ok (.ifCond .lt 19, 3) := by decide +kernel
theorem dX7_changeRoot_18 : decode cX7_changeRoot 18 = .ok (.iaload, 1) := by decide +kernel
theorem dX7_changeRoot_14 : decode cX7_changeRoot 14 = .ok (.getfield 21, 3) := by decide +kernel
theorem dX7_changeRoot_7 : decode cX7_changeRoot 7 = .ok (.if_icmp .lt 5, 3) := by decide +kernel
theorem dX7_changeRoot_1 : decode cX7_changeRoot 1 = .ok (.ifCond .lt 9, 3) := by decide +kernel
theorem dX7_changeHolds_0 : decode cX7_changeHolds 0 = .ok (.aload_n 1, 1) := by decide +kernel
theorem dX7_changeHolds_1 : decode cX7_changeHolds 1 = .ok (.dup, 1) := by decide +kernel
theorem dX7_changeHolds_5 : decode cX7_changeHolds 5 = .ok (.iload_n 2, 1) := by decide +kernel
theorem dX7_changeHolds_6 : decode cX7_changeHolds 6 = .ok (.iadd, 1) := by decide +kernel
theorem dX7_changeHolds_10 : decode cX7_changeHolds 10 = .ok (.aload_n 1, 1) := by decide +kernel
theorem dX7_changeHolds_11 : decode cX7_changeHolds 11 = .ok (.dup, 1) := by decide +kernel
theorem dX7_changeHolds_15 : decode cX7_changeHolds 15 = .ok (.iload_n 2, 1) := by decide +kernel
theorem dX7_changeHolds_16 : decode cX7_changeHolds 16 = .ok (.iadd, 1) := by decide +kernel
theorem dX7_changeHolds_20 : decode cX7_changeHolds 20 = .ok (.return_, 1) := by decide +kernel
theorem dX7_changeHolds_17 : decode cX7_changeHolds 17 = .ok (.putfield 98, 3) := by decide +kernel
theorem dX7_changeHolds_12 : decode cX7_changeHolds 12 = .ok (.getfield 98, 3) := by decide +kernel
theorem dX7_changeHolds_7 : decode cX7_changeHolds 7 = .ok (.putfield 101, 3) := by decide +kernel
theorem dX7_changeHolds_2 : decode cX7_changeHolds 2 = .ok (.getfield 101, 3) := by decide +kernel
theorem dX7_clearWeak_0 : decode cX7_clearWeak 0 = .ok (.iconst 0, 1) := by decide +kernel
theorem dX7_clearWeak_1 : decode cX7_clearWeak 1 = .ok (.istore_n 2, 1) := by decide +kernel
theorem dX7_clearWeak_2 : decode cX7_clearWeak 2 = .ok (.iload_n 2, 1) := by decide +kernel
theorem dX7_clearWeak_3 : decode cX7_clearWeak 3 = .ok (.bipush 16, 2) := by decide +kernel
theorem dX7_clearWeak_34 : decode cX7_clearWeak 34 = .ok (.return_, 1) := by decide +kernel
theorem dX7_clearWeak_8 : decode cX7_clearWeak 8 = .ok (.aload_n 0, 1) := by decide +kernel
theorem dX7_clearWeak_12 : decode cX7_clearWeak 12 = .ok (.iload_n 2, 1) := by decide +kernel
theorem dX7_clearWeak_14 : decode cX7_clearWeak 14 = .ok (.aload_n 1, 1) := by decide +kernel
theorem dX7_clearWeak_28 : decode cX7_clearWeak 28 = .ok (.iinc 2 1, 3) := by decide +kernel
theorem dX7_clearWeak_31 : decode cX7_clearWeak 31 = .ok (.goto (-29), 3) := by decide +kernel
theorem dX7_clearWeak_21 : decode cX7_clearWeak 21 = .ok (.aload_n 0, 1) := by decide +kernel
theorem dX7_clearWeak_25 : decode cX7_clearWeak 25 = .ok (.iload_n 2, 1) := by decide +kernel
theorem dX7_clearWeak_26 : decode cX7_clearWeak 26 = .ok (.iconst (-1), 1) := by decide +kernel
theorem dX7_clearWeak_27 : decode cX7_clearWeak 27 = .ok (.iastore, 1) := by decide +kernel
theorem dX7_clearWeak_22 : decode cX7_clearWeak 22 = .ok (.getfield 24, 3) := by decide +kernel
theorem dX7_clearWeak_18 : decode cX7_clearWeak 18 = .ok (.if_icmp .ne 10, 3) := by decide +kernel
theorem dX7_clearWeak_15 : decode cX7_clearWeak 15 = .ok (.getfield 67, 3) := by decide +kernel
theorem dX7_clearWeak_13 : decode cX7_clearWeak 13 = .ok (.iaload, 1) := by decide +kernel
theorem dX7_clearWeak_9 : decode cX7_clearWeak 9 = .ok (.getfield 24, 3) := by decide +kernel
theorem dX7_clearWeak_5 : decode cX7_clearWeak 5 = .ok (.if_icmp .ge 29, 3) := by decide +kernel
theorem dX10_comes_0 : decode cX10_comes 0 = .ok (.aload_n 1, 1) := by decide +kernel
theorem dX10_comes_35 : decode cX10_comes 35 = .ok (.return_, 1) := by decide +kernel
theorem dX10_comes_4 : decode cX10_comes 4 = .ok (.aload_n 1, 1) := by decide +kernel
theorem dX10_comes_8 : decode cX10_comes 8 = .ok (.aload_n 0, 1) := by decide +kernel
theorem dX10_comes_15 : decode cX10_comes 15 = .ok (.aload_n 1, 1) := by decide +kernel
theorem dX10_comes_19 : decode cX10_comes 19 = .ok (.sipush 512, 3) := by decide +kernel
theorem dX10_comes_25 : decode cX10_comes 25 = .ok (.aload_n 0, 1) := by decide +kernel
theorem dX10_comes_29 : decode cX10_comes 29 = .ok (.sipush 512, 3) := by decide +kernel
theorem dX10_comes_36 : decode cX10_comes 36 = .ok (.aload_n 0, 1) := by decide +kernel
theorem dX10_comes_40 : decode cX10_comes 40 = .ok (.aload_n 1, 1) := by decide +kernel
theorem dX10_comes_81 : decode cX10_comes 81 = .ok (.return_, 1) := by decide +kernel
theorem dX10_comes_48 : decode cX10_comes 48 = .ok (.aload_n 0, 1) := by decide +kernel
theorem dX10_comes_52 : decode cX10_comes 52 = .ok (.aload_n 1, 1) := by decide +kernel
theorem dX10_comes_56 : decode cX10_comes 56 = .ok (.iconst 1, 1) := by decide +kernel
theorem dX10_comes_58 : decode cX10_comes 58 = .ok (.aload_n 0, 1) := by decide +kernel
theorem dX10_comes_62 : decode cX10_comes 62 = .ok (.aload_n 0, 1) := by decide +kernel
theorem dX10_comes_66 : decode cX10_comes 66 = .ok (.aload_n 1, 1) := by decide +kernel
theorem dX10_comes_71 : decode cX10_comes 71 = .ok (.aload_n 0, 1) := by decide +kernel
theorem dX10_comes_72 : decode cX10_comes 72 = .ok (.dup, 1) := by decide +kernel
theorem dX10_comes_76 : decode cX10_comes 76 = .ok (.iconst 1, 1) := by decide +kernel
theorem dX10_comes_77 : decode cX10_comes 77 = .ok (.iadd, 1) := by decide +kernel
theorem dX10_comes_78 : decode cX10_comes 78 = .ok (.putfield 32, 3) := by decide +kernel
theorem dX10_comes_73 : decode cX10_comes 73 = .ok (.getfield 32, 3) := by decide +kernel
theorem dX10_comes_70 : decode cX10_comes 70 = .ok (.iastore, 1) := by decide +kernel
theorem dX10_comes_67 : decode cX10_comes 67 = .ok (.getfield 58, 3) := by decide +kernel
theorem dX10_comes_63 : decode cX10_comes 63 = .ok (.getfield 32, 3) := by decide +kernel
theorem dX10_comes_59 : decode cX10_comes 59 = .ok (.getfield 9, 3) := by decide +kernel
theorem dX10_comes_57 : decode cX10_comes 57 = .ok (.iastore, 1) := by decide +kernel
theorem dX10_comes_53 : decode cX10_comes 53 = .ok (.getfield 58, 3) := by decide +kernel
theorem dX10_comes_49 : decode cX10_comes 49 = .ok (.getfield 15, 3) := by decide +kernel
theorem dX10_comes_45 : decode cX10_comes 45 = .ok (.ifCond .ne 36, 3) := by decide +kernel
theorem dX10_comes_44 : decode cX10_comes 44 = .ok (.iaload, 1) := by decide +kernel
theorem dX10_comes_41 : decode cX10_comes 41 = .ok (.getfield 58, 3) := by decide +kernel
theorem dX10_comes_37 : decode cX10_comes 37 = .ok (.getfield 15, 3) := by decide +kernel
theorem dX10_comes_32 : decode cX10_comes 32 = .ok (.if_icmp .lt 4, 3) := by decide +kernel
theorem dX10_comes_26 : decode cX10_comes 26 = .ok (.getfield 32, 3) := by decide +kernel
theorem dX10_comes_22 : decode cX10_comes 22 = .ok (.if_icmp .ge 13, 3) := by decide +kernel
theorem dX10_comes_16 : decode cX10_comes 16 = .ok (.getfield 58, 3) := by decide +kernel
theorem dX10_comes_12 : decode cX10_comes 12 = .ok (.if_icmp .lt 23, 3) := by decide +kernel
theorem dX10_comes_9 : decode cX10_comes 9 = .ok (.getfield 35, 3) := by decide +kernel
theorem dX10_comes_5 : decode cX10_comes 5 = .ok (.getfield 49, 3) := by decide +kernel
theorem dX10_comes_1 : decode cX10_comes 1 = .ok (.ifnull 34, 3) := by decide +kernel
theorem dX10_blacken_0 : decode cX10_blacken 0 = .ok (.aload_n 1, 1) := by decide +kernel
theorem dX10_blacken_4 : decode cX10_blacken 4 = .ok (.sipush 512, 3) := by decide +kernel
theorem dX10_blacken_20 : decode cX10_blacken 20 = .ok (.return_, 1) := by decide +kernel
theorem dX10_blacken_10 : decode cX10_blacken 10 = .ok (.aload_n 0, 1) := by decide +kernel
theorem dX10_blacken_14 : decode cX10_blacken 14 = .ok (.aload_n 1, 1) := by decide +kernel
theorem dX10_blacken_18 : decode cX10_blacken 18 = .ok (.iconst 2, 1) := by decide +kernel
theorem dX10_blacken_19 : decode cX10_blacken 19 = .ok (.iastore, 1) := by decide +kernel
theorem dX10_blacken_15 : decode cX10_blacken 15 = .ok (.getfield 58, 3) := by decide +kernel
theorem dX10_blacken_11 : decode cX10_blacken 11 = .ok (.getfield 15, 3) := by decide +kernel
theorem dX10_blacken_7 : decode cX10_blacken 7 = .ok (.if_icmp .ge 13, 3) := by decide +kernel
theorem dX10_blacken_1 : decode cX10_blacken 1 = .ok (.getfield 58, 3) := by decide +kernel
theorem dX10_keeps_0 : decode cX10_keeps 0 = .ok (.aload_n 1, 1) := by decide +kernel
theorem dX10_keeps_4 : decode cX10_keeps 4 = .ok (.aload_n 0, 1) := by decide +kernel
theorem dX10_keeps_19 : decode cX10_keeps 19 = .ok (.iconst 1, 1) := by decide +kernel
theorem dX10_keeps_20 : decode cX10_keeps 20 = .ok (.goto 4, 3) := by decide +kernel
theorem dX10_keeps_24 : decode cX10_keeps 24 = .ok (.ireturn, 1) := by decide +kernel
theorem dX10_keeps_11 : decode cX10_keeps 11 = .ok (.aload_n 0, 1) := by decide +kernel
theorem dX10_keeps_12 : decode cX10_keeps 12 = .ok (.aload_n 1, 1) := by decide +kernel
theorem dX10_keeps_13 : decode cX10_keeps 13 = .ok (.invokevirtual 54, 3) := by decide +kernel
theorem dX10_colourOf_0 : decode cX10_colourOf 0 = .ok (.aload_n 1, 1) := by decide +kernel
theorem dX10_colourOf_4 : decode cX10_colourOf 4 = .ok (.sipush 512, 3) := by decide +kernel
theorem dX10_colourOf_22 : decode cX10_colourOf 22 = .ok (.iconst 0, 1) := by decide +kernel
theorem dX10_keeps_16 : decode cX10_keeps 16 = .ok (.ifCond .eq 7, 3) := by decide +kernel
theorem dX10_keeps_23 : decode cX10_keeps 23 = .ok (.iconst 0, 1) := by decide +kernel
theorem dX10_colourOf_23 : decode cX10_colourOf 23 = .ok (.ireturn, 1) := by decide +kernel
theorem dX10_colourOf_10 : decode cX10_colourOf 10 = .ok (.aload_n 0, 1) := by decide +kernel
theorem dX10_colourOf_14 : decode cX10_colourOf 14 = .ok (.aload_n 1, 1) := by decide +kernel
theorem dX10_colourOf_19 : decode cX10_colourOf 19 = .ok (.goto 4, 3) := by decide +kernel
theorem dX10_colourOf_18 : decode cX10_colourOf 18 = .ok (.iaload, 1) := by decide +kernel
theorem dX10_colourOf_15 : decode cX10_colourOf 15 = .ok (.getfield 58, 3) := by decide +kernel
theorem dX10_colourOf_11 : decode cX10_colourOf 11 = .ok (.getfield 15, 3) := by decide +kernel
theorem dX10_colourOf_7 : decode cX10_colourOf 7 = .ok (.if_icmp .ge 15, 3) := by decide +kernel
theorem dX10_colourOf_1 : decode cX10_colourOf 1 = .ok (.getfield 58, 3) := by decide +kernel
theorem dX10_keeps_8 : decode cX10_keeps 8 = .ok (.if_icmp .lt 11, 3) := by decide +kernel
theorem dX10_keeps_5 : decode cX10_keeps 5 = .ok (.getfield 35, 3) := by decide +kernel
theorem dX10_keeps_1 : decode cX10_keeps 1 = .ok (.getfield 49, 3) := by decide +kernel
theorem dX10_thingInQueue_0 : decode cX10_thingInQueue 0 = .ok (.iload_n 1, 1) := by decide +kernel
theorem dX10_thingInQueue_28 : decode cX10_thingInQueue 28 = .ok (.aconst_null, 1) := by decide +kernel
theorem dX10_thingInQueue_29 : decode cX10_thingInQueue 29 = .ok (.areturn, 1) := by decide +kernel
theorem dX10_thingInQueue_4 : decode cX10_thingInQueue 4 = .ok (.iload_n 1, 1) := by decide +kernel
theorem dX10_thingInQueue_5 : decode cX10_thingInQueue 5 = .ok (.aload_n 0, 1) := by decide +kernel
theorem dX10_thingInQueue_12 : decode cX10_thingInQueue 12 = .ok (.aload_n 0, 1) := by decide +kernel
theorem dX10_thingInQueue_16 : decode cX10_thingInQueue 16 = .ok (.aload_n 0, 1) := by decide +kernel
theorem dX10_thingInQueue_20 : decode cX10_thingInQueue 20 = .ok (.iload_n 1, 1) := by decide +kernel
theorem dX10_thingInQueue_22 : decode cX10_thingInQueue 22 = .ok (.invokevirtual 66, 3) := by decide +kernel
theorem dX10_thingInQueue_25 : decode cX10_thingInQueue 25 = .ok (.goto 4, 3) := by decide +kernel
theorem dX10_thingInQueue_21 : decode cX10_thingInQueue 21 = .ok (.iaload, 1) := by decide +kernel
theorem dX10_thingInQueue_17 : decode cX10_thingInQueue 17 = .ok (.getfield 9, 3) := by decide +kernel
theorem dX10_thingInQueue_13 : decode cX10_thingInQueue 13 = .ok (.getfield 18, 3) := by decide +kernel
theorem dX10_thingInQueue_9 : decode cX10_thingInQueue 9 = .ok (.if_icmp .ge 19, 3) := by decide +kernel
theorem dX10_thingInQueue_6 : decode cX10_thingInQueue 6 = .ok (.getfield 32, 3) := by decide +kernel
theorem dX10_thingInQueue_1 : decode cX10_thingInQueue 1 = .ok (.ifCond .lt 27, 3) := by decide +kernel
theorem dJ7_fill_53178_0 : decode cJ7_fill_53178 0 = .ok (.iconst 0, 1) := by decide +kernel
theorem dJ7_fill_53178_1 : decode cJ7_fill_53178 1 = .ok (.istore_n 2, 1) := by decide +kernel
theorem dJ7_fill_53178_2 : decode cJ7_fill_53178 2 = .ok (.aload_n 0, 1) := by decide +kernel
theorem dJ7_fill_53178_3 : decode cJ7_fill_53178 3 = .ok (.arraylength, 1) := by decide +kernel
theorem dJ7_fill_53178_4 : decode cJ7_fill_53178 4 = .ok (.istore_n 3, 1) := by decide +kernel
theorem dJ7_fill_53178_5 : decode cJ7_fill_53178 5 = .ok (.iload_n 2, 1) := by decide +kernel
theorem dJ7_fill_53178_6 : decode cJ7_fill_53178 6 = .ok (.iload_n 3, 1) := by decide +kernel
theorem dJ7_fill_53178_20 : decode cJ7_fill_53178 20 = .ok (.return_, 1) := by decide +kernel
theorem dJ7_fill_53178_10 : decode cJ7_fill_53178 10 = .ok (.aload_n 0, 1) := by decide +kernel
theorem dJ7_fill_53178_11 : decode cJ7_fill_53178 11 = .ok (.iload_n 2, 1) := by decide +kernel
theorem dJ7_fill_53178_12 : decode cJ7_fill_53178 12 = .ok (.iload_n 1, 1) := by decide +kernel
theorem dJ7_fill_53178_14 : decode cJ7_fill_53178 14 = .ok (.iinc 2 1, 3) := by decide +kernel
theorem dJ7_fill_53178_17 : decode cJ7_fill_53178 17 = .ok (.goto (-12), 3) := by decide +kernel
theorem dJ7_fill_53178_13 : decode cJ7_fill_53178 13 = .ok (.iastore, 1) := by decide +kernel
theorem dJ7_fill_53178_7 : decode cJ7_fill_53178 7 = .ok (.if_icmp .ge 13, 3) := by decide +kernel
theorem dX10_restart_0 : decode cX10_restart 0 = .ok (.aload_n 0, 1) := by decide +kernel
theorem dX10_restart_4 : decode cX10_restart 4 = .ok (.iconst 0, 1) := by decide +kernel
theorem dX10_restart_5 : decode cX10_restart 5 = .ok (.invokestatic 22, 3) := by decide +kernel
theorem dX10_restart_8 : decode cX10_restart 8 = .ok (.aload_n 0, 1) := by decide +kernel
theorem dX10_restart_9 : decode cX10_restart 9 = .ok (.iconst 0, 1) := by decide +kernel
theorem dX10_restart_13 : decode cX10_restart 13 = .ok (.aload_n 0, 1) := by decide +kernel
theorem dX10_restart_14 : decode cX10_restart 14 = .ok (.iconst 0, 1) := by decide +kernel
theorem dX10_restart_18 : decode cX10_restart 18 = .ok (.aload_n 0, 1) := by decide +kernel
theorem dX10_restart_19 : decode cX10_restart 19 = .ok (.iload_n 1, 1) := by decide +kernel
theorem dX10_restart_23 : decode cX10_restart 23 = .ok (.return_, 1) := by decide +kernel
theorem dX10_restart_20 : decode cX10_restart 20 = .ok (.putfield 35, 3) := by decide +kernel
theorem dX10_restart_15 : decode cX10_restart 15 = .ok (.putfield 32, 3) := by decide +kernel
theorem dX10_restart_10 : decode cX10_restart 10 = .ok (.putfield 28, 3) := by decide +kernel
theorem dX10_restart_1 : decode cX10_restart 1 = .ok (.getfield 15, 3) := by decide +kernel
theorem dX10_comeFromRoots_0 : decode cX10_comeFromRoots 0 = .ok (.iconst 0, 1) := by decide +kernel
theorem dX10_comeFromRoots_1 : decode cX10_comeFromRoots 1 = .ok (.istore_n 1, 1) := by decide +kernel
theorem dX10_comeFromRoots_2 : decode cX10_comeFromRoots 2 = .ok (.iload_n 1, 1) := by decide +kernel
theorem dX10_comeFromRoots_3 : decode cX10_comeFromRoots 3 = .ok (.bipush 16, 2) := by decide +kernel
theorem dX10_comeFromRoots_34 : decode cX10_comeFromRoots 34 = .ok (.iconst 0, 1) := by decide +kernel
theorem dX10_comeFromRoots_35 : decode cX10_comeFromRoots 35 = .ok (.istore_n 1, 1) := by decide +kernel
theorem dX10_comeFromRoots_8 : decode cX10_comeFromRoots 8 = .ok (.aload_n 0, 1) := by decide +kernel
theorem dX10_comeFromRoots_9 : decode cX10_comeFromRoots 9 = .ok (.aload_n 0, 1) := by decide +kernel
theorem dX10_comeFromRoots_13 : decode cX10_comeFromRoots 13 = .ok (.aload_n 0, 1) := by decide +kernel
theorem dX10_comeFromRoots_20 : decode cX10_comeFromRoots 20 = .ok (.iload_n 1, 1) := by decide +kernel
theorem dX10_comeFromRoots_22 : decode cX10_comeFromRoots 22 = .ok (.invokevirtual 66, 3) := by decide +kernel
theorem dX10_comeFromRoots_25 : decode cX10_comeFromRoots 25 = .ok (.invokevirtual 70, 3) := by decide +kernel
theorem dX10_comeFromRoots_28 : decode cX10_comeFromRoots 28 = .ok (.iinc 1 1, 3) := by decide +kernel
theorem dX10_comeFromRoots_31 : decode cX10_comeFromRoots 31 = .ok (.goto (-29), 3) := by decide +kernel
theorem dX10_comeFromRoots_21 : decode cX10_comeFromRoots 21 = .ok (.iaload, 1) := by decide +kernel
theorem dX10_comeFromRoots_17 : decode cX10_comeFromRoots 17 = .ok (.getfield 61, 3) := by decide +kernel
theorem dX10_comeFromRoots_14 : decode cX10_comeFromRoots 14 = .ok (.getfield 18, 3) := by decide +kernel
theorem dX10_comeFromRoots_10 : decode cX10_comeFromRoots 10 = .ok (.getfield 18, 3) := by decide +kernel
theorem dX10_comeFromRoots_5 : decode cX10_comeFromRoots 5 = .ok (.if_icmp .ge 29, 3) := by decide +kernel
theorem dX10_comeFromRoots_36 : decode cX10_comeFromRoots 36 = .ok (.iload_n 1, 1) := by decide +kernel
theorem dX10_comeFromRoots_37 : decode cX10_comeFromRoots 37 = .ok (.aload_n 0, 1) := by decide +kernel
theorem dX10_comeFromRoots_73 : decode cX10_comeFromRoots 73 = .ok (.iconst 0, 1) := by decide +kernel
theorem dX10_comeFromRoots_74 : decode cX10_comeFromRoots 74 = .ok (.istore_n 1, 1) := by decide +kernel
theorem dX10_comeFromRoots_47 : decode cX10_comeFromRoots 47 = .ok (.aload_n 0, 1) := by decide +kernel
theorem dX10_comeFromRoots_48 : decode cX10_comeFromRoots 48 = .ok (.aload_n 0, 1) := by decide +kernel
theorem dX10_comeFromRoots_52 : decode cX10_comeFromRoots 52 = .ok (.aload_n 0, 1) := by decide +kernel
theorem dX10_comeFromRoots_59 : decode cX10_comeFromRoots 59 = .ok (.iload_n 1, 1) := by decide +kernel
theorem dX10_comeFromRoots_61 : decode cX10_comeFromRoots 61 = .ok (.invokevirtual 66, 3) := by decide +kernel
theorem dX10_comeFromRoots_64 : decode cX10_comeFromRoots 64 = .ok (.invokevirtual 70, 3) := by decide +kernel
theorem dX10_comeFromRoots_67 : decode cX10_comeFromRoots 67 = .ok (.iinc 1 1, 3) := by decide +kernel
theorem dX10_comeFromRoots_70 : decode cX10_comeFromRoots 70 = .ok (.goto (-34), 3) := by decide +kernel
theorem dX10_comeFromRoots_60 : decode cX10_comeFromRoots 60 = .ok (.iaload, 1) := by decide +kernel
theorem dX10_comeFromRoots_56 : decode cX10_comeFromRoots 56 = .ok (.getfield 77, 3) := by decide +kernel
theorem dX10_comeFromRoots_53 : decode cX10_comeFromRoots 53 = .ok (.getfield 18, 3) := by decide +kernel
theorem dX10_comeFromRoots_49 : decode cX10_comeFromRoots 49 = .ok (.getfield 18, 3) := by decide +kernel
theorem dX10_comeFromRoots_44 : decode cX10_comeFromRoots 44 = .ok (.if_icmp .ge 29, 3) := by decide +kernel
theorem dX10_comeFromRoots_41 : decode cX10_comeFromRoots 41 = .ok (.getfield 74, 3) := by decide +kernel
theorem dX10_comeFromRoots_38 : decode cX10_comeFromRoots 38 = .ok (.getfield 18, 3) := by decide +kernel
theorem dX10_comeFromRoots_75 : decode cX10_comeFromRoots 75 = .ok (.iload_n 1, 1) := by decide +kernel
theorem dX10_comeFromRoots_76 : decode cX10_comeFromRoots 76 = .ok (.aload_n 0, 1) := by decide +kernel
theorem dX10_comeFromRoots_117 : decode cX10_comeFromRoots 117 = .ok (.return_, 1) := by decide +kernel
theorem dX10_comeFromRoots_86 : decode cX10_comeFromRoots 86 = .ok (.aload_n 0, 1) := by decide +kernel
theorem dX10_comeFromRoots_90 : decode cX10_comeFromRoots 90 = .ok (.iload_n 1, 1) := by decide +kernel
theorem dX10_comeFromRoots_91 : decode cX10_comeFromRoots 91 = .ok (.invokevirtual 66, 3) := by decide +kernel
theorem dX10_comeFromRoots_94 : decode cX10_comeFromRoots 94 = .ok (.astore_n 2, 1) := by decide +kernel
theorem dX10_comeFromRoots_95 : decode cX10_comeFromRoots 95 = .ok (.aload_n 2, 1) := by decide +kernel
theorem dX10_comeFromRoots_96 : decode cX10_comeFromRoots 96 = .ok (.ifnull 15, 3) := by decide +kernel
theorem dX10_comeFromRoots_111 : decode cX10_comeFromRoots 111 = .ok (.iinc 1 1, 3) := by decide +kernel
theorem dX10_comeFromRoots_114 : decode cX10_comeFromRoots 114 = .ok (.goto (-39), 3) := by decide +kernel
theorem dX10_comeFromRoots_99 : decode cX10_comeFromRoots 99 = .ok (.aload_n 2, 1) := by decide +kernel
theorem dX10_comeFromRoots_106 : decode cX10_comeFromRoots 106 = .ok (.aload_n 0, 1) := by decide +kernel
theorem dX10_comeFromRoots_107 : decode cX10_comeFromRoots 107 = .ok (.aload_n 2, 1) := by decide +kernel
theorem dX10_comeFromRoots_108 : decode cX10_comeFromRoots 108 = .ok (.invokevirtual 70, 3) := by decide +kernel
theorem dX10_comeFromRoots_103 : decode cX10_comeFromRoots 103 = .ok (.ifCond .le 8, 3) := by decide +kernel
theorem dX10_comeFromRoots_100 : decode cX10_comeFromRoots 100 = .ok (.getfield 83, 3) := by decide +kernel
theorem dX10_comeFromRoots_87 : decode cX10_comeFromRoots 87 = .ok (.getfield 18, 3) := by decide +kernel
theorem dX10_comeFromRoots_83 : decode cX10_comeFromRoots 83 = .ok (.if_icmp .ge 34, 3) := by decide +kernel
theorem dX10_comeFromRoots_80 : decode cX10_comeFromRoots 80 = .ok (.getfield 80, 3) := by decide +kernel
theorem dX10_comeFromRoots_77 : decode cX10_comeFromRoots 77 = .ok (.getfield 18, 3) := by decide +kernel
theorem dX10_spread_0 : decode cX10_spread 0 = .ok (.iconst 0, 1) := by decide +kernel
theorem dX10_spread_1 : decode cX10_spread 1 = .ok (.istore_n 2, 1) := by decide +kernel
theorem dX10_spread_2 : decode cX10_spread 2 = .ok (.iload_n 2, 1) := by decide +kernel
theorem dX10_spread_3 : decode cX10_spread 3 = .ok (.iload_n 1, 1) := by decide +kernel
theorem dX10_spread_94 : decode cX10_spread 94 = .ok (.iload_n 2, 1) := by decide +kernel
theorem dX10_spread_95 : decode cX10_spread 95 = .ok (.ireturn, 1) := by decide +kernel
theorem dX10_spread_7 : decode cX10_spread 7 = .ok (.aload_n 0, 1) := by decide +kernel
theorem dX10_spread_11 : decode cX10_spread 11 = .ok (.aload_n 0, 1) := by decide +kernel
theorem dX10_spread_18 : decode cX10_spread 18 = .ok (.aload_n 0, 1) := by decide +kernel
theorem dX10_spread_22 : decode cX10_spread 22 = .ok (.aload_n 0, 1) := by decide +kernel
theorem dX10_spread_26 : decode cX10_spread 26 = .ok (.aload_n 0, 1) := by decide +kernel
theorem dX10_spread_31 : decode cX10_spread 31 = .ok (.invokevirtual 66, 3) := by decide +kernel
theorem dX10_spread_34 : decode cX10_spread 34 = .ok (.astore_n 3, 1) := by decide +kernel
theorem dX10_spread_35 : decode cX10_spread 35 = .ok (.aload_n 0, 1) := by decide +kernel
theorem dX10_spread_36 : decode cX10_spread 36 = .ok (.dup, 1) := by decide +kernel
theorem dX10_spread_40 : decode cX10_spread 40 = .ok (.iconst 1, 1) := by decide +kernel
theorem dX10_spread_41 : decode cX10_spread 41 = .ok (.iadd, 1) := by decide +kernel
theorem dX10_spread_45 : decode cX10_spread 45 = .ok (.aload_n 3, 1) := by decide +kernel
theorem dX10_spread_46 : decode cX10_spread 46 = .ok (.ifnull 42, 3) := by decide +kernel
theorem dX10_spread_88 : decode cX10_spread 88 = .ok (.iinc 2 1, 3) := by decide +kernel
theorem dX10_spread_91 : decode cX10_spread 91 = .ok (.goto (-89), 3) := by decide +kernel
theorem dX10_spread_42 : decode cX10_spread 42 = .ok (.putfield 28, 3) := by decide +kernel
theorem dX10_spread_37 : decode cX10_spread 37 = .ok (.getfield 28, 3) := by decide +kernel
theorem dX10_spread_49 : decode cX10_spread 49 = .ok (.aload_n 0, 1) := by decide +kernel
theorem dX10_spread_50 : decode cX10_spread 50 = .ok (.aload_n 3, 1) := by decide +kernel
theorem dX10_spread_51 : decode cX10_spread 51 = .ok (.invokevirtual 86, 3) := by decide +kernel
theorem dX10_spread_54 : decode cX10_spread 54 = .ok (.iconst 0, 1) := by decide +kernel
theorem dX10_spread_55 : decode cX10_spread 55 = .ok (.istore 4, 2) := by decide +kernel
theorem dX10_spread_30 : decode cX10_spread 30 = .ok (.iaload, 1) := by decide +kernel
theorem dX10_spread_27 : decode cX10_spread 27 = .ok (.getfield 28, 3) := by decide +kernel
theorem dX10_spread_23 : decode cX10_spread 23 = .ok (.getfield 9, 3) := by decide +kernel
theorem dX10_spread_19 : decode cX10_spread 19 = .ok (.getfield 18, 3) := by decide +kernel
theorem dX10_spread_15 : decode cX10_spread 15 = .ok (.if_icmp .ge 79, 3) := by decide +kernel
theorem dX10_spread_12 : decode cX10_spread 12 = .ok (.getfield 32, 3) := by decide +kernel
theorem dX10_spread_8 : decode cX10_spread 8 = .ok (.getfield 28, 3) := by decide +kernel
theorem dX10_spread_4 : decode cX10_spread 4 = .ok (.if_icmp .ge 90, 3) := by decide +kernel
theorem dX10_spread_57 : decode cX10_spread 57 = .ok (.iload 4, 2) := by decide +kernel
theorem dX10_spread_59 : decode cX10_spread 59 = .ok (.aload_n 3, 1) := by decide +kernel
theorem dX10_spread_63 : decode cX10_spread 63 = .ok (.iconst 1, 1) := by decide +kernel
theorem dX10_spread_64 : decode cX10_spread 64 = .ok (.isub, 1) := by decide +kernel
theorem dX10_spread_68 : decode cX10_spread 68 = .ok (.aload_n 0, 1) := by decide +kernel
theorem dX10_spread_69 : decode cX10_spread 69 = .ok (.aload_n 0, 1) := by decide +kernel
theorem dX10_spread_73 : decode cX10_spread 73 = .ok (.aload_n 3, 1) := by decide +kernel
theorem dX10_spread_74 : decode cX10_spread 74 = .ok (.iload 4, 2) := by decide +kernel
theorem dX10_spread_76 : decode cX10_spread 76 = .ok (.invokevirtual 92, 3) := by decide +kernel
theorem dX10_spread_79 : decode cX10_spread 79 = .ok (.invokevirtual 70, 3) := by decide +kernel
theorem dX10_spread_82 : decode cX10_spread 82 = .ok (.iinc 4 1, 3) := by decide +kernel
theorem dX10_spread_85 : decode cX10_spread 85 = .ok (.goto (-28), 3) := by decide +kernel
theorem dX10_spread_70 : decode cX10_spread 70 = .ok (.getfield 18, 3) := by decide +kernel
theorem dX10_spread_65 : decode cX10_spread 65 = .ok (.if_icmp .ge 23, 3) := by decide +kernel
theorem dX10_spread_60 : decode cX10_spread 60 = .ok (.getfield 89, 3) := by decide +kernel
theorem dX10_reachAll_0 : decode cX10_reachAll 0 = .ok (.aload_n 0, 1) := by decide +kernel
theorem dX10_reachAll_1 : decode cX10_reachAll 1 = .ok (.iconst 0, 1) := by decide +kernel
theorem dX10_reachAll_2 : decode cX10_reachAll 2 = .ok (.invokevirtual 38, 3) := by decide +kernel
theorem dX10_reachAll_5 : decode cX10_reachAll 5 = .ok (.aload_n 0, 1) := by decide +kernel
theorem dX10_reachAll_6 : decode cX10_reachAll 6 = .ok (.invokevirtual 42, 3) := by decide +kernel
theorem dX10_reachAll_9 : decode cX10_reachAll 9 = .ok (.aload_n 0, 1) := by decide +kernel
theorem dX10_reachAll_10 : decode cX10_reachAll 10 = .ok (.sipush 512, 3) := by decide +kernel
theorem dX10_reachAll_13 : decode cX10_reachAll 13 = .ok (.invokevirtual 45, 3) := by decide +kernel
theorem dX10_reachAll_16 : decode cX10_reachAll 16 = .ok (.pop, 1) := by decide +kernel
theorem dX10_reachAll_17 : decode cX10_reachAll 17 = .ok (.return_, 1) := by decide +kernel
theorem dX7_grant_0 : decode cX7_grant 0 = .ok (.aload_n 0, 1) := by decide +kernel
theorem dX7_grant_1 : decode cX7_grant 1 = .ok (.aload_n 1, 1) := by decide +kernel
theorem dX7_grant_2 : decode cX7_grant 2 = .ok (.invokevirtual 104, 3) := by decide +kernel
theorem dX7_grant_5 : decode cX7_grant 5 = .ok (.aload_n 1, 1) := by decide +kernel
theorem dX7_grant_6 : decode cX7_grant 6 = .ok (.iconst 0, 1) := by decide +kernel
theorem dX7_grant_10 : decode cX7_grant 10 = .ok (.aload_n 0, 1) := by decide +kernel
theorem dX7_grant_14 : decode cX7_grant 14 = .ok (.sipush 512, 3) := by decide +kernel
theorem dX7_grant_53 : decode cX7_grant 53 = .ok (.return_, 1) := by decide +kernel
theorem dX7_grant_20 : decode cX7_grant 20 = .ok (.aload_n 0, 1) := by decide +kernel
theorem dX7_grant_24 : decode cX7_grant 24 = .ok (.aload_n 0, 1) := by decide +kernel
theorem dX7_grant_28 : decode cX7_grant 28 = .ok (.aload_n 1, 1) := by decide +kernel
theorem dX7_grant_33 : decode cX7_grant 33 = .ok (.aload_n 0, 1) := by decide +kernel
theorem dX7_grant_34 : decode cX7_grant 34 = .ok (.dup, 1) := by decide +kernel
theorem dX7_grant_38 : decode cX7_grant 38 = .ok (.iconst 1, 1) := by decide +kernel
theorem dX7_grant_39 : decode cX7_grant 39 = .ok (.iadd, 1) := by decide +kernel
theorem dX7_grant_43 : decode cX7_grant 43 = .ok (.aload_n 1, 1) := by decide +kernel
theorem dX7_grant_44 : decode cX7_grant 44 = .ok (.dup, 1) := by decide +kernel
theorem dX7_grant_48 : decode cX7_grant 48 = .ok (.iconst 1, 1) := by decide +kernel
theorem dX7_grant_49 : decode cX7_grant 49 = .ok (.iadd, 1) := by decide +kernel
theorem dX7_grant_50 : decode cX7_grant 50 = .ok (.putfield 98, 3) := by decide +kernel
theorem dX7_grant_45 : decode cX7_grant 45 = .ok (.getfield 98, 3) := by decide +kernel
theorem dX7_grant_40 : decode cX7_grant 40 = .ok (.putfield 36, 3) := by decide +kernel
theorem dX7_grant_35 : decode cX7_grant 35 = .ok (.getfield 36, 3) := by decide +kernel
theorem dX7_grant_32 : decode cX7_grant 32 = .ok (.iastore, 1) := by decide +kernel
theorem dX7_grant_29 : decode cX7_grant 29 = .ok (.getfield 67, 3) := by decide +kernel
theorem dX7_grant_25 : decode cX7_grant 25 = .ok (.getfield 36, 3) := by decide +kernel
theorem dX7_grant_21 : decode cX7_grant 21 = .ok (.getfield 27, 3) := by decide +kernel
theorem dX7_grant_17 : decode cX7_grant 17 = .ok (.if_icmp .ge 36, 3) := by decide +kernel
theorem dX7_grant_11 : decode cX7_grant 11 = .ok (.getfield 36, 3) := by decide +kernel
theorem dX7_grant_7 : decode cX7_grant 7 = .ok (.putfield 108, 3) := by decide +kernel
theorem dX7_takeWish_0 : decode cX7_takeWish 0 = .ok (.aload_n 0, 1) := by decide +kernel
theorem dX7_takeWish_9 : decode cX7_takeWish 9 = .ok (.aload_n 0, 1) := by decide +kernel
theorem dX7_takeWish_10 : decode cX7_takeWish 10 = .ok (.aload_n 0, 1) := by decide +kernel
theorem dX7_takeWish_14 : decode cX7_takeWish 14 = .ok (.iconst 0, 1) := by decide +kernel
theorem dX7_takeWish_16 : decode cX7_takeWish 16 = .ok (.invokevirtual 94, 3) := by decide +kernel
theorem dX7_takeWish_19 : decode cX7_takeWish 19 = .ok (.astore_n 1, 1) := by decide +kernel
theorem dX7_takeWish_20 : decode cX7_takeWish 20 = .ok (.aload_n 0, 1) := by decide +kernel
theorem dX7_takeWish_21 : decode cX7_takeWish 21 = .ok (.dup, 1) := by decide +kernel
theorem dX7_takeWish_25 : decode cX7_takeWish 25 = .ok (.iconst 1, 1) := by decide +kernel
theorem dX7_takeWish_26 : decode cX7_takeWish 26 = .ok (.isub, 1) := by decide +kernel
theorem dX7_takeWish_30 : decode cX7_takeWish 30 = .ok (.iconst 0, 1) := by decide +kernel
theorem dX7_takeWish_31 : decode cX7_takeWish 31 = .ok (.istore_n 2, 1) := by decide +kernel
theorem dX7_takeWish_27 : decode cX7_takeWish 27 = .ok (.putfield 36, 3) := by decide +kernel
theorem dX7_takeWish_22 : decode cX7_takeWish 22 = .ok (.getfield 36, 3) := by decide +kernel
theorem dX7_takeWish_15 : decode cX7_takeWish 15 = .ok (.iaload, 1) := by decide +kernel
theorem dX7_takeWish_11 : decode cX7_takeWish 11 = .ok (.getfield 27, 3) := by decide +kernel
theorem dX7_takeWish_7 : decode cX7_takeWish 7 = .ok (.aconst_null, 1) := by decide +kernel
theorem dX7_takeWish_8 : decode cX7_takeWish 8 = .ok (.areturn, 1) := by decide +kernel
theorem dX7_takeWish_4 : decode cX7_takeWish 4 = .ok (.ifCond .gt 5, 3) := by decide +kernel
theorem dX7_takeWish_1 : decode cX7_takeWish 1 = .ok (.getfield 36, 3) := by decide +kernel
theorem dX7_takeWish_32 : decode cX7_takeWish 32 = .ok (.iload_n 2, 1) := by decide +kernel
theorem dX7_takeWish_33 : decode cX7_takeWish 33 = .ok (.aload_n 0, 1) := by decide +kernel
theorem dX7_takeWish_60 : decode cX7_takeWish 60 = .ok (.aload_n 1, 1) := by decide +kernel
theorem dX7_takeWish_74 : decode cX7_takeWish 74 = .ok (.aload_n 1, 1) := by decide +kernel
theorem dX7_takeWish_75 : decode cX7_takeWish 75 = .ok (.areturn, 1) := by decide +kernel
theorem dX7_takeWish_64 : decode cX7_takeWish 64 = .ok (.aload_n 1, 1) := by decide +kernel
theorem dX7_takeWish_65 : decode cX7_takeWish 65 = .ok (.dup, 1) := by decide +kernel
theorem dX7_takeWish_69 : decode cX7_takeWish 69 = .ok (.iconst 1, 1) := by decide +kernel
theorem dX7_takeWish_70 : decode cX7_takeWish 70 = .ok (.isub, 1) := by decide +kernel
theorem dX7_takeWish_71 : decode cX7_takeWish 71 = .ok (.putfield 98, 3) := by decide +kernel
theorem dX7_takeWish_66 : decode cX7_takeWish 66 = .ok (.getfield 98, 3) := by decide +kernel
theorem dX7_takeWish_61 : decode cX7_takeWish 61 = .ok (.ifnull 13, 3) := by decide +kernel
theorem dX7_takeWish_40 : decode cX7_takeWish 40 = .ok (.aload_n 0, 1) := by decide +kernel
theorem dX7_takeWish_44 : decode cX7_takeWish 44 = .ok (.iload_n 2, 1) := by decide +kernel
theorem dX7_takeWish_45 : decode cX7_takeWish 45 = .ok (.aload_n 0, 1) := by decide +kernel
theorem dX7_takeWish_49 : decode cX7_takeWish 49 = .ok (.iload_n 2, 1) := by decide +kernel
theorem dX7_takeWish_50 : decode cX7_takeWish 50 = .ok (.iconst 1, 1) := by decide +kernel
theorem dX7_takeWish_51 : decode cX7_takeWish 51 = .ok (.iadd, 1) := by decide +kernel
theorem dX7_takeWish_54 : decode cX7_takeWish 54 = .ok (.iinc 2 1, 3) := by decide +kernel
theorem dX7_takeWish_57 : decode cX7_takeWish 57 = .ok (.goto (-25), 3) := by decide +kernel
theorem dX7_takeWish_53 : decode cX7_takeWish 53 = .ok (.iastore, 1) := by decide +kernel
theorem dX7_takeWish_52 : decode cX7_takeWish 52 = .ok (.iaload, 1) := by decide +kernel
theorem dX7_takeWish_46 : decode cX7_takeWish 46 = .ok (.getfield 27, 3) := by decide +kernel
theorem dX7_takeWish_41 : decode cX7_takeWish 41 = .ok (.getfield 27, 3) := by decide +kernel
theorem dX7_takeWish_37 : decode cX7_takeWish 37 = .ok (.if_icmp .ge 23, 3) := by decide +kernel
theorem dX7_takeWish_34 : decode cX7_takeWish 34 = .ok (.getfield 36, 3) := by decide +kernel
theorem dX7_freeWords_0 : decode cX7_freeWords 0 = .ok (.iload_n 1, 1) := by decide +kernel
theorem dX7_freeWords_1 : decode cX7_freeWords 1 = .ok (.istore_n 3, 1) := by decide +kernel
theorem dX7_freeWords_2 : decode cX7_freeWords 2 = .ok (.iload_n 3, 1) := by decide +kernel
theorem dX7_freeWords_31 : decode cX7_freeWords 31 = .ok (.return_, 1) := by decide +kernel
theorem dX7_freeWords_6 : decode cX7_freeWords 6 = .ok (.iload_n 3, 1) := by decide +kernel
theorem dX7_freeWords_7 : decode cX7_freeWords 7 = .ok (.iload_n 2, 1) := by decide +kernel
theorem dX7_freeWords_11 : decode cX7_freeWords 11 = .ok (.iload_n 3, 1) := by decide +kernel
theorem dX7_freeWords_12 : decode cX7_freeWords 12 = .ok (.sipush 4500, 3) := by decide +kernel
theorem dX7_freeWords_18 : decode cX7_freeWords 18 = .ok (.aload_n 0, 1) := by decide +kernel
theorem dX7_freeWords_22 : decode cX7_freeWords 22 = .ok (.iload_n 3, 1) := by decide +kernel
theorem dX7_freeWords_23 : decode cX7_freeWords 23 = .ok (.iconst (-1), 1) := by decide +kernel
theorem dX7_freeWords_25 : decode cX7_freeWords 25 = .ok (.iinc 3 1, 3) := by decide +kernel
theorem dX7_freeWords_28 : decode cX7_freeWords 28 = .ok (.goto (-26), 3) := by decide +kernel
theorem dX7_freeWords_24 : decode cX7_freeWords 24 = .ok (.iastore, 1) := by decide +kernel
theorem dX7_freeWords_19 : decode cX7_freeWords 19 = .ok (.getfield 17, 3) := by decide +kernel
theorem dX7_freeWords_15 : decode cX7_freeWords 15 = .ok (.if_icmp .ge 16, 3) := by decide +kernel
theorem dX7_freeWords_8 : decode cX7_freeWords 8 = .ok (.if_icmp .ge 23, 3) := by decide +kernel
theorem dX7_freeWords_3 : decode cX7_freeWords 3 = .ok (.ifCond .lt 28, 3) := by decide +kernel
theorem dX7_remove_0 : decode cX7_remove 0 = .ok (.aload_n 0, 1) := by decide +kernel
theorem dX7_remove_1 : decode cX7_remove 1 = .ok (.aload_n 1, 1) := by decide +kernel
theorem dX7_remove_2 : decode cX7_remove 2 = .ok (.invokevirtual 104, 3) := by decide +kernel
theorem dX7_remove_5 : decode cX7_remove 5 = .ok (.iconst 0, 1) := by decide +kernel
theorem dX7_remove_6 : decode cX7_remove 6 = .ok (.istore_n 2, 1) := by decide +kernel
theorem dX7_remove_7 : decode cX7_remove 7 = .ok (.iload_n 2, 1) := by decide +kernel
theorem dX7_remove_8 : decode cX7_remove 8 = .ok (.aload_n 1, 1) := by decide +kernel
theorem dX7_remove_12 : decode cX7_remove 12 = .ok (.iconst 1, 1) := by decide +kernel
theorem dX7_remove_13 : decode cX7_remove 13 = .ok (.isub, 1) := by decide +kernel
theorem dX7_remove_44 : decode cX7_remove 44 = .ok (.aload_n 0, 1) := by decide +kernel
theorem dX7_remove_45 : decode cX7_remove 45 = .ok (.aload_n 1, 1) := by decide +kernel
theorem dX7_remove_49 : decode cX7_remove 49 = .ok (.aload_n 1, 1) := by decide +kernel
theorem dX7_remove_53 : decode cX7_remove 53 = .ok (.aload_n 1, 1) := by decide +kernel
theorem dX7_remove_57 : decode cX7_remove 57 = .ok (.iadd, 1) := by decide +kernel
theorem dX7_remove_58 : decode cX7_remove 58 = .ok (.invokevirtual 112, 3) := by decide +kernel
theorem dX7_remove_61 : decode cX7_remove 61 = .ok (.aload_n 1, 1) := by decide +kernel
theorem dX7_remove_65 : decode cX7_remove 65 = .ok (.sipush 512, 3) := by decide +kernel
theorem dX7_remove_81 : decode cX7_remove 81 = .ok (.aload_n 0, 1) := by decide +kernel
theorem dX7_remove_82 : decode cX7_remove 82 = .ok (.dup, 1) := by decide +kernel
theorem dX7_remove_86 : decode cX7_remove 86 = .ok (.iconst 1, 1) := by decide +kernel
theorem dX7_remove_87 : decode cX7_remove 87 = .ok (.isub, 1) := by decide +kernel
theorem dX7_remove_91 : decode cX7_remove 91 = .ok (.aload_n 0, 1) := by decide +kernel
theorem dX7_remove_92 : decode cX7_remove 92 = .ok (.dup, 1) := by decide +kernel
theorem dX7_remove_96 : decode cX7_remove 96 = .ok (.aload_n 1, 1) := by decide +kernel
theorem dX7_remove_100 : decode cX7_remove 100 = .ok (.isub, 1) := by decide +kernel
theorem dX7_remove_104 : decode cX7_remove 104 = .ok (.aload_n 0, 1) := by decide +kernel
theorem dX7_remove_105 : decode cX7_remove 105 = .ok (.dup, 1) := by decide +kernel
theorem dX7_remove_109 : decode cX7_remove 109 = .ok (.aload_n 1, 1) := by decide +kernel
theorem dX7_remove_113 : decode cX7_remove 113 = .ok (.iadd, 1) := by decide +kernel
theorem dX7_remove_117 : decode cX7_remove 117 = .ok (.return_, 1) := by decide +kernel
theorem dX7_remove_114 : decode cX7_remove 114 = .ok (.putfield 55, 3) := by decide +kernel
theorem dX7_remove_110 : decode cX7_remove 110 = .ok (.getfield 64, 3) := by decide +kernel
theorem dX7_remove_106 : decode cX7_remove 106 = .ok (.getfield 55, 3) := by decide +kernel
theorem dX7_remove_101 : decode cX7_remove 101 = .ok (.putfield 46, 3) := by decide +kernel
theorem dX7_remove_97 : decode cX7_remove 97 = .ok (.getfield 64, 3) := by decide +kernel
theorem dX7_remove_93 : decode cX7_remove 93 = .ok (.getfield 46, 3) := by decide +kernel
theorem dX7_remove_88 : decode cX7_remove 88 = .ok (.putfield 43, 3) := by decide +kernel
theorem dX7_remove_83 : decode cX7_remove 83 = .ok (.getfield 43, 3) := by decide +kernel
theorem dX7_remove_71 : decode cX7_remove 71 = .ok (.aload_n 0, 1) := by decide +kernel
theorem dX7_remove_75 : decode cX7_remove 75 = .ok (.aload_n 1, 1) := by decide +kernel
theorem dX7_remove_79 : decode cX7_remove 79 = .ok (.aconst_null, 1) := by decide +kernel
theorem dX7_remove_80 : decode cX7_remove 80 = .ok (.aastore, 1) := by decide +kernel
theorem dX7_remove_76 : decode cX7_remove 76 = .ok (.getfield 67, 3) := by decide +kernel
theorem dX7_remove_72 : decode cX7_remove 72 = .ok (.getfield 11, 3) := by decide +kernel
theorem dX7_remove_68 : decode cX7_remove 68 = .ok (.if_icmp .ge 13, 3) := by decide +kernel
theorem dX7_remove_62 : decode cX7_remove 62 = .ok (.getfield 67, 3) := by decide +kernel
theorem dX7_remove_54 : decode cX7_remove 54 = .ok (.getfield 64, 3) := by decide +kernel
theorem dX7_remove_50 : decode cX7_remove 50 = .ok (.getfield 61, 3) := by decide +kernel
theorem dX7_remove_46 : decode cX7_remove 46 = .ok (.getfield 61, 3) := by decide +kernel
theorem dX7_remove_17 : decode cX7_remove 17 = .ok (.aload_n 0, 1) := by decide +kernel
theorem dX7_remove_18 : decode cX7_remove 18 = .ok (.aload_n 1, 1) := by decide +kernel
theorem dX7_remove_19 : decode cX7_remove 19 = .ok (.iload_n 2, 1) := by decide +kernel
theorem dX7_remove_20 : decode cX7_remove 20 = .ok (.invokevirtual 78, 3) := by decide +kernel
theorem dX7_remove_23 : decode cX7_remove 23 = .ok (.astore_n 3, 1) := by decide +kernel
theorem dX7_remove_24 : decode cX7_remove 24 = .ok (.aload_n 3, 1) := by decide +kernel
theorem dX7_remove_38 : decode cX7_remove 38 = .ok (.iinc 2 1, 3) := by decide +kernel
theorem dX7_remove_41 : decode cX7_remove 41 = .ok (.goto (-34), 3) := by decide +kernel
theorem dX7_remove_28 : decode cX7_remove 28 = .ok (.aload_n 3, 1) := by decide +kernel
theorem dX7_remove_29 : decode cX7_remove 29 = .ok (.dup, 1) := by decide +kernel
theorem dX7_remove_33 : decode cX7_remove 33 = .ok (.iconst 1, 1) := by decide +kernel
theorem dX7_remove_34 : decode cX7_remove 34 = .ok (.isub, 1) := by decide +kernel
theorem dX7_remove_35 : decode cX7_remove 35 = .ok (.putfield 98, 3) := by decide +kernel
theorem dX7_remove_30 : decode cX7_remove 30 = .ok (.getfield 98, 3) := by decide +kernel
theorem dX7_remove_25 : decode cX7_remove 25 = .ok (.ifnull 13, 3) := by decide +kernel
theorem dX7_remove_14 : decode cX7_remove 14 = .ok (.if_icmp .ge 30, 3) := by decide +kernel
theorem dX7_remove_9 : decode cX7_remove 9 = .ok (.getfield 64, 3) := by decide +kernel
theorem dX7_move_0 : decode cX7_move 0 = .ok (.aload_n 1, 1) := by decide +kernel
theorem dX7_move_4 : decode cX7_move 4 = .ok (.istore_n 3, 1) := by decide +kernel
theorem dX7_move_5 : decode cX7_move 5 = .ok (.iload_n 2, 1) := by decide +kernel
theorem dX7_move_6 : decode cX7_move 6 = .ok (.iload_n 3, 1) := by decide +kernel
theorem dX7_move_30 : decode cX7_move 30 = .ok (.return_, 1) := by decide +kernel
theorem dX7_move_10 : decode cX7_move 10 = .ok (.iload_n 2, 1) := by decide +kernel
theorem dX7_move_14 : decode cX7_move 14 = .ok (.iload_n 3, 1) := by decide +kernel
theorem dX7_move_15 : decode cX7_move 15 = .ok (.iload_n 2, 1) := by decide +kernel
theorem dX7_move_16 : decode cX7_move 16 = .ok (.invokestatic 116, 3) := by decide +kernel
theorem dX7_move_19 : decode cX7_move 19 = .ok (.aload_n 1, 1) := by decide +kernel
theorem dX7_move_23 : decode cX7_move 23 = .ok (.iadd, 1) := by decide +kernel
theorem dX7_move_24 : decode cX7_move 24 = .ok (.sipush 4500, 3) := by decide +kernel
theorem dX7_move_31 : decode cX7_move 31 = .ok (.aload_n 0, 1) := by decide +kernel
theorem dX7_move_35 : decode cX7_move 35 = .ok (.iload_n 3, 1) := by decide +kernel
theorem dX7_move_36 : decode cX7_move 36 = .ok (.aload_n 0, 1) := by decide +kernel
theorem dX7_move_40 : decode cX7_move 40 = .ok (.iload_n 2, 1) := by decide +kernel
theorem dX7_move_41 : decode cX7_move 41 = .ok (.aload_n 1, 1) := by decide +kernel
theorem dX7_move_48 : decode cX7_move 48 = .ok (.iload_n 3, 1) := by decide +kernel
theorem dX7_move_49 : decode cX7_move 49 = .ok (.aload_n 1, 1) := by decide +kernel
theorem dX7_move_53 : decode cX7_move 53 = .ok (.iadd, 1) := by decide +kernel
theorem dX7_move_54 : decode cX7_move 54 = .ok (.istore 4, 2) := by decide +kernel
theorem dX7_move_56 : decode cX7_move 56 = .ok (.aload_n 0, 1) := by decide +kernel
theorem dX7_move_57 : decode cX7_move 57 = .ok (.iload_n 2, 1) := by decide +kernel
theorem dX7_move_58 : decode cX7_move 58 = .ok (.iload_n 3, 1) := by decide +kernel
theorem dX7_move_75 : decode cX7_move 75 = .ok (.iload_n 3, 1) := by decide +kernel
theorem dX7_move_76 : decode cX7_move 76 = .ok (.iload 4, 2) := by decide +kernel
theorem dX7_move_78 : decode cX7_move 78 = .ok (.invokevirtual 112, 3) := by decide +kernel
theorem dX7_move_81 : decode cX7_move 81 = .ok (.aload_n 1, 1) := by decide +kernel
theorem dX7_move_82 : decode cX7_move 82 = .ok (.iload_n 2, 1) := by decide +kernel
theorem dX7_move_86 : decode cX7_move 86 = .ok (.aload_n 0, 1) := by decide +kernel
theorem dX7_move_87 : decode cX7_move 87 = .ok (.dup, 1) := by decide +kernel
theorem dX7_move_91 : decode cX7_move 91 = .ok (.aload_n 1, 1) := by decide +kernel
theorem dX7_move_95 : decode cX7_move 95 = .ok (.iadd, 1) := by decide +kernel
theorem dX7_move_99 : decode cX7_move 99 = .ok (.return_, 1) := by decide +kernel
theorem dX7_move_96 : decode cX7_move 96 = .ok (.putfield 52, 3) := by decide +kernel
theorem dX7_move_92 : decode cX7_move 92 = .ok (.getfield 64, 3) := by decide +kernel
theorem dX7_move_88 : decode cX7_move 88 = .ok (.getfield 52, 3) := by decide +kernel
theorem dX7_move_83 : decode cX7_move 83 = .ok (.putfield 61, 3) := by decide +kernel
theorem dX7_move_62 : decode cX7_move 62 = .ok (.iload_n 3, 1) := by decide +kernel
theorem dX7_move_63 : decode cX7_move 63 = .ok (.iload_n 2, 1) := by decide +kernel
theorem dX7_move_64 : decode cX7_move 64 = .ok (.aload_n 1, 1) := by decide +kernel
theorem dX7_move_68 : decode cX7_move 68 = .ok (.iadd, 1) := by decide +kernel
theorem dX7_move_69 : decode cX7_move 69 = .ok (.invokestatic 116, 3) := by decide +kernel
theorem dX7_move_72 : decode cX7_move 72 = .ok (.goto 4, 3) := by decide +kernel
theorem dX7_move_65 : decode cX7_move 65 = .ok (.getfield 64, 3) := by decide +kernel
theorem dX7_move_59 : decode cX7_move 59 = .ok (.if_icmp .ge 16, 3) := by decide +kernel
theorem dX7_move_50 : decode cX7_move 50 = .ok (.getfield 64, 3) := by decide +kernel
theorem dX7_move_45 : decode cX7_move 45 = .ok (.invokestatic 122, 3) := by decide +kernel
theorem dX7_move_42 : decode cX7_move 42 = .ok (.getfield 64, 3) := by decide +kernel
theorem dX7_move_37 : decode cX7_move 37 = .ok (.getfield 17, 3) := by decide +kernel
theorem dX7_move_32 : decode cX7_move 32 = .ok (.getfield 17, 3) := by decide +kernel
theorem dX7_move_27 : decode cX7_move 27 = .ok (.if_icmp .le 4, 3) := by decide +kernel
theorem dX7_move_20 : decode cX7_move 20 = .ok (.getfield 64, 3) := by decide +kernel
theorem dX7_move_11 : decode cX7_move 11 = .ok (.ifCond .lt 19, 3) := by decide +kernel
theorem dX7_move_7 : decode cX7_move 7 = .ok (.if_icmp .eq 23, 3) := by decide +kernel
theorem dX7_move_1 : decode cX7_move 1 = .ok (.getfield 61, 3) := by decide +kernel
theorem dX7_grantWishes_0 : decode cX7_grantWishes 0 = .ok (.iconst 0, 1) := by decide +kernel
theorem dX7_grantWishes_1 : decode cX7_grantWishes 1 = .ok (.istore_n 2, 1) := by decide +kernel
theorem dX7_grantWishes_2 : decode cX7_grantWishes 2 = .ok (.iload_n 2, 1) := by decide +kernel
theorem dX7_grantWishes_3 : decode cX7_grantWishes 3 = .ok (.aload_n 0, 1) := by decide +kernel
theorem dX7_grantWishes_59 : decode cX7_grantWishes 59 = .ok (.return_, 1) := by decide +kernel
theorem dX7_grantWishes_10 : decode cX7_grantWishes 10 = .ok (.aload_n 0, 1) := by decide +kernel
theorem dX7_grantWishes_11 : decode cX7_grantWishes 11 = .ok (.iload_n 2, 1) := by decide +kernel
theorem dX7_grantWishes_12 : decode cX7_grantWishes 12 = .ok (.invokevirtual 94, 3) := by decide +kernel
theorem dX7_grantWishes_15 : decode cX7_grantWishes 15 = .ok (.astore_n 3, 1) := by decide +kernel
theorem dX7_grantWishes_16 : decode cX7_grantWishes 16 = .ok (.aload_n 3, 1) := by decide +kernel
theorem dX7_grantWishes_17 : decode cX7_grantWishes 17 = .ok (.ifnull 36, 3) := by decide +kernel
theorem dX7_grantWishes_53 : decode cX7_grantWishes 53 = .ok (.iinc 2 1, 3) := by decide +kernel
theorem dX7_grantWishes_56 : decode cX7_grantWishes 56 = .ok (.goto (-54), 3) := by decide +kernel
theorem dX7_grantWishes_20 : decode cX7_grantWishes 20 = .ok (.aload_n 3, 1) := by decide +kernel
theorem dX7_grantWishes_27 : decode cX7_grantWishes 27 = .ok (.aload_n 1, 1) := by decide +kernel
theorem dX7_grantWishes_28 : decode cX7_grantWishes 28 = .ok (.aload_n 3, 1) := by decide +kernel
theorem dX7_grantWishes_29 : decode cX7_grantWishes 29 = .ok (.invokevirtual 128, 3) := by decide +kernel
theorem dX7_grantWishes_35 : decode cX7_grantWishes 35 = .ok (.aload_n 0, 1) := by decide +kernel
theorem dX7_grantWishes_36 : decode cX7_grantWishes 36 = .ok (.aload_n 3, 1) := by decide +kernel
theorem dX7_grantWishes_37 : decode cX7_grantWishes 37 = .ok (.invokevirtual 134, 3) := by decide +kernel
theorem dX7_grantWishes_40 : decode cX7_grantWishes 40 = .ok (.aload_n 1, 1) := by decide +kernel
theorem dX7_grantWishes_41 : decode cX7_grantWishes 41 = .ok (.aload_n 3, 1) := by decide +kernel
theorem dX7_grantWishes_42 : decode cX7_grantWishes 42 = .ok (.invokevirtual 137, 3) := by decide +kernel
theorem dX7_grantWishes_45 : decode cX7_grantWishes 45 = .ok (.aload_n 1, 1) := by decide +kernel
theorem dX7_grantWishes_46 : decode cX7_grantWishes 46 = .ok (.sipush 512, 3) := by decide +kernel
theorem dX7_grantWishes_49 : decode cX7_grantWishes 49 = .ok (.invokevirtual 140, 3) := by decide +kernel
theorem dX7_grantWishes_52 : decode cX7_grantWishes 52 = .ok (.pop, 1) := by decide +kernel
theorem dX7_grantWishes_32 : decode cX7_grantWishes 32 = .ok (.ifCond .ne 21, 3) := by decide +kernel
theorem dX7_grantWishes_24 : decode cX7_grantWishes 24 = .ok (.ifCond .eq 29, 3) := by decide +kernel
theorem dX7_grantWishes_21 : decode cX7_grantWishes 21 = .ok (.getfield 108, 3) := by decide +kernel
theorem dX7_grantWishes_7 : decode cX7_grantWishes 7 = .ok (.if_icmp .ge 52, 3) := by decide +kernel
theorem dX7_grantWishes_4 : decode cX7_grantWishes 4 = .ok (.getfield 40, 3) := by decide +kernel
theorem dX7_removeOthers_0 : decode cX7_removeOthers 0 = .ok (.aload_n 0, 1) := by decide +kernel
theorem dX7_removeOthers_4 : decode cX7_removeOthers 4 = .ok (.istore_n 2, 1) := by decide +kernel
theorem dX7_removeOthers_5 : decode cX7_removeOthers 5 = .ok (.iconst 0, 1) := by decide +kernel
theorem dX7_removeOthers_6 : decode cX7_removeOthers 6 = .ok (.istore_n 3, 1) := by decide +kernel
theorem dX7_removeOthers_1 : decode cX7_removeOthers 1 = .ok (.getfield 55, 3) := by decide +kernel
theorem dX7_removeOthers_7 : decode cX7_removeOthers 7 = .ok (.iload_n 3, 1) := by decide +kernel
theorem dX7_removeOthers_8 : decode cX7_removeOthers 8 = .ok (.aload_n 0, 1) := by decide +kernel

