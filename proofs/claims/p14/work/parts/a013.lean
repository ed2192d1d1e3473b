/-! from 92.2instr -/
/-! instructions, decoded -/
theorem dX7_removeOthers_48 : decode cX7_removeOthers 48 = .ok (.aload_n 0, 1) := by decide +kernel
theorem dX7_removeOthers_49 : decode cX7_removeOthers 49 = .ok (.dup, 1) := by decide +kernel
theorem dX7_removeOthers_53 : decode cX7_removeOthers 53 = .ok (.iconst 1, 1) := by decide +kernel
theorem dX7_removeOthers_54 : decode cX7_removeOthers 54 = .ok (.iadd, 1) := by decide +kernel
theorem dX7_removeOthers_58 : decode cX7_removeOthers 58 = .ok (.aload_n 0, 1) := by decide +kernel
theorem dX7_removeOthers_62 : decode cX7_removeOthers 62 = .ok (.iload_n 2, 1) := by decide +kernel
theorem dX7_removeOthers_63 : decode cX7_removeOthers 63 = .ok (.isub, 1) := by decide +kernel
theorem dX7_removeOthers_64 : decode cX7_removeOthers 64 = .ok (.ireturn, 1) := by decide +kernel
theorem dX7_removeOthers_59 : decode cX7_removeOthers 59 = .ok (.getfield 55, 3) := by decide +kernel
theorem dX7_removeOthers_55 : decode cX7_removeOthers 55 = .ok (.putfield 49, 3) := by decide +kernel
theorem dX7_removeOthers_50 : decode cX7_removeOthers 50 = .ok (.getfield 49, 3) := by decide +kernel
theorem dX7_removeOthers_15 : decode cX7_removeOthers 15 = .ok (.aload_n 0, 1) := by decide +kernel
theorem dX7_removeOthers_16 : decode cX7_removeOthers 16 = .ok (.iload_n 3, 1) := by decide +kernel
theorem dX7_removeOthers_17 : decode cX7_removeOthers 17 = .ok (.invokevirtual 94, 3) := by decide +kernel
theorem dX7_removeOthers_20 : decode cX7_removeOthers 20 = .ok (.astore 4, 2) := by decide +kernel
theorem dX7_removeOthers_22 : decode cX7_removeOthers 22 = .ok (.aload 4, 2) := by decide +kernel
theorem dX7_removeOthers_24 : decode cX7_removeOthers 24 = .ok (.ifnull 18, 3) := by decide +kernel
theorem dX7_removeOthers_42 : decode cX7_removeOthers 42 = .ok (.iinc 3 1, 3) := by decide +kernel
theorem dX7_removeOthers_45 : decode cX7_removeOthers 45 = .ok (.goto (-38), 3) := by decide +kernel
theorem dX7_removeOthers_27 : decode cX7_removeOthers 27 = .ok (.aload_n 1, 1) := by decide +kernel
theorem dX7_removeOthers_28 : decode cX7_removeOthers 28 = .ok (.aload 4, 2) := by decide +kernel
theorem dX7_removeOthers_30 : decode cX7_removeOthers 30 = .ok (.invokevirtual 128, 3) := by decide +kernel
theorem dX7_removeOthers_36 : decode cX7_removeOthers 36 = .ok (.aload_n 0, 1) := by decide +kernel
theorem dX7_removeOthers_37 : decode cX7_removeOthers 37 = .ok (.aload 4, 2) := by decide +kernel
theorem dX7_removeOthers_39 : decode cX7_removeOthers 39 = .ok (.invokevirtual 144, 3) := by decide +kernel
theorem dX7_removeOthers_33 : decode cX7_removeOthers 33 = .ok (.ifCond .ne 9, 3) := by decide +kernel
theorem dX7_removeOthers_12 : decode cX7_removeOthers 12 = .ok (.if_icmp .ge 36, 3) := by decide +kernel
theorem dX7_removeOthers_9 : decode cX7_removeOthers 9 = .ok (.getfield 40, 3) := by decide +kernel
theorem dX1_removeUnreached_0 : decode cX1_removeUnreached 0 = .ok (.aload_n 0, 1) := by decide +kernel
theorem dX1_removeUnreached_4 : decode cX1_removeUnreached 4 = .ok (.invokevirtual 19, 3) := by decide +kernel
theorem dX1_removeUnreached_7 : decode cX1_removeUnreached 7 = .ok (.aload_n 0, 1) := by decide +kernel
theorem dX1_removeUnreached_11 : decode cX1_removeUnreached 11 = .ok (.aload_n 0, 1) := by decide +kernel
theorem dX1_removeUnreached_15 : decode cX1_removeUnreached 15 = .ok (.invokevirtual 24, 3) := by decide +kernel
theorem dX1_removeUnreached_18 : decode cX1_removeUnreached 18 = .ok (.aload_n 0, 1) := by decide +kernel
theorem dX1_removeUnreached_22 : decode cX1_removeUnreached 22 = .ok (.aload_n 0, 1) := by decide +kernel
theorem dX1_removeUnreached_26 : decode cX1_removeUnreached 26 = .ok (.invokevirtual 30, 3) := by decide +kernel
theorem dX1_removeUnreached_29 : decode cX1_removeUnreached 29 = .ok (.ireturn, 1) := by decide +kernel
theorem dX1_removeUnreached_23 : decode cX1_removeUnreached 23 = .ok (.getfield 15, 3) := by decide +kernel
theorem dX1_removeUnreached_19 : decode cX1_removeUnreached 19 = .ok (.getfield 9, 3) := by decide +kernel
theorem dX1_removeUnreached_12 : decode cX1_removeUnreached 12 = .ok (.getfield 15, 3) := by decide +kernel
theorem dX1_removeUnreached_8 : decode cX1_removeUnreached 8 = .ok (.getfield 9, 3) := by decide +kernel
theorem dX1_removeUnreached_1 : decode cX1_removeUnreached 1 = .ok (.getfield 15, 3) := by decide +kernel
theorem dX1_slideDown_0 : decode cX1_slideDown 0 = .ok (.iconst 0, 1) := by decide +kernel
theorem dX1_slideDown_1 : decode cX1_slideDown 1 = .ok (.istore_n 2, 1) := by decide +kernel
theorem dX1_slideDown_2 : decode cX1_slideDown 2 = .ok (.iconst 0, 1) := by decide +kernel
theorem dX1_slideDown_3 : decode cX1_slideDown 3 = .ok (.istore_n 3, 1) := by decide +kernel
theorem dX1_slideDown_4 : decode cX1_slideDown 4 = .ok (.iload_n 3, 1) := by decide +kernel
theorem dX1_slideDown_5 : decode cX1_slideDown 5 = .ok (.iload_n 1, 1) := by decide +kernel
theorem dX1_slideDown_71 : decode cX1_slideDown 71 = .ok (.iload_n 2, 1) := by decide +kernel
theorem dX1_slideDown_72 : decode cX1_slideDown 72 = .ok (.ireturn, 1) := by decide +kernel
theorem dX1_slideDown_9 : decode cX1_slideDown 9 = .ok (.aload_n 0, 1) := by decide +kernel
theorem dX1_slideDown_13 : decode cX1_slideDown 13 = .ok (.iload_n 3, 1) := by decide +kernel
theorem dX1_slideDown_14 : decode cX1_slideDown 14 = .ok (.invokevirtual 34, 3) := by decide +kernel
theorem dX7_thingFrom_0 : decode cX7_thingFrom 0 = .ok (.iload_n 1, 1) := by decide +kernel
theorem dX7_thingFrom_20 : decode cX7_thingFrom 20 = .ok (.iconst (-1), 1) := by decide +kernel
theorem dX7_thingFrom_21 : decode cX7_thingFrom 21 = .ok (.istore_n 2, 1) := by decide +kernel
theorem dX7_thingFrom_22 : decode cX7_thingFrom 22 = .ok (.iload_n 2, 1) := by decide +kernel
theorem dX7_thingFrom_23 : decode cX7_thingFrom 23 = .ok (.ifCond .lt 19, 3) := by decide +kernel
theorem dX7_thingFrom_42 : decode cX7_thingFrom 42 = .ok (.aconst_null, 1) := by decide +kernel
theorem dX1_slideDown_17 : decode cX1_slideDown 17 = .ok (.astore 4, 2) := by decide +kernel
theorem dX1_slideDown_19 : decode cX1_slideDown 19 = .ok (.aload 4, 2) := by decide +kernel
theorem dX1_slideDown_21 : decode cX1_slideDown 21 = .ok (.ifnonnull 9, 3) := by decide +kernel
theorem dX1_slideDown_24 : decode cX1_slideDown 24 = .ok (.iinc 3 1, 3) := by decide +kernel
theorem dX1_slideDown_27 : decode cX1_slideDown 27 = .ok (.goto 41, 3) := by decide +kernel
theorem dX1_slideDown_68 : decode cX1_slideDown 68 = .ok (.goto (-64), 3) := by decide +kernel
theorem dX7_thingFrom_43 : decode cX7_thingFrom 43 = .ok (.areturn, 1) := by decide +kernel
theorem dX7_thingFrom_4 : decode cX7_thingFrom 4 = .ok (.iload_n 1, 1) := by decide +kernel
theorem dX7_thingFrom_5 : decode cX7_thingFrom 5 = .ok (.sipush 4500, 3) := by decide +kernel
theorem dX7_thingFrom_11 : decode cX7_thingFrom 11 = .ok (.aload_n 0, 1) := by decide +kernel
theorem dX7_thingFrom_15 : decode cX7_thingFrom 15 = .ok (.iload_n 1, 1) := by decide +kernel
theorem dX7_thingFrom_17 : decode cX7_thingFrom 17 = .ok (.goto 4, 3) := by decide +kernel
theorem dX7_thingFrom_26 : decode cX7_thingFrom 26 = .ok (.iload_n 2, 1) := by decide +kernel
theorem dX7_thingFrom_27 : decode cX7_thingFrom 27 = .ok (.sipush 512, 3) := by decide +kernel
theorem dX7_thingFrom_33 : decode cX7_thingFrom 33 = .ok (.aload_n 0, 1) := by decide +kernel
theorem dX7_thingFrom_37 : decode cX7_thingFrom 37 = .ok (.iload_n 2, 1) := by decide +kernel
theorem dX7_thingFrom_39 : decode cX7_thingFrom 39 = .ok (.goto 4, 3) := by decide +kernel
theorem dX1_slideDown_30 : decode cX1_slideDown 30 = .ok (.iload_n 3, 1) := by decide +kernel
theorem dX1_slideDown_31 : decode cX1_slideDown 31 = .ok (.aload 4, 2) := by decide +kernel
theorem dX1_slideDown_36 : decode cX1_slideDown 36 = .ok (.iadd, 1) := by decide +kernel
theorem dX1_slideDown_37 : decode cX1_slideDown 37 = .ok (.istore_n 3, 1) := by decide +kernel
theorem dX1_slideDown_38 : decode cX1_slideDown 38 = .ok (.aload 4, 2) := by decide +kernel
theorem dX1_slideDown_56 : decode cX1_slideDown 56 = .ok (.aload 4, 2) := by decide +kernel
theorem dX1_slideDown_61 : decode cX1_slideDown 61 = .ok (.aload 4, 2) := by decide +kernel
theorem dX1_slideDown_66 : decode cX1_slideDown 66 = .ok (.iadd, 1) := by decide +kernel
theorem dX1_slideDown_67 : decode cX1_slideDown 67 = .ok (.istore_n 2, 1) := by decide +kernel
theorem dX1_slideDown_63 : decode cX1_slideDown 63 = .ok (.getfield 38, 3) := by decide +kernel
theorem dX1_slideDown_58 : decode cX1_slideDown 58 = .ok (.getfield 51, 3) := by decide +kernel
theorem dX1_slideDown_46 : decode cX1_slideDown 46 = .ok (.aload_n 0, 1) := by decide +kernel
theorem dX1_slideDown_50 : decode cX1_slideDown 50 = .ok (.aload 4, 2) := by decide +kernel
theorem dX1_slideDown_52 : decode cX1_slideDown 52 = .ok (.iload_n 2, 1) := by decide +kernel
theorem dX1_slideDown_53 : decode cX1_slideDown 53 = .ok (.invokevirtual 47, 3) := by decide +kernel
theorem dX1_slideDown_47 : decode cX1_slideDown 47 = .ok (.getfield 9, 3) := by decide +kernel
theorem dX1_slideDown_43 : decode cX1_slideDown 43 = .ok (.ifCond .ne 13, 3) := by decide +kernel
theorem dX1_slideDown_40 : decode cX1_slideDown 40 = .ok (.getfield 44, 3) := by decide +kernel
theorem dX1_slideDown_33 : decode cX1_slideDown 33 = .ok (.getfield 38, 3) := by decide +kernel
theorem dX7_thingFrom_38 : decode cX7_thingFrom 38 = .ok (.aaload, 1) := by decide +kernel
theorem dX7_thingFrom_34 : decode cX7_thingFrom 34 = .ok (.getfield 11, 3) := by decide +kernel
theorem dX7_thingFrom_30 : decode cX7_thingFrom 30 = .ok (.if_icmp .ge 12, 3) := by decide +kernel
theorem dX7_thingFrom_16 : decode cX7_thingFrom 16 = .ok (.iaload, 1) := by decide +kernel
theorem dX7_thingFrom_12 : decode cX7_thingFrom 12 = .ok (.getfield 17, 3) := by decide +kernel
theorem dX7_thingFrom_8 : decode cX7_thingFrom 8 = .ok (.if_icmp .ge 12, 3) := by decide +kernel
theorem dX7_thingFrom_1 : decode cX7_thingFrom 1 = .ok (.ifCond .lt 19, 3) := by decide +kernel
theorem dX1_slideDown_10 : decode cX1_slideDown 10 = .ok (.getfield 9, 3) := by decide +kernel
theorem dX1_slideDown_6 : decode cX1_slideDown 6 = .ok (.if_icmp .ge 65, 3) := by decide +kernel
theorem dX8_freeFrom_0 : decode cX8_freeFrom 0 = .ok (.iload_n 1, 1) := by decide +kernel
theorem dX8_freeFrom_1 : decode cX8_freeFrom 1 = .ok (.istore_n 2, 1) := by decide +kernel
theorem dX8_freeFrom_2 : decode cX8_freeFrom 2 = .ok (.iload_n 2, 1) := by decide +kernel
theorem dX8_freeFrom_3 : decode cX8_freeFrom 3 = .ok (.aload_n 0, 1) := by decide +kernel
theorem dX8_freeFrom_35 : decode cX8_freeFrom 35 = .ok (.aload_n 0, 1) := by decide +kernel
theorem dX8_freeFrom_39 : decode cX8_freeFrom 39 = .ok (.ireturn, 1) := by decide +kernel
theorem dX8_freeFrom_36 : decode cX8_freeFrom 36 = .ok (.getfield 9, 3) := by decide +kernel
theorem dX8_freeFrom_10 : decode cX8_freeFrom 10 = .ok (.aload_n 0, 1) := by decide +kernel
theorem dX8_freeFrom_14 : decode cX8_freeFrom 14 = .ok (.iload_n 2, 1) := by decide +kernel
theorem dX8_freeFrom_15 : decode cX8_freeFrom 15 = .ok (.invokevirtual 50, 3) := by decide +kernel
theorem dX8_freeFrom_18 : decode cX8_freeFrom 18 = .ok (.astore_n 3, 1) := by decide +kernel
theorem dX8_freeFrom_19 : decode cX8_freeFrom 19 = .ok (.aload_n 3, 1) := by decide +kernel
theorem dX8_freeFrom_20 : decode cX8_freeFrom 20 = .ok (.ifnonnull 5, 3) := by decide +kernel
theorem dX8_freeFrom_23 : decode cX8_freeFrom 23 = .ok (.iload_n 2, 1) := by decide +kernel
theorem dX8_freeFrom_24 : decode cX8_freeFrom 24 = .ok (.ireturn, 1) := by decide +kernel
theorem dX8_freeFrom_25 : decode cX8_freeFrom 25 = .ok (.iload_n 2, 1) := by decide +kernel
theorem dX8_freeFrom_26 : decode cX8_freeFrom 26 = .ok (.aload_n 3, 1) := by decide +kernel
theorem dX8_freeFrom_30 : decode cX8_freeFrom 30 = .ok (.iadd, 1) := by decide +kernel
theorem dX8_freeFrom_31 : decode cX8_freeFrom 31 = .ok (.istore_n 2, 1) := by decide +kernel
theorem dX8_freeFrom_32 : decode cX8_freeFrom 32 = .ok (.goto (-30), 3) := by decide +kernel
theorem dX8_freeFrom_27 : decode cX8_freeFrom 27 = .ok (.getfield 34, 3) := by decide +kernel
theorem dX8_freeFrom_11 : decode cX8_freeFrom 11 = .ok (.getfield 46, 3) := by decide +kernel
theorem dX8_freeFrom_7 : decode cX8_freeFrom 7 = .ok (.if_icmp .ge 28, 3) := by decide +kernel
theorem dX8_freeFrom_4 : decode cX8_freeFrom 4 = .ok (.getfield 9, 3) := by decide +kernel
theorem dX8_freeEnd_0 : decode cX8_freeEnd 0 = .ok (.iload_n 1, 1) := by decide +kernel
theorem dX8_freeEnd_1 : decode cX8_freeEnd 1 = .ok (.istore_n 2, 1) := by decide +kernel
theorem dX8_freeEnd_2 : decode cX8_freeEnd 2 = .ok (.iload_n 2, 1) := by decide +kernel
theorem dX8_freeEnd_3 : decode cX8_freeEnd 3 = .ok (.aload_n 0, 1) := by decide +kernel
theorem dX8_freeEnd_27 : decode cX8_freeEnd 27 = .ok (.iload_n 2, 1) := by decide +kernel
theorem dX8_freeEnd_28 : decode cX8_freeEnd 28 = .ok (.ireturn, 1) := by decide +kernel
theorem dX8_freeEnd_10 : decode cX8_freeEnd 10 = .ok (.aload_n 0, 1) := by decide +kernel
theorem dX8_freeEnd_14 : decode cX8_freeEnd 14 = .ok (.iload_n 2, 1) := by decide +kernel
theorem dX8_freeEnd_15 : decode cX8_freeEnd 15 = .ok (.invokevirtual 50, 3) := by decide +kernel
theorem dX8_freeEnd_18 : decode cX8_freeEnd 18 = .ok (.ifnonnull 9, 3) := by decide +kernel
theorem dX8_freeEnd_21 : decode cX8_freeEnd 21 = .ok (.iinc 2 1, 3) := by decide +kernel
theorem dX8_freeEnd_24 : decode cX8_freeEnd 24 = .ok (.goto (-22), 3) := by decide +kernel
theorem dX8_freeEnd_11 : decode cX8_freeEnd 11 = .ok (.getfield 46, 3) := by decide +kernel
theorem dX8_freeEnd_7 : decode cX8_freeEnd 7 = .ok (.if_icmp .ge 20, 3) := by decide +kernel
theorem dX8_freeEnd_4 : decode cX8_freeEnd 4 = .ok (.getfield 9, 3) := by decide +kernel
theorem dX8_fitFirst_0 : decode cX8_fitFirst 0 = .ok (.aload_n 0, 1) := by decide +kernel
theorem dX8_fitFirst_1 : decode cX8_fitFirst 1 = .ok (.iload_n 1, 1) := by decide +kernel
theorem dX8_fitFirst_2 : decode cX8_fitFirst 2 = .ok (.invokevirtual 40, 3) := by decide +kernel
theorem dX8_fitFirst_5 : decode cX8_fitFirst 5 = .ok (.istore 4, 2) := by decide +kernel
theorem dX8_fitFirst_7 : decode cX8_fitFirst 7 = .ok (.iconst 0, 1) := by decide +kernel
theorem dX8_fitFirst_8 : decode cX8_fitFirst 8 = .ok (.istore 5, 2) := by decide +kernel
theorem dX8_fitFirst_10 : decode cX8_fitFirst 10 = .ok (.iload 5, 2) := by decide +kernel
theorem dX8_fitFirst_12 : decode cX8_fitFirst 12 = .ok (.sipush 4500, 3) := by decide +kernel
theorem dX8_fitFirst_71 : decode cX8_fitFirst 71 = .ok (.iconst (-1), 1) := by decide +kernel
theorem dX8_fitFirst_72 : decode cX8_fitFirst 72 = .ok (.ireturn, 1) := by decide +kernel
theorem dX8_fitFirst_18 : decode cX8_fitFirst 18 = .ok (.iload 4, 2) := by decide +kernel
theorem dX8_fitFirst_20 : decode cX8_fitFirst 20 = .ok (.iload_n 2, 1) := by decide +kernel
theorem dX8_fitFirst_24 : decode cX8_fitFirst 24 = .ok (.aload_n 0, 1) := by decide +kernel
theorem dX8_fitFirst_25 : decode cX8_fitFirst 25 = .ok (.iload 4, 2) := by decide +kernel
theorem dX8_fitFirst_27 : decode cX8_fitFirst 27 = .ok (.invokevirtual 43, 3) := by decide +kernel
theorem dX8_fitFirst_30 : decode cX8_fitFirst 30 = .ok (.istore 6, 2) := by decide +kernel
theorem dX8_fitFirst_32 : decode cX8_fitFirst 32 = .ok (.aload_n 0, 1) := by decide +kernel
theorem dX8_fitFirst_36 : decode cX8_fitFirst 36 = .ok (.dup, 1) := by decide +kernel
theorem dX8_fitFirst_40 : decode cX8_fitFirst 40 = .ok (.iconst 1, 1) := by decide +kernel
theorem dX8_fitFirst_41 : decode cX8_fitFirst 41 = .ok (.iadd, 1) := by decide +kernel
theorem dX8_fitFirst_45 : decode cX8_fitFirst 45 = .ok (.iload 6, 2) := by decide +kernel
theorem dX8_fitFirst_47 : decode cX8_fitFirst 47 = .ok (.iload 4, 2) := by decide +kernel
theorem dX8_fitFirst_49 : decode cX8_fitFirst 49 = .ok (.isub, 1) := by decide +kernel
theorem dX8_fitFirst_50 : decode cX8_fitFirst 50 = .ok (.iload_n 3, 1) := by decide +kernel
theorem dX8_fitFirst_57 : decode cX8_fitFirst 57 = .ok (.aload_n 0, 1) := by decide +kernel
theorem dX8_fitFirst_58 : decode cX8_fitFirst 58 = .ok (.iload 6, 2) := by decide +kernel
theorem dX8_fitFirst_60 : decode cX8_fitFirst 60 = .ok (.invokevirtual 40, 3) := by decide +kernel
theorem dX8_fitFirst_63 : decode cX8_fitFirst 63 = .ok (.istore 4, 2) := by decide +kernel
theorem dX8_fitFirst_65 : decode cX8_fitFirst 65 = .ok (.iinc 5 1, 3) := by decide +kernel
theorem dX8_fitFirst_68 : decode cX8_fitFirst 68 = .ok (.goto (-58), 3) := by decide +kernel
theorem dX8_fitFirst_54 : decode cX8_fitFirst 54 = .ok (.iload 4, 2) := by decide +kernel
theorem dX8_fitFirst_56 : decode cX8_fitFirst 56 = .ok (.ireturn, 1) := by decide +kernel
theorem dX8_fitFirst_51 : decode cX8_fitFirst 51 = .ok (.if_icmp .lt 6, 3) := by decide +kernel
theorem dX8_fitFirst_42 : decode cX8_fitFirst 42 = .ok (.putfield 67, 3) := by decide +kernel
theorem dX8_fitFirst_37 : decode cX8_fitFirst 37 = .ok (.getfield 67, 3) := by decide +kernel
theorem dX8_fitFirst_33 : decode cX8_fitFirst 33 = .ok (.getfield 46, 3) := by decide +kernel
theorem dX8_fitFirst_21 : decode cX8_fitFirst 21 = .ok (.if_icmp .ge 50, 3) := by decide +kernel
theorem dX8_fitFirst_15 : decode cX8_fitFirst 15 = .ok (.if_icmp .ge 56, 3) := by decide +kernel
theorem dX8_fitNext_0 : decode cX8_fitNext 0 = .ok (.aload_n 0, 1) := by decide +kernel
theorem dX8_fitNext_1 : decode cX8_fitNext 1 = .ok (.aload_n 0, 1) := by decide +kernel
theorem dX8_fitNext_5 : decode cX8_fitNext 5 = .ok (.aload_n 0, 1) := by decide +kernel
theorem dX8_fitNext_9 : decode cX8_fitNext 9 = .ok (.iload_n 1, 1) := by decide +kernel
theorem dX8_fitNext_10 : decode cX8_fitNext 10 = .ok (.invokevirtual 56, 3) := by decide +kernel
theorem dX8_fitNext_13 : decode cX8_fitNext 13 = .ok (.istore_n 2, 1) := by decide +kernel
theorem dX8_fitNext_14 : decode cX8_fitNext 14 = .ok (.iload_n 2, 1) := by decide +kernel
theorem dX8_fitNext_15 : decode cX8_fitNext 15 = .ok (.iconst (-1), 1) := by decide +kernel
theorem dX8_fitNext_23 : decode cX8_fitNext 23 = .ok (.aload_n 0, 1) := by decide +kernel
theorem dX8_fitNext_24 : decode cX8_fitNext 24 = .ok (.iconst 0, 1) := by decide +kernel
theorem dX8_fitNext_25 : decode cX8_fitNext 25 = .ok (.aload_n 0, 1) := by decide +kernel
theorem dX8_fitNext_29 : decode cX8_fitNext 29 = .ok (.iload_n 1, 1) := by decide +kernel
theorem dX8_fitNext_30 : decode cX8_fitNext 30 = .ok (.invokevirtual 56, 3) := by decide +kernel
theorem dX8_fitNext_33 : decode cX8_fitNext 33 = .ok (.ireturn, 1) := by decide +kernel
theorem dX8_fitNext_26 : decode cX8_fitNext 26 = .ok (.getfield 18, 3) := by decide +kernel
theorem dX8_fitNext_19 : decode cX8_fitNext 19 = .ok (.iload_n 2, 1) := by decide +kernel
theorem dX8_fitNext_20 : decode cX8_fitNext 20 = .ok (.goto 13, 3) := by decide +kernel
theorem dX8_fitNext_16 : decode cX8_fitNext 16 = .ok (.if_icmp .eq 7, 3) := by decide +kernel
theorem dX8_fitNext_6 : decode cX8_fitNext 6 = .ok (.getfield 9, 3) := by decide +kernel
theorem dX8_fitNext_2 : decode cX8_fitNext 2 = .ok (.getfield 18, 3) := by decide +kernel
theorem dX8_fitByLength_0 : decode cX8_fitByLength 0 = .ok (.iconst (-1), 1) := by decide +kernel
theorem dX8_fitByLength_1 : decode cX8_fitByLength 1 = .ok (.istore_n 3, 1) := by decide +kernel
theorem dX8_fitByLength_2 : decode cX8_fitByLength 2 = .ok (.iconst 0, 1) := by decide +kernel
theorem dX8_fitByLength_3 : decode cX8_fitByLength 3 = .ok (.istore 4, 2) := by decide +kernel
theorem dX8_fitByLength_5 : decode cX8_fitByLength 5 = .ok (.aload_n 0, 1) := by decide +kernel
theorem dX8_fitByLength_6 : decode cX8_fitByLength 6 = .ok (.iconst 0, 1) := by decide +kernel
theorem dX8_fitByLength_7 : decode cX8_fitByLength 7 = .ok (.invokevirtual 40, 3) := by decide +kernel
theorem dX8_fitByLength_10 : decode cX8_fitByLength 10 = .ok (.istore 5, 2) := by decide +kernel
theorem dX8_fitByLength_12 : decode cX8_fitByLength 12 = .ok (.iconst 0, 1) := by decide +kernel
theorem dX8_fitByLength_13 : decode cX8_fitByLength 13 = .ok (.istore 6, 2) := by decide +kernel
theorem dX8_fitByLength_15 : decode cX8_fitByLength 15 = .ok (.iload 6, 2) := by decide +kernel
theorem dX8_fitByLength_17 : decode cX8_fitByLength 17 = .ok (.sipush 4500, 3) := by decide +kernel
theorem dX8_fitByLength_113 : decode cX8_fitByLength 113 = .ok (.iload_n 3, 1) := by decide +kernel
theorem dX8_fitByLength_114 : decode cX8_fitByLength 114 = .ok (.ireturn, 1) := by decide +kernel
theorem dX8_fitByLength_23 : decode cX8_fitByLength 23 = .ok (.iload 5, 2) := by decide +kernel
theorem dX8_fitByLength_25 : decode cX8_fitByLength 25 = .ok (.aload_n 0, 1) := by decide +kernel
theorem dX8_fitByLength_32 : decode cX8_fitByLength 32 = .ok (.aload_n 0, 1) := by decide +kernel
theorem dX8_fitByLength_33 : decode cX8_fitByLength 33 = .ok (.iload 5, 2) := by decide +kernel
theorem dX8_fitByLength_35 : decode cX8_fitByLength 35 = .ok (.invokevirtual 43, 3) := by decide +kernel
theorem dX8_fitByLength_38 : decode cX8_fitByLength 38 = .ok (.istore 7, 2) := by decide +kernel
theorem dX8_fitByLength_40 : decode cX8_fitByLength 40 = .ok (.iload 7, 2) := by decide +kernel
theorem dX8_fitByLength_42 : decode cX8_fitByLength 42 = .ok (.iload 5, 2) := by decide +kernel
theorem dX8_fitByLength_44 : decode cX8_fitByLength 44 = .ok (.isub, 1) := by decide +kernel
theorem dX8_fitByLength_45 : decode cX8_fitByLength 45 = .ok (.istore 8, 2) := by decide +kernel
theorem dX8_fitByLength_47 : decode cX8_fitByLength 47 = .ok (.aload_n 0, 1) := by decide +kernel
theorem dX8_fitByLength_51 : decode cX8_fitByLength 51 = .ok (.dup, 1) := by decide +kernel
theorem dX8_fitByLength_55 : decode cX8_fitByLength 55 = .ok (.iconst 1, 1) := by decide +kernel
theorem dX8_fitByLength_56 : decode cX8_fitByLength 56 = .ok (.iadd, 1) := by decide +kernel
theorem dX8_fitByLength_60 : decode cX8_fitByLength 60 = .ok (.iload 8, 2) := by decide +kernel
theorem dX8_fitByLength_62 : decode cX8_fitByLength 62 = .ok (.iload_n 1, 1) := by decide +kernel
theorem dX8_fitByLength_99 : decode cX8_fitByLength 99 = .ok (.aload_n 0, 1) := by decide +kernel
theorem dX8_fitByLength_100 : decode cX8_fitByLength 100 = .ok (.iload 7, 2) := by decide +kernel
theorem dX8_fitByLength_102 : decode cX8_fitByLength 102 = .ok (.invokevirtual 40, 3) := by decide +kernel
theorem dX8_fitByLength_105 : decode cX8_fitByLength 105 = .ok (.istore 5, 2) := by decide +kernel
theorem dX8_fitByLength_107 : decode cX8_fitByLength 107 = .ok (.iinc 6 1, 3) := by decide +kernel
theorem dX8_fitByLength_110 : decode cX8_fitByLength 110 = .ok (.goto (-95), 3) := by decide +kernel
theorem dX8_fitByLength_66 : decode cX8_fitByLength 66 = .ok (.iload_n 3, 1) := by decide +kernel
theorem dX8_fitByLength_67 : decode cX8_fitByLength 67 = .ok (.iconst (-1), 1) := by decide +kernel
theorem dX8_fitByLength_92 : decode cX8_fitByLength 92 = .ok (.iload 5, 2) := by decide +kernel
theorem dX8_fitByLength_94 : decode cX8_fitByLength 94 = .ok (.istore_n 3, 1) := by decide +kernel
theorem dX8_fitByLength_95 : decode cX8_fitByLength 95 = .ok (.iload 8, 2) := by decide +kernel
theorem dX8_fitByLength_97 : decode cX8_fitByLength 97 = .ok (.istore 4, 2) := by decide +kernel
theorem dX8_fitByLength_71 : decode cX8_fitByLength 71 = .ok (.iload_n 2, 1) := by decide +kernel
theorem dX8_fitByLength_85 : decode cX8_fitByLength 85 = .ok (.iload 8, 2) := by decide +kernel
theorem dX8_fitByLength_87 : decode cX8_fitByLength 87 = .ok (.iload 4, 2) := by decide +kernel
theorem dX8_fitByLength_89 : decode cX8_fitByLength 89 = .ok (.if_icmp .le 10, 3) := by decide +kernel
theorem dX8_fitByLength_75 : decode cX8_fitByLength 75 = .ok (.iload 8, 2) := by decide +kernel
theorem dX8_fitByLength_77 : decode cX8_fitByLength 77 = .ok (.iload 4, 2) := by decide +kernel
theorem dX8_fitByLength_82 : decode cX8_fitByLength 82 = .ok (.goto 10, 3) := by decide +kernel
theorem dX8_fitByLength_79 : decode cX8_fitByLength 79 = .ok (.if_icmp .ge 20, 3) := by decide +kernel
theorem dX8_fitByLength_72 : decode cX8_fitByLength 72 = .ok (.ifCond .eq 13, 3) := by decide +kernel
theorem dX8_fitByLength_68 : decode cX8_fitByLength 68 = .ok (.if_icmp .eq 24, 3) := by decide +kernel
theorem dX8_fitByLength_63 : decode cX8_fitByLength 63 = .ok (.if_icmp .lt 36, 3) := by decide +kernel
theorem dX8_fitByLength_57 : decode cX8_fitByLength 57 = .ok (.putfield 67, 3) := by decide +kernel
theorem dX8_fitByLength_52 : decode cX8_fitByLength 52 = .ok (.getfield 67, 3) := by decide +kernel
theorem dX8_fitByLength_48 : decode cX8_fitByLength 48 = .ok (.getfield 46, 3) := by decide +kernel
theorem dX8_fitByLength_29 : decode cX8_fitByLength 29 = .ok (.if_icmp .ge 84, 3) := by decide +kernel
theorem dX8_fitByLength_26 : decode cX8_fitByLength 26 = .ok (.getfield 9, 3) := by decide +kernel
theorem dX8_fitByLength_20 : decode cX8_fitByLength 20 = .ok (.if_icmp .ge 93, 3) := by decide +kernel
theorem dX8_fit_0 : decode cX8_fit 0 = .ok (.aload_n 0, 1) := by decide +kernel
theorem dX8_fit_32 : decode cX8_fit 32 = .ok (.aload_n 0, 1) := by decide +kernel
theorem dX8_fit_33 : decode cX8_fit 33 = .ok (.iconst 0, 1) := by decide +kernel
theorem dX8_fit_34 : decode cX8_fit 34 = .ok (.aload_n 0, 1) := by decide +kernel
theorem dX8_fit_38 : decode cX8_fit 38 = .ok (.iload_n 1, 1) := by decide +kernel
theorem dX8_fit_39 : decode cX8_fit 39 = .ok (.invokevirtual 56, 3) := by decide +kernel
theorem dX8_fit_42 : decode cX8_fit 42 = .ok (.ireturn, 1) := by decide +kernel
theorem dX8_fit_35 : decode cX8_fit 35 = .ok (.getfield 9, 3) := by decide +kernel
theorem dX8_fit_4 : decode cX8_fit 4 = .ok (.tableswitch 52 0 2 #[28, 39, 45], 28) := by decide +kernel
theorem dX8_fit_43 : decode cX8_fit 43 = .ok (.aload_n 0, 1) := by decide +kernel
theorem dX8_fit_44 : decode cX8_fit 44 = .ok (.iload_n 1, 1) := by decide +kernel
theorem dX8_fit_45 : decode cX8_fit 45 = .ok (.invokevirtual 60, 3) := by decide +kernel
theorem dX8_fit_48 : decode cX8_fit 48 = .ok (.ireturn, 1) := by decide +kernel
theorem dX8_fit_49 : decode cX8_fit 49 = .ok (.aload_n 0, 1) := by decide +kernel
theorem dX8_fit_50 : decode cX8_fit 50 = .ok (.iload_n 1, 1) := by decide +kernel
theorem dX8_fit_51 : decode cX8_fit 51 = .ok (.iconst 1, 1) := by decide +kernel
theorem dX8_fit_52 : decode cX8_fit 52 = .ok (.invokevirtual 63, 3) := by decide +kernel
theorem dX8_fit_55 : decode cX8_fit 55 = .ok (.ireturn, 1) := by decide +kernel
theorem dX8_fit_56 : decode cX8_fit 56 = .ok (.aload_n 0, 1) := by decide +kernel
theorem dX8_fit_57 : decode cX8_fit 57 = .ok (.iload_n 1, 1) := by decide +kernel
theorem dX8_fit_58 : decode cX8_fit 58 = .ok (.iconst 0, 1) := by decide +kernel
theorem dX8_fit_59 : decode cX8_fit 59 = .ok (.invokevirtual 63, 3) := by decide +kernel
theorem dX8_fit_62 : decode cX8_fit 62 = .ok (.ireturn, 1) := by decide +kernel
theorem dX8_fit_1 : decode cX8_fit 1 = .ok (.getfield 15, 3) := by decide +kernel
theorem dX8_cleanAll_0 : decode cX8_cleanAll 0 = .ok (.aload_n 0, 1) := by decide +kernel
theorem dX8_cleanAll_1 : decode cX8_cleanAll 1 = .ok (.invokevirtual 37, 3) := by decide +kernel
theorem dX8_cleanAll_4 : decode cX8_cleanAll 4 = .ok (.ireturn, 1) := by decide +kernel
theorem dX8_findRoom_0 : decode cX8_findRoom 0 = .ok (.aload_n 0, 1) := by decide +kernel
theorem dX8_findRoom_1 : decode cX8_findRoom 1 = .ok (.iload_n 1, 1) := by decide +kernel
theorem dX8_findRoom_2 : decode cX8_findRoom 2 = .ok (.invokevirtual 21, 3) := by decide +kernel
theorem dX8_findRoom_5 : decode cX8_findRoom 5 = .ok (.istore_n 2, 1) := by decide +kernel
theorem dX8_findRoom_6 : decode cX8_findRoom 6 = .ok (.iload_n 2, 1) := by decide +kernel
theorem dX8_findRoom_7 : decode cX8_findRoom 7 = .ok (.iconst (-1), 1) := by decide +kernel
theorem dX8_findRoom_22 : decode cX8_findRoom 22 = .ok (.iload_n 2, 1) := by decide +kernel
theorem dX8_findRoom_23 : decode cX8_findRoom 23 = .ok (.ireturn, 1) := by decide +kernel
theorem dX8_findRoom_11 : decode cX8_findRoom 11 = .ok (.aload_n 0, 1) := by decide +kernel
theorem dX8_findRoom_12 : decode cX8_findRoom 12 = .ok (.invokevirtual 25, 3) := by decide +kernel
theorem dX8_findRoom_15 : decode cX8_findRoom 15 = .ok (.pop, 1) := by decide +kernel
theorem dX8_findRoom_16 : decode cX8_findRoom 16 = .ok (.aload_n 0, 1) := by decide +kernel
theorem dX8_findRoom_17 : decode cX8_findRoom 17 = .ok (.iload_n 1, 1) := by decide +kernel
theorem dX8_findRoom_18 : decode cX8_findRoom 18 = .ok (.invokevirtual 21, 3) := by decide +kernel
theorem dX8_findRoom_21 : decode cX8_findRoom 21 = .ok (.istore_n 2, 1) := by decide +kernel
theorem dX8_findRoom_8 : decode cX8_findRoom 8 = .ok (.if_icmp .ne 14, 3) := by decide +kernel
theorem dX8_noteMade_0 : decode cX8_noteMade 0 = .ok (.aload_n 0, 1) := by decide +kernel
theorem dX8_noteMade_1 : decode cX8_noteMade 1 = .ok (.aload_n 1, 1) := by decide +kernel
theorem dX8_noteMade_5 : decode cX8_noteMade 5 = .ok (.aload_n 1, 1) := by decide +kernel
theorem dX8_noteMade_9 : decode cX8_noteMade 9 = .ok (.iadd, 1) := by decide +kernel
theorem dX8_noteMade_13 : decode cX8_noteMade 13 = .ok (.return_, 1) := by decide +kernel
theorem dX8_noteMade_10 : decode cX8_noteMade 10 = .ok (.putfield 18, 3) := by decide +kernel
theorem dX8_noteMade_6 : decode cX8_noteMade 6 = .ok (.getfield 34, 3) := by decide +kernel
theorem dX8_noteMade_2 : decode cX8_noteMade 2 = .ok (.getfield 29, 3) := by decide +kernel
theorem dX8_open_0 : decode cX8_open 0 = .ok (.aload_n 0, 1) := by decide +kernel
theorem dX8_open_1 : decode cX8_open 1 = .ok (.aload_n 1, 1) := by decide +kernel
theorem dX8_open_2 : decode cX8_open 2 = .ok (.iconst 0, 1) := by decide +kernel
theorem dX8_open_7 : decode cX8_open 7 = .ok (.aload_n 0, 1) := by decide +kernel
theorem dX8_open_8 : decode cX8_open 8 = .ok (.aload_n 1, 1) := by decide +kernel
theorem dX8_open_9 : decode cX8_open 9 = .ok (.iconst 1, 1) := by decide +kernel
theorem dX8_open_14 : decode cX8_open 14 = .ok (.aload_n 0, 1) := by decide +kernel
theorem dX8_open_15 : decode cX8_open 15 = .ok (.iconst 0, 1) := by decide +kernel
theorem dX8_open_19 : decode cX8_open 19 = .ok (.return_, 1) := by decide +kernel
theorem dX8_open_16 : decode cX8_open 16 = .ok (.putfield 18, 3) := by decide +kernel
theorem dX8_open_11 : decode cX8_open 11 = .ok (.putfield 15, 3) := by decide +kernel
theorem dX8_open_10 : decode cX8_open 10 = .ok (.iaload, 1) := by decide +kernel
theorem dX8_open_4 : decode cX8_open 4 = .ok (.putfield 9, 3) := by decide +kernel
theorem dX8_open_3 : decode cX8_open 3 = .ok (.iaload, 1) := by decide +kernel
theorem dX8_total_0 : decode cX8_total 0 = .ok (.aload_n 0, 1) := by decide +kernel
theorem dX8_total_4 : decode cX8_total 4 = .ok (.ireturn, 1) := by decide +kernel
theorem dX8_total_1 : decode cX8_total 1 = .ok (.getfield 9, 3) := by decide +kernel
theorem dX5_cleanAll_0 : decode cX5_cleanAll 0 = .ok (.aload_n 0, 1) := by decide +kernel
theorem dX5_cleanAll_1 : decode cX5_cleanAll 1 = .ok (.invokevirtual 30, 3) := by decide +kernel
theorem dX5_cleanAll_4 : decode cX5_cleanAll 4 = .ok (.istore_n 1, 1) := by decide +kernel
theorem dX5_cleanAll_5 : decode cX5_cleanAll 5 = .ok (.aload_n 0, 1) := by decide +kernel
theorem dX5_cleanAll_6 : decode cX5_cleanAll 6 = .ok (.aload_n 0, 1) := by decide +kernel
theorem dX5_cleanAll_7 : decode cX5_cleanAll 7 = .ok (.aload_n 0, 1) := by decide +kernel
theorem dX5_cleanAll_11 : decode cX5_cleanAll 11 = .ok (.invokevirtual 33, 3) := by decide +kernel
theorem dX5_cleanAll_17 : decode cX5_cleanAll 17 = .ok (.iload_n 1, 1) := by decide +kernel
theorem dX5_cleanAll_18 : decode cX5_cleanAll 18 = .ok (.ireturn, 1) := by decide +kernel
theorem dX5_cleanAll_14 : decode cX5_cleanAll 14 = .ok (.putfield 15, 3) := by decide +kernel
theorem dX5_cleanAll_8 : decode cX5_cleanAll 8 = .ok (.getfield 9, 3) := by decide +kernel
theorem dX5_findRoom_0 : decode cX5_findRoom 0 = .ok (.aload_n 0, 1) := by decide +kernel
theorem dX5_findRoom_4 : decode cX5_findRoom 4 = .ok (.iload_n 1, 1) := by decide +kernel
theorem dX5_findRoom_5 : decode cX5_findRoom 5 = .ok (.iadd, 1) := by decide +kernel
theorem dX5_findRoom_6 : decode cX5_findRoom 6 = .ok (.aload_n 0, 1) := by decide +kernel
theorem dX5_findRoom_18 : decode cX5_findRoom 18 = .ok (.aload_n 0, 1) := by decide +kernel
theorem dX5_findRoom_22 : decode cX5_findRoom 22 = .ok (.iload_n 1, 1) := by decide +kernel
theorem dX5_findRoom_23 : decode cX5_findRoom 23 = .ok (.iadd, 1) := by decide +kernel
theorem dX5_findRoom_24 : decode cX5_findRoom 24 = .ok (.aload_n 0, 1) := by decide +kernel
theorem dX5_findRoom_35 : decode cX5_findRoom 35 = .ok (.aload_n 0, 1) := by decide +kernel
theorem dX5_findRoom_39 : decode cX5_findRoom 39 = .ok (.ireturn, 1) := by decide +kernel
theorem dX5_findRoom_36 : decode cX5_findRoom 36 = .ok (.getfield 15, 3) := by decide +kernel
theorem dX5_findRoom_31 : decode cX5_findRoom 31 = .ok (.iconst (-1), 1) := by decide +kernel
theorem dX5_findRoom_32 : decode cX5_findRoom 32 = .ok (.goto 7, 3) := by decide +kernel
theorem dX5_findRoom_28 : decode cX5_findRoom 28 = .ok (.if_icmp .le 7, 3) := by decide +kernel
theorem dX5_findRoom_25 : decode cX5_findRoom 25 = .ok (.getfield 9, 3) := by decide +kernel
theorem dX5_findRoom_19 : decode cX5_findRoom 19 = .ok (.getfield 15, 3) := by decide +kernel
theorem dX5_findRoom_13 : decode cX5_findRoom 13 = .ok (.aload_n 0, 1) := by decide +kernel
theorem dX5_findRoom_14 : decode cX5_findRoom 14 = .ok (.invokevirtual 18, 3) := by decide +kernel
theorem dX5_findRoom_17 : decode cX5_findRoom 17 = .ok (.pop, 1) := by decide +kernel
theorem dX5_findRoom_10 : decode cX5_findRoom 10 = .ok (.if_icmp .le 8, 3) := by decide +kernel
theorem dX5_findRoom_7 : decode cX5_findRoom 7 = .ok (.getfield 9, 3) := by decide +kernel
theorem dX5_findRoom_1 : decode cX5_findRoom 1 = .ok (.getfield 15, 3) := by decide +kernel
theorem dX5_noteMade_0 : decode cX5_noteMade 0 = .ok (.aload_n 0, 1) := by decide +kernel
theorem dX5_noteMade_1 : decode cX5_noteMade 1 = .ok (.aload_n 1, 1) := by decide +kernel
theorem dX5_noteMade_5 : decode cX5_noteMade 5 = .ok (.aload_n 1, 1) := by decide +kernel
theorem dX5_noteMade_9 : decode cX5_noteMade 9 = .ok (.iadd, 1) := by decide +kernel
theorem dX5_noteMade_13 : decode cX5_noteMade 13 = .ok (.return_, 1) := by decide +kernel
theorem dX5_noteMade_10 : decode cX5_noteMade 10 = .ok (.putfield 15, 3) := by decide +kernel
theorem dX5_noteMade_6 : decode cX5_noteMade 6 = .ok (.getfield 27, 3) := by decide +kernel
theorem dX5_noteMade_2 : decode cX5_noteMade 2 = .ok (.getfield 22, 3) := by decide +kernel
theorem dX5_open_0 : decode cX5_open 0 = .ok (.aload_n 0, 1) := by decide +kernel
theorem dX5_open_1 : decode cX5_open 1 = .ok (.aload_n 1, 1) := by decide +kernel
theorem dX5_open_2 : decode cX5_open 2 = .ok (.iconst 0, 1) := by decide +kernel
theorem dX5_open_7 : decode cX5_open 7 = .ok (.aload_n 0, 1) := by decide +kernel
theorem dX5_open_8 : decode cX5_open 8 = .ok (.iconst 0, 1) := by decide +kernel
theorem dX5_open_12 : decode cX5_open 12 = .ok (.return_, 1) := by decide +kernel
theorem dX5_open_9 : decode cX5_open 9 = .ok (.putfield 15, 3) := by decide +kernel
theorem dX5_open_4 : decode cX5_open 4 = .ok (.putfield 9, 3) := by decide +kernel
theorem dX5_open_3 : decode cX5_open 3 = .ok (.iaload, 1) := by decide +kernel
theorem dX5_total_0 : decode cX5_total 0 = .ok (.aload_n 0, 1) := by decide +kernel
theorem dX5_total_4 : decode cX5_total 4 = .ok (.ireturn, 1) := by decide +kernel
theorem dX5_total_1 : decode cX5_total 1 = .ok (.getfield 9, 3) := by decide +kernel
theorem dX5_topPlace_0 : decode cX5_topPlace 0 = .ok (.aload_n 0, 1) := by decide +kernel
theorem dX5_topPlace_4 : decode cX5_topPlace 4 = .ok (.ireturn, 1) := by decide +kernel
theorem dX5_topPlace_1 : decode cX5_topPlace 1 = .ok (.getfield 15, 3) := by decide +kernel
theorem dX3_cleanAll_0 : decode cX3_cleanAll 0 = .ok (.aload_n 0, 1) := by decide +kernel
theorem dX3_cleanAll_1 : decode cX3_cleanAll 1 = .ok (.invokevirtual 37, 3) := by decide +kernel
theorem dX3_cleanAll_4 : decode cX3_cleanAll 4 = .ok (.istore_n 1, 1) := by decide +kernel
theorem dX3_cleanAll_5 : decode cX3_cleanAll 5 = .ok (.aload_n 0, 1) := by decide +kernel
theorem dX3_cleanAll_6 : decode cX3_cleanAll 6 = .ok (.aload_n 0, 1) := by decide +kernel
theorem dX3_cleanAll_10 : decode cX3_cleanAll 10 = .ok (.aload_n 0, 1) := by decide +kernel
theorem dX3_cleanAll_14 : decode cX3_cleanAll 14 = .ok (.isub, 1) := by decide +kernel
theorem dX3_cleanAll_18 : decode cX3_cleanAll 18 = .ok (.aload_n 0, 1) := by decide +kernel
theorem dX3_cleanAll_19 : decode cX3_cleanAll 19 = .ok (.aload_n 0, 1) := by decide +kernel
theorem dX3_cleanAll_26 : decode cX3_cleanAll 26 = .ok (.iconst 0, 1) := by decide +kernel
theorem dX3_cleanAll_27 : decode cX3_cleanAll 27 = .ok (.istore_n 2, 1) := by decide +kernel
theorem dX3_cleanAll_23 : decode cX3_cleanAll 23 = .ok (.putfield 18, 3) := by decide +kernel
theorem dX3_cleanAll_20 : decode cX3_cleanAll 20 = .ok (.getfield 15, 3) := by decide +kernel
theorem dX3_cleanAll_15 : decode cX3_cleanAll 15 = .ok (.putfield 15, 3) := by decide +kernel
theorem dX3_cleanAll_11 : decode cX3_cleanAll 11 = .ok (.getfield 15, 3) := by decide +kernel
theorem dX3_cleanAll_7 : decode cX3_cleanAll 7 = .ok (.getfield 9, 3) := by decide +kernel
theorem dX3_cleanAll_28 : decode cX3_cleanAll 28 = .ok (.iload_n 2, 1) := by decide +kernel
theorem dX3_cleanAll_29 : decode cX3_cleanAll 29 = .ok (.aload_n 0, 1) := by decide +kernel
theorem dX3_cleanAll_83 : decode cX3_cleanAll 83 = .ok (.iload_n 1, 1) := by decide +kernel
theorem dX3_cleanAll_84 : decode cX3_cleanAll 84 = .ok (.ireturn, 1) := by decide +kernel
theorem dX3_cleanAll_39 : decode cX3_cleanAll 39 = .ok (.aload_n 0, 1) := by decide +kernel
theorem dX3_cleanAll_43 : decode cX3_cleanAll 43 = .ok (.iload_n 2, 1) := by decide +kernel
theorem dX3_cleanAll_44 : decode cX3_cleanAll 44 = .ok (.invokevirtual 49, 3) := by decide +kernel
theorem dX3_cleanAll_47 : decode cX3_cleanAll 47 = .ok (.astore_n 3, 1) := by decide +kernel
theorem dX3_cleanAll_48 : decode cX3_cleanAll 48 = .ok (.aload_n 3, 1) := by decide +kernel
theorem dX3_cleanAll_77 : decode cX3_cleanAll 77 = .ok (.iinc 2 1, 3) := by decide +kernel
theorem dX3_cleanAll_80 : decode cX3_cleanAll 80 = .ok (.goto (-52), 3) := by decide +kernel
theorem dX3_cleanAll_52 : decode cX3_cleanAll 52 = .ok (.aload_n 0, 1) := by decide +kernel
theorem dX3_cleanAll_56 : decode cX3_cleanAll 56 = .ok (.aload_n 3, 1) := by decide +kernel
theorem dX3_cleanAll_57 : decode cX3_cleanAll 57 = .ok (.aload_n 0, 1) := by decide +kernel
theorem dX3_cleanAll_61 : decode cX3_cleanAll 61 = .ok (.invokevirtual 57, 3) := by decide +kernel
theorem dX3_cleanAll_64 : decode cX3_cleanAll 64 = .ok (.aload_n 0, 1) := by decide +kernel
theorem dX3_cleanAll_65 : decode cX3_cleanAll 65 = .ok (.dup, 1) := by decide +kernel
theorem dX3_cleanAll_69 : decode cX3_cleanAll 69 = .ok (.aload_n 3, 1) := by decide +kernel
theorem dX3_cleanAll_73 : decode cX3_cleanAll 73 = .ok (.iadd, 1) := by decide +kernel
theorem dX3_cleanAll_74 : decode cX3_cleanAll 74 = .ok (.putfield 18, 3) := by decide +kernel
theorem dX3_cleanAll_70 : decode cX3_cleanAll 70 = .ok (.getfield 34, 3) := by decide +kernel
theorem dX3_cleanAll_66 : decode cX3_cleanAll 66 = .ok (.getfield 18, 3) := by decide +kernel
theorem dX3_cleanAll_58 : decode cX3_cleanAll 58 = .ok (.getfield 18, 3) := by decide +kernel
theorem dX3_cleanAll_53 : decode cX3_cleanAll 53 = .ok (.getfield 53, 3) := by decide +kernel
theorem dX3_cleanAll_49 : decode cX3_cleanAll 49 = .ok (.ifnull 28, 3) := by decide +kernel
theorem dX3_cleanAll_40 : decode cX3_cleanAll 40 = .ok (.getfield 40, 3) := by decide +kernel
theorem dX3_cleanAll_36 : decode cX3_cleanAll 36 = .ok (.if_icmp .ge 47, 3) := by decide +kernel
theorem dX3_cleanAll_33 : decode cX3_cleanAll 33 = .ok (.getfield 44, 3) := by decide +kernel
theorem dX3_cleanAll_30 : decode cX3_cleanAll 30 = .ok (.getfield 40, 3) := by decide +kernel
theorem dX3_findRoom_0 : decode cX3_findRoom 0 = .ok (.aload_n 0, 1) := by decide +kernel
theorem dX3_findRoom_1 : decode cX3_findRoom 1 = .ok (.iload_n 1, 1) := by decide +kernel
theorem dX3_findRoom_2 : decode cX3_findRoom 2 = .ok (.invokevirtual 21, 3) := by decide +kernel
theorem dX3_hasRoom_0 : decode cX3_hasRoom 0 = .ok (.aload_n 0, 1) := by decide +kernel
theorem dX3_hasRoom_4 : decode cX3_hasRoom 4 = .ok (.iload_n 1, 1) := by decide +kernel
theorem dX3_hasRoom_5 : decode cX3_hasRoom 5 = .ok (.iadd, 1) := by decide +kernel
theorem dX3_hasRoom_6 : decode cX3_hasRoom 6 = .ok (.aload_n 0, 1) := by decide +kernel
theorem dX3_hasRoom_10 : decode cX3_hasRoom 10 = .ok (.aload_n 0, 1) := by decide +kernel
theorem dX3_hasRoom_14 : decode cX3_hasRoom 14 = .ok (.iadd, 1) := by decide +kernel
theorem dX3_hasRoom_22 : decode cX3_hasRoom 22 = .ok (.iconst 0, 1) := by decide +kernel
theorem dX3_findRoom_5 : decode cX3_findRoom 5 = .ok (.ifCond .ne 8, 3) := by decide +kernel
theorem dX3_findRoom_8 : decode cX3_findRoom 8 = .ok (.aload_n 0, 1) := by decide +kernel
theorem dX3_findRoom_9 : decode cX3_findRoom 9 = .ok (.invokevirtual 25, 3) := by decide +kernel
theorem dX3_findRoom_12 : decode cX3_findRoom 12 = .ok (.pop, 1) := by decide +kernel
theorem dX3_findRoom_13 : decode cX3_findRoom 13 = .ok (.aload_n 0, 1) := by decide +kernel
theorem dX3_findRoom_14 : decode cX3_findRoom 14 = .ok (.iload_n 1, 1) := by decide +kernel
theorem dX3_findRoom_15 : decode cX3_findRoom 15 = .ok (.invokevirtual 21, 3) := by decide +kernel
theorem dX3_findRoom_18 : decode cX3_findRoom 18 = .ok (.ifCond .eq 10, 3) := by decide +kernel
theorem dX3_findRoom_28 : decode cX3_findRoom 28 = .ok (.iconst (-1), 1) := by decide +kernel
theorem dX3_findRoom_29 : decode cX3_findRoom 29 = .ok (.ireturn, 1) := by decide +kernel
theorem dX3_hasRoom_23 : decode cX3_hasRoom 23 = .ok (.ireturn, 1) := by decide +kernel
theorem dX3_hasRoom_18 : decode cX3_hasRoom 18 = .ok (.iconst 1, 1) := by decide +kernel
theorem dX3_hasRoom_19 : decode cX3_hasRoom 19 = .ok (.goto 4, 3) := by decide +kernel
theorem dX3_findRoom_21 : decode cX3_findRoom 21 = .ok (.aload_n 0, 1) := by decide +kernel
theorem dX3_findRoom_25 : decode cX3_findRoom 25 = .ok (.goto 4, 3) := by decide +kernel
theorem dX3_findRoom_22 : decode cX3_findRoom 22 = .ok (.getfield 18, 3) := by decide +kernel
theorem dX3_hasRoom_15 : decode cX3_hasRoom 15 = .ok (.if_icmp .gt 7, 3) := by decide +kernel
theorem dX3_hasRoom_11 : decode cX3_hasRoom 11 = .ok (.getfield 9, 3) := by decide +kernel
theorem dX3_hasRoom_7 : decode cX3_hasRoom 7 = .ok (.getfield 15, 3) := by decide +kernel
theorem dX3_hasRoom_1 : decode cX3_hasRoom 1 = .ok (.getfield 18, 3) := by decide +kernel
theorem dX3_noteMade_0 : decode cX3_noteMade 0 = .ok (.aload_n 0, 1) := by decide +kernel
theorem dX3_noteMade_1 : decode cX3_noteMade 1 = .ok (.aload_n 1, 1) := by decide +kernel
theorem dX3_noteMade_5 : decode cX3_noteMade 5 = .ok (.aload_n 1, 1) := by decide +kernel
theorem dX3_noteMade_9 : decode cX3_noteMade 9 = .ok (.iadd, 1) := by decide +kernel
theorem dX3_noteMade_13 : decode cX3_noteMade 13 = .ok (.return_, 1) := by decide +kernel
theorem dX3_noteMade_10 : decode cX3_noteMade 10 = .ok (.putfield 18, 3) := by decide +kernel
theorem dX3_noteMade_6 : decode cX3_noteMade 6 = .ok (.getfield 34, 3) := by decide +kernel
theorem dX3_noteMade_2 : decode cX3_noteMade 2 = .ok (.getfield 29, 3) := by decide +kernel
theorem dX3_total_0 : decode cX3_total 0 = .ok (.iconst 2, 1) := by decide +kernel
theorem dX3_total_1 : decode cX3_total 1 = .ok (.aload_n 0, 1) := by decide +kernel
theorem dX3_total_5 : decode cX3_total 5 = .ok (.imul, 1) := by decide +kernel
theorem dX3_total_6 : decode cX3_total 6 = .ok (.ireturn, 1) := by decide +kernel
theorem dX3_total_2 : decode cX3_total 2 = .ok (.getfield 9, 3) := by decide +kernel
theorem dX3_topPlace_0 : decode cX3_topPlace 0 = .ok (.aload_n 0, 1) := by decide +kernel
theorem dX3_topPlace_4 : decode cX3_topPlace 4 = .ok (.ireturn, 1) := by decide +kernel
theorem dX3_topPlace_1 : decode cX3_topPlace 1 = .ok (.getfield 18, 3) := by decide +kernel
theorem dX2_fallIfUncounted_0 : decode cX2_fallIfUncounted 0 = .ok (.aload_n 1, 1) := by decide +kernel
theorem dX2_fallIfUncounted_11 : decode cX2_fallIfUncounted 11 = .ok (.return_, 1) := by decide +kernel
theorem dX2_fallIfUncounted_4 : decode cX2_fallIfUncounted 4 = .ok (.aload_n 1, 1) := by decide +kernel
theorem dX2_fallIfUncounted_12 : decode cX2_fallIfUncounted 12 = .ok (.aload_n 1, 1) := by decide +kernel
theorem dX2_fallIfUncounted_30 : decode cX2_fallIfUncounted 30 = .ok (.aload_n 0, 1) := by decide +kernel
theorem dX2_fallIfUncounted_34 : decode cX2_fallIfUncounted 34 = .ok (.sipush 512, 3) := by decide +kernel
theorem dX2_fallIfUncounted_70 : decode cX2_fallIfUncounted 70 = .ok (.return_, 1) := by decide +kernel
theorem dX2_fallIfUncounted_40 : decode cX2_fallIfUncounted 40 = .ok (.aload_n 0, 1) := by decide +kernel
theorem dX2_fallIfUncounted_44 : decode cX2_fallIfUncounted 44 = .ok (.aload_n 0, 1) := by decide +kernel
theorem dX2_fallIfUncounted_48 : decode cX2_fallIfUncounted 48 = .ok (.aload_n 1, 1) := by decide +kernel
theorem dX2_fallIfUncounted_50 : decode cX2_fallIfUncounted 50 = .ok (.aload_n 0, 1) := by decide +kernel
theorem dX2_fallIfUncounted_54 : decode cX2_fallIfUncounted 54 = .ok (.aload_n 0, 1) := by decide +kernel
theorem dX2_fallIfUncounted_58 : decode cX2_fallIfUncounted 58 = .ok (.iconst 0, 1) := by decide +kernel
theorem dX2_fallIfUncounted_60 : decode cX2_fallIfUncounted 60 = .ok (.aload_n 0, 1) := by decide +kernel
theorem dX2_fallIfUncounted_61 : decode cX2_fallIfUncounted 61 = .ok (.dup, 1) := by decide +kernel
theorem dX2_fallIfUncounted_65 : decode cX2_fallIfUncounted 65 = .ok (.iconst 1, 1) := by decide +kernel
theorem dX2_fallIfUncounted_66 : decode cX2_fallIfUncounted 66 = .ok (.iadd, 1) := by decide +kernel
theorem dX2_fallIfUncounted_67 : decode cX2_fallIfUncounted 67 = .ok (.putfield 25, 3) := by decide +kernel
theorem dX2_fallIfUncounted_62 : decode cX2_fallIfUncounted 62 = .ok (.getfield 25, 3) := by decide +kernel
theorem dX2_fallIfUncounted_59 : decode cX2_fallIfUncounted 59 = .ok (.iastore, 1) := by decide +kernel
theorem dX2_fallIfUncounted_55 : decode cX2_fallIfUncounted 55 = .ok (.getfield 25, 3) := by decide +kernel
theorem dX2_fallIfUncounted_51 : decode cX2_fallIfUncounted 51 = .ok (.getfield 17, 3) := by decide +kernel
theorem dX2_fallIfUncounted_49 : decode cX2_fallIfUncounted 49 = .ok (.aastore, 1) := by decide +kernel
theorem dX2_fallIfUncounted_45 : decode cX2_fallIfUncounted 45 = .ok (.getfield 25, 3) := by decide +kernel
theorem dX2_fallIfUncounted_41 : decode cX2_fallIfUncounted 41 = .ok (.getfield 11, 3) := by decide +kernel
theorem dX2_fallIfUncounted_37 : decode cX2_fallIfUncounted 37 = .ok (.if_icmp .ge 33, 3) := by decide +kernel
theorem dX2_fallIfUncounted_31 : decode cX2_fallIfUncounted 31 = .ok (.getfield 25, 3) := by decide +kernel
theorem dX2_fallIfUncounted_19 : decode cX2_fallIfUncounted 19 = .ok (.aload_n 0, 1) := by decide +kernel
theorem dX2_fallIfUncounted_23 : decode cX2_fallIfUncounted 23 = .ok (.aload_n 1, 1) := by decide +kernel
theorem dX2_fallIfUncounted_24 : decode cX2_fallIfUncounted 24 = .ok (.invokevirtual 61, 3) := by decide +kernel
theorem dX2_fallIfUncounted_27 : decode cX2_fallIfUncounted 27 = .ok (.goto 43, 3) := by decide +kernel
theorem dX2_fallIfUncounted_20 : decode cX2_fallIfUncounted 20 = .ok (.getfield 41, 3) := by decide +kernel
theorem dX2_fallIfUncounted_16 : decode cX2_fallIfUncounted 16 = .ok (.ifCond .eq 14, 3) := by decide +kernel
theorem dX2_fallIfUncounted_13 : decode cX2_fallIfUncounted 13 = .ok (.getfield 57, 3) := by decide +kernel
theorem dX2_fallIfUncounted_8 : decode cX2_fallIfUncounted 8 = .ok (.ifCond .le 4, 3) := by decide +kernel
theorem dX2_fallIfUncounted_5 : decode cX2_fallIfUncounted 5 = .ok (.getfield 21, 3) := by decide +kernel
theorem dX2_fallIfUncounted_1 : decode cX2_fallIfUncounted 1 = .ok (.ifnull 10, 3) := by decide +kernel
theorem dX2_dropWord_0 : decode cX2_dropWord 0 = .ok (.aload_n 1, 1) := by decide +kernel
theorem dX2_dropWord_1 : decode cX2_dropWord 1 = .ok (.iload_n 2, 1) := by decide +kernel
theorem dX2_dropWord_2 : decode cX2_dropWord 2 = .ok (.invokevirtual 50, 3) := by decide +kernel
theorem dX9_isReference_0 : decode cX9_isReference 0 = .ok (.aload_n 0, 1) := by decide +kernel
theorem dX9_isReference_1 : decode cX9_isReference 1 = .ok (.iload_n 1, 1) := by decide +kernel
theorem dX9_isReference_2 : decode cX9_isReference 2 = .ok (.invokevirtual 26, 3) := by decide +kernel
theorem dX9_hasWord_0 : decode cX9_hasWord 0 = .ok (.iload_n 1, 1) := by decide +kernel
theorem dX9_hasWord_18 : decode cX9_hasWord 18 = .ok (.iconst 0, 1) := by decide +kernel
theorem dX9_isReference_5 : decode cX9_isReference 5 = .ok (.ifCond .eq 20, 3) := by decide +kernel
theorem dX9_isReference_25 : decode cX9_isReference 25 = .ok (.iconst 0, 1) := by decide +kernel
theorem dX2_dropWord_5 : decode cX2_dropWord 5 = .ok (.ifCond .eq 17, 3) := by decide +kernel
theorem dX2_dropWord_22 : decode cX2_dropWord 22 = .ok (.return_, 1) := by decide +kernel
theorem dX9_isReference_26 : decode cX9_isReference 26 = .ok (.ireturn, 1) := by decide +kernel
theorem dX9_hasWord_19 : decode cX9_hasWord 19 = .ok (.ireturn, 1) := by decide +kernel
theorem dX9_hasWord_4 : decode cX9_hasWord 4 = .ok (.iload_n 1, 1) := by decide +kernel
theorem dX9_hasWord_5 : decode cX9_hasWord 5 = .ok (.aload_n 0, 1) := by decide +kernel
theorem dX9_hasWord_9 : decode cX9_hasWord 9 = .ok (.iconst 1, 1) := by decide +kernel
theorem dX9_hasWord_10 : decode cX9_hasWord 10 = .ok (.isub, 1) := by decide +kernel
theorem dX9_hasWord_14 : decode cX9_hasWord 14 = .ok (.iconst 1, 1) := by decide +kernel
theorem dX9_hasWord_15 : decode cX9_hasWord 15 = .ok (.goto 4, 3) := by decide +kernel
theorem dX9_isReference_8 : decode cX9_isReference 8 = .ok (.aload_n 0, 1) := by decide +kernel
theorem dX9_isReference_12 : decode cX9_isReference 12 = .ok (.iload_n 1, 1) := by decide +kernel
theorem dX9_isReference_13 : decode cX9_isReference 13 = .ok (.lushr, 1) := by decide +kernel
theorem dX9_isReference_14 : decode cX9_isReference 14 = .ok (.lconst 1, 1) := by decide +kernel
theorem dX9_isReference_15 : decode cX9_isReference 15 = .ok (.land, 1) := by decide +kernel
theorem dX9_isReference_16 : decode cX9_isReference 16 = .ok (.lconst 0, 1) := by decide +kernel
theorem dX9_isReference_17 : decode cX9_isReference 17 = .ok (.lcmp, 1) := by decide +kernel
theorem dX9_isReference_21 : decode cX9_isReference 21 = .ok (.iconst 1, 1) := by decide +kernel
theorem dX9_isReference_22 : decode cX9_isReference 22 = .ok (.goto 4, 3) := by decide +kernel
theorem dX2_dropWord_8 : decode cX2_dropWord 8 = .ok (.aload_n 0, 1) := by decide +kernel
theorem dX2_dropWord_9 : decode cX2_dropWord 9 = .ok (.aload_n 0, 1) := by decide +kernel
theorem dX2_dropWord_13 : decode cX2_dropWord 13 = .ok (.aload_n 1, 1) := by decide +kernel
theorem dX2_dropWord_14 : decode cX2_dropWord 14 = .ok (.iload_n 2, 1) := by decide +kernel
theorem dX2_dropWord_15 : decode cX2_dropWord 15 = .ok (.aconst_null, 1) := by decide +kernel
theorem dX2_dropWord_16 : decode cX2_dropWord 16 = .ok (.invokevirtual 53, 3) := by decide +kernel
theorem dX2_dropWord_19 : decode cX2_dropWord 19 = .ok (.invokevirtual 28, 3) := by decide +kernel
theorem dX2_dropWord_10 : decode cX2_dropWord 10 = .ok (.getfield 41, 3) := by decide +kernel
theorem dX9_isReference_18 : decode cX9_isReference 18 = .ok (.ifCond .eq 7, 3) := by decide +kernel
theorem dX9_isReference_9 : decode cX9_isReference 9 = .ok (.getfield 19, 3) := by decide +kernel
theorem dX9_hasWord_11 : decode cX9_hasWord 11 = .ok (.if_icmp .ge 7, 3) := by decide +kernel
theorem dX9_hasWord_6 : decode cX9_hasWord 6 = .ok (.getfield 16, 3) := by decide +kernel
theorem dX9_hasWord_1 : decode cX9_hasWord 1 = .ok (.ifCond .lt 17, 3) := by decide +kernel
theorem dX2_noteFewer_0 : decode cX2_noteFewer 0 = .ok (.aload_n 0, 1) := by decide +kernel
theorem dX2_noteFewer_1 : decode cX2_noteFewer 1 = .ok (.iconst 0, 1) := by decide +kernel
theorem dX2_noteFewer_5 : decode cX2_noteFewer 5 = .ok (.aload_n 0, 1) := by decide +kernel
theorem dX2_noteFewer_6 : decode cX2_noteFewer 6 = .ok (.aload_n 1, 1) := by decide +kernel
theorem dX2_noteFewer_7 : decode cX2_noteFewer 7 = .ok (.invokevirtual 28, 3) := by decide +kernel
theorem dX2_noteFewer_10 : decode cX2_noteFewer 10 = .ok (.iconst 0, 1) := by decide +kernel
theorem dX2_noteFewer_11 : decode cX2_noteFewer 11 = .ok (.istore_n 2, 1) := by decide +kernel
theorem dX2_noteFewer_2 : decode cX2_noteFewer 2 = .ok (.putfield 25, 3) := by decide +kernel
theorem dX2_noteFewer_12 : decode cX2_noteFewer 12 = .ok (.aload_n 0, 1) := by decide +kernel
theorem dX2_noteFewer_125 : decode cX2_noteFewer 125 = .ok (.return_, 1) := by decide +kernel
theorem dX2_noteFewer_19 : decode cX2_noteFewer 19 = .ok (.iload_n 2, 1) := by decide +kernel
theorem dX2_noteFewer_20 : decode cX2_noteFewer 20 = .ok (.ldc 32, 2) := by decide +kernel
theorem dX2_noteFewer_25 : decode cX2_noteFewer 25 = .ok (.aload_n 0, 1) := by decide +kernel
theorem dX2_noteFewer_29 : decode cX2_noteFewer 29 = .ok (.aload_n 0, 1) := by decide +kernel
theorem dX2_noteFewer_33 : decode cX2_noteFewer 33 = .ok (.iconst 1, 1) := by decide +kernel
theorem dX2_noteFewer_34 : decode cX2_noteFewer 34 = .ok (.isub, 1) := by decide +kernel
theorem dX2_noteFewer_36 : decode cX2_noteFewer 36 = .ok (.astore_n 3, 1) := by decide +kernel
theorem dX2_noteFewer_37 : decode cX2_noteFewer 37 = .ok (.aload_n 0, 1) := by decide +kernel
theorem dX2_noteFewer_41 : decode cX2_noteFewer 41 = .ok (.aload_n 0, 1) := by decide +kernel
theorem dX2_noteFewer_45 : decode cX2_noteFewer 45 = .ok (.iconst 1, 1) := by decide +kernel
theorem dX2_noteFewer_46 : decode cX2_noteFewer 46 = .ok (.isub, 1) := by decide +kernel
theorem dX2_noteFewer_48 : decode cX2_noteFewer 48 = .ok (.istore 4, 2) := by decide +kernel
theorem dX2_noteFewer_50 : decode cX2_noteFewer 50 = .ok (.aload_n 3, 1) := by decide +kernel
theorem dX2_noteFewer_54 : decode cX2_noteFewer 54 = .ok (.aload_n 0, 1) := by decide +kernel
theorem dX2_noteFewer_55 : decode cX2_noteFewer 55 = .ok (.dup, 1) := by decide +kernel
theorem dX2_noteFewer_59 : decode cX2_noteFewer 59 = .ok (.iconst 1, 1) := by decide +kernel
theorem dX2_noteFewer_60 : decode cX2_noteFewer 60 = .ok (.isub, 1) := by decide +kernel
theorem dX2_noteFewer_64 : decode cX2_noteFewer 64 = .ok (.goto 55, 3) := by decide +kernel
theorem dX2_noteFewer_119 : decode cX2_noteFewer 119 = .ok (.iinc 2 1, 3) := by decide +kernel
theorem dX2_noteFewer_122 : decode cX2_noteFewer 122 = .ok (.goto (-110), 3) := by decide +kernel
theorem dX2_noteFewer_61 : decode cX2_noteFewer 61 = .ok (.putfield 25, 3) := by decide +kernel
theorem dX2_noteFewer_56 : decode cX2_noteFewer 56 = .ok (.getfield 25, 3) := by decide +kernel
theorem dX2_noteFewer_67 : decode cX2_noteFewer 67 = .ok (.aload_n 3, 1) := by decide +kernel
theorem dX2_noteFewer_68 : decode cX2_noteFewer 68 = .ok (.iload 4, 2) := by decide +kernel
theorem dX2_noteFewer_70 : decode cX2_noteFewer 70 = .ok (.invokevirtual 33, 3) := by decide +kernel
theorem dX2_noteFewer_73 : decode cX2_noteFewer 73 = .ok (.ifCond .eq 28, 3) := by decide +kernel
theorem dX2_noteFewer_101 : decode cX2_noteFewer 101 = .ok (.aload_n 0, 1) := by decide +kernel
theorem dX2_noteFewer_102 : decode cX2_noteFewer 102 = .ok (.dup, 1) := by decide +kernel
theorem dX2_noteFewer_106 : decode cX2_noteFewer 106 = .ok (.iconst 1, 1) := by decide +kernel
theorem dX2_noteFewer_107 : decode cX2_noteFewer 107 = .ok (.isub, 1) := by decide +kernel
theorem dX2_noteFewer_111 : decode cX2_noteFewer 111 = .ok (.aload_n 0, 1) := by decide +kernel
theorem dX2_noteFewer_115 : decode cX2_noteFewer 115 = .ok (.aload_n 3, 1) := by decide +kernel
theorem dX2_noteFewer_116 : decode cX2_noteFewer 116 = .ok (.invokevirtual 45, 3) := by decide +kernel
theorem dX2_noteFewer_112 : decode cX2_noteFewer 112 = .ok (.getfield 41, 3) := by decide +kernel
theorem dX2_noteFewer_108 : decode cX2_noteFewer 108 = .ok (.putfield 25, 3) := by decide +kernel
theorem dX2_noteFewer_103 : decode cX2_noteFewer 103 = .ok (.getfield 25, 3) := by decide +kernel
theorem dX2_noteFewer_76 : decode cX2_noteFewer 76 = .ok (.aload_n 0, 1) := by decide +kernel
theorem dX2_noteFewer_80 : decode cX2_noteFewer 80 = .ok (.aload_n 0, 1) := by decide +kernel
theorem dX2_noteFewer_84 : decode cX2_noteFewer 84 = .ok (.iconst 1, 1) := by decide +kernel
theorem dX2_noteFewer_85 : decode cX2_noteFewer 85 = .ok (.isub, 1) := by decide +kernel
theorem dX2_noteFewer_86 : decode cX2_noteFewer 86 = .ok (.iload 4, 2) := by decide +kernel
theorem dX2_noteFewer_88 : decode cX2_noteFewer 88 = .ok (.iconst 1, 1) := by decide +kernel
theorem dX2_noteFewer_89 : decode cX2_noteFewer 89 = .ok (.iadd, 1) := by decide +kernel
theorem dX2_noteFewer_91 : decode cX2_noteFewer 91 = .ok (.aload_n 0, 1) := by decide +kernel
theorem dX2_noteFewer_92 : decode cX2_noteFewer 92 = .ok (.aload_n 3, 1) := by decide +kernel
theorem dX2_noteFewer_93 : decode cX2_noteFewer 93 = .ok (.iload 4, 2) := by decide +kernel
theorem dX2_noteFewer_95 : decode cX2_noteFewer 95 = .ok (.invokevirtual 37, 3) := by decide +kernel
theorem dX2_noteFewer_98 : decode cX2_noteFewer 98 = .ok (.goto 21, 3) := by decide +kernel
theorem dX2_noteFewer_90 : decode cX2_noteFewer 90 = .ok (.iastore, 1) := by decide +kernel
theorem dX2_noteFewer_81 : decode cX2_noteFewer 81 = .ok (.getfield 25, 3) := by decide +kernel
theorem dX2_noteFewer_77 : decode cX2_noteFewer 77 = .ok (.getfield 17, 3) := by decide +kernel
theorem dX2_noteFewer_51 : decode cX2_noteFewer 51 = .ok (.ifnonnull 16, 3) := by decide +kernel
theorem dX2_noteFewer_47 : decode cX2_noteFewer 47 = .ok (.iaload, 1) := by decide +kernel
theorem dX2_noteFewer_42 : decode cX2_noteFewer 42 = .ok (.getfield 25, 3) := by decide +kernel
theorem dX2_noteFewer_38 : decode cX2_noteFewer 38 = .ok (.getfield 17, 3) := by decide +kernel
theorem dX2_noteFewer_35 : decode cX2_noteFewer 35 = .ok (.aaload, 1) := by decide +kernel
theorem dX2_noteFewer_30 : decode cX2_noteFewer 30 = .ok (.getfield 25, 3) := by decide +kernel
theorem dX2_noteFewer_26 : decode cX2_noteFewer 26 = .ok (.getfield 11, 3) := by decide +kernel
theorem dX2_noteFewer_22 : decode cX2_noteFewer 22 = .ok (.if_icmp .ge 103, 3) := by decide +kernel
theorem dX2_noteFewer_16 : decode cX2_noteFewer 16 = .ok (.ifCond .le 109, 3) := by decide +kernel
theorem dX2_noteFewer_13 : decode cX2_noteFewer 13 = .ok (.getfield 25, 3) := by decide +kernel
theorem dX2_countOf_0 : decode cX2_countOf 0 = .ok (.aload_n 1, 1) := by decide +kernel
theorem dX2_countOf_4 : decode cX2_countOf 4 = .ok (.ireturn, 1) := by decide +kernel
theorem dX2_countOf_1 : decode cX2_countOf 1 = .ok (.getfield 21, 3) := by decide +kernel
theorem dX6_begin_0 : decode cX6_begin 0 = .ok (.aload_n 0, 1) := by decide +kernel
theorem dX6_begin_1 : decode cX6_begin 1 = .ok (.iconst 1, 1) := by decide +kernel
theorem dX6_begin_5 : decode cX6_begin 5 = .ok (.aload_n 0, 1) := by decide +kernel
theorem dX6_begin_9 : decode cX6_begin 9 = .ok (.iconst 0, 1) := by decide +kernel
theorem dX6_begin_10 : decode cX6_begin 10 = .ok (.invokevirtual 82, 3) := by decide +kernel
theorem dX6_begin_13 : decode cX6_begin 13 = .ok (.aload_n 0, 1) := by decide +kernel
theorem dX6_begin_17 : decode cX6_begin 17 = .ok (.invokevirtual 86, 3) := by decide +kernel
theorem dX6_begin_20 : decode cX6_begin 20 = .ok (.return_, 1) := by decide +kernel
theorem dX6_begin_14 : decode cX6_begin 14 = .ok (.getfield 14, 3) := by decide +kernel
theorem dX6_begin_6 : decode cX6_begin 6 = .ok (.getfield 14, 3) := by decide +kernel
theorem dX6_begin_2 : decode cX6_begin 2 = .ok (.putfield 31, 3) := by decide +kernel
theorem dX6_newsCame_0 : decode cX6_newsCame 0 = .ok (.aload_n 0, 1) := by decide +kernel
theorem dX6_newsCame_4 : decode cX6_newsCame 4 = .ok (.iconst 1, 1) := by decide +kernel
theorem dX6_newsCame_15 : decode cX6_newsCame 15 = .ok (.aload_n 0, 1) := by decide +kernel
theorem dX6_newsCame_19 : decode cX6_newsCame 19 = .ok (.invokevirtual 79, 3) := by decide +kernel
theorem dX10_isEmpty_0 : decode cX10_isEmpty 0 = .ok (.aload_n 0, 1) := by decide +kernel
theorem dX10_isEmpty_4 : decode cX10_isEmpty 4 = .ok (.aload_n 0, 1) := by decide +kernel
theorem dX10_isEmpty_15 : decode cX10_isEmpty 15 = .ok (.iconst 0, 1) := by decide +kernel
theorem dX6_newsCame_22 : decode cX6_newsCame 22 = .ok (.ifCond .ne 7, 3) := by decide +kernel
theorem dX6_newsCame_25 : decode cX6_newsCame 25 = .ok (.iconst 1, 1) := by decide +kernel
theorem dX6_newsCame_26 : decode cX6_newsCame 26 = .ok (.goto 4, 3) := by decide +kernel
theorem dX6_newsCame_30 : decode cX6_newsCame 30 = .ok (.ireturn, 1) := by decide +kernel
theorem dX10_isEmpty_16 : decode cX10_isEmpty 16 = .ok (.ireturn, 1) := by decide +kernel
theorem dX10_isEmpty_11 : decode cX10_isEmpty 11 = .ok (.iconst 1, 1) := by decide +kernel
theorem dX10_isEmpty_12 : decode cX10_isEmpty 12 = .ok (.goto 4, 3) := by decide +kernel
theorem dX6_newsCame_29 : decode cX6_newsCame 29 = .ok (.iconst 0, 1) := by decide +kernel
theorem dX10_isEmpty_8 : decode cX10_isEmpty 8 = .ok (.if_icmp .lt 7, 3) := by decide +kernel
theorem dX10_isEmpty_5 : decode cX10_isEmpty 5 = .ok (.getfield 32, 3) := by decide +kernel
theorem dX10_isEmpty_1 : decode cX10_isEmpty 1 = .ok (.getfield 28, 3) := by decide +kernel
theorem dX6_newsCame_16 : decode cX6_newsCame 16 = .ok (.getfield 14, 3) := by decide +kernel
theorem dX6_newsCame_8 : decode cX6_newsCame 8 = .ok (.aload_n 0, 1) := by decide +kernel
theorem dX6_newsCame_12 : decode cX6_newsCame 12 = .ok (.invokevirtual 86, 3) := by decide +kernel
theorem dX6_newsCame_9 : decode cX6_newsCame 9 = .ok (.getfield 14, 3) := by decide +kernel
theorem dX6_newsCame_5 : decode cX6_newsCame 5 = .ok (.if_icmp .ne 10, 3) := by decide +kernel
theorem dX6_newsCame_1 : decode cX6_newsCame 1 = .ok (.getfield 28, 3) := by decide +kernel
theorem dX6_finish_0 : decode cX6_finish 0 = .ok (.aload_n 0, 1) := by decide +kernel
theorem dX6_finish_1 : decode cX6_finish 1 = .ok (.iconst 0, 1) := by decide +kernel
theorem dX6_finish_5 : decode cX6_finish 5 = .ok (.aload_n 0, 1) := by decide +kernel
theorem dX6_finish_9 : decode cX6_finish 9 = .ok (.aload_n 0, 1) := by decide +kernel
theorem dX6_finish_13 : decode cX6_finish 13 = .ok (.invokevirtual 89, 3) := by decide +kernel
theorem dX6_finish_16 : decode cX6_finish 16 = .ok (.aload_n 0, 1) := by decide +kernel
theorem dX6_finish_20 : decode cX6_finish 20 = .ok (.aload_n 0, 1) := by decide +kernel
theorem dX6_finish_24 : decode cX6_finish 24 = .ok (.invokevirtual 93, 3) := by decide +kernel
theorem dX6_finish_27 : decode cX6_finish 27 = .ok (.ireturn, 1) := by decide +kernel
theorem dX6_finish_21 : decode cX6_finish 21 = .ok (.getfield 14, 3) := by decide +kernel
theorem dX6_finish_17 : decode cX6_finish 17 = .ok (.getfield 38, 3) := by decide +kernel
theorem dX6_finish_10 : decode cX6_finish 10 = .ok (.getfield 14, 3) := by decide +kernel
theorem dX6_finish_6 : decode cX6_finish 6 = .ok (.getfield 38, 3) := by decide +kernel
theorem dX6_finish_2 : decode cX6_finish 2 = .ok (.putfield 31, 3) := by decide +kernel
theorem dX6_goOn_0 : decode cX6_goOn 0 = .ok (.aload_n 0, 1) := by decide +kernel
theorem dX6_goOn_9 : decode cX6_goOn 9 = .ok (.aload_n 0, 1) := by decide +kernel
theorem dX6_goOn_13 : decode cX6_goOn 13 = .ok (.iload_n 1, 1) := by decide +kernel
theorem dX6_goOn_14 : decode cX6_goOn 14 = .ok (.invokevirtual 69, 3) := by decide +kernel
theorem dX6_goOn_17 : decode cX6_goOn 17 = .ok (.istore_n 2, 1) := by decide +kernel
theorem dX6_goOn_18 : decode cX6_goOn 18 = .ok (.aload_n 0, 1) := by decide +kernel
theorem dX6_goOn_22 : decode cX6_goOn 22 = .ok (.invokevirtual 79, 3) := by decide +kernel
theorem dX6_goOn_25 : decode cX6_goOn 25 = .ok (.ifCond .eq 15, 3) := by decide +kernel
theorem dX6_goOn_40 : decode cX6_goOn 40 = .ok (.iload_n 2, 1) := by decide +kernel
theorem dX6_goOn_41 : decode cX6_goOn 41 = .ok (.ireturn, 1) := by decide +kernel
theorem dX6_goOn_28 : decode cX6_goOn 28 = .ok (.aload_n 0, 1) := by decide +kernel
theorem dX6_goOn_29 : decode cX6_goOn 29 = .ok (.invokevirtual 72, 3) := by decide +kernel
theorem dX6_goOn_35 : decode cX6_goOn 35 = .ok (.aload_n 0, 1) := by decide +kernel
theorem dX6_goOn_36 : decode cX6_goOn 36 = .ok (.invokevirtual 76, 3) := by decide +kernel
theorem dX6_goOn_39 : decode cX6_goOn 39 = .ok (.pop, 1) := by decide +kernel
theorem dX6_goOn_32 : decode cX6_goOn 32 = .ok (.ifCond .ne 8, 3) := by decide +kernel
theorem dX6_goOn_19 : decode cX6_goOn 19 = .ok (.getfield 14, 3) := by decide +kernel
theorem dX6_goOn_10 : decode cX6_goOn 10 = .ok (.getfield 14, 3) := by decide +kernel
theorem dX6_goOn_7 : decode cX6_goOn 7 = .ok (.iconst 0, 1) := by decide +kernel
theorem dX6_goOn_8 : decode cX6_goOn 8 = .ok (.ireturn, 1) := by decide +kernel
theorem dX6_goOn_4 : decode cX6_goOn 4 = .ok (.ifCond .ne 5, 3) := by decide +kernel
theorem dX6_goOn_1 : decode cX6_goOn 1 = .ok (.getfield 31, 3) := by decide +kernel
theorem dX6_cleanAll_0 : decode cX6_cleanAll 0 = .ok (.aload_n 0, 1) := by decide +kernel

