/-! instructions, decoded -/
theorem dX11_feed_0 : decode cX11_feed 0 = .ok (.aload_n 0, 1) := by decide +kernel
theorem dX11_feed_1 : decode cX11_feed 1 = .ok (.getfield 68, 3) := by decide +kernel
theorem dX11_feed_4 : decode cX11_feed 4 = .ok (.bipush 20, 2) := by decide +kernel
theorem dX11_feed_6 : decode cX11_feed 6 = .ok (.iadd, 1) := by decide +kernel
theorem dX11_feed_7 : decode cX11_feed 7 = .ok (.bipush 100, 2) := by decide +kernel
theorem dX11_feed_20 : decode cX11_feed 20 = .ok (.aload_n 0, 1) := by decide +kernel
theorem dX11_feed_21 : decode cX11_feed 21 = .ok (.iload_n 1, 1) := by decide +kernel
theorem dX11_feed_25 : decode cX11_feed 25 = .ok (.aload_n 0, 1) := by decide +kernel
theorem dX11_feed_26 : decode cX11_feed 26 = .ok (.iload_n 2, 1) := by decide +kernel
theorem dX11_feed_30 : decode cX11_feed 30 = .ok (.aload_n 0, 1) := by decide +kernel
theorem dX11_feed_31 : decode cX11_feed 31 = .ok (.iload_n 3, 1) := by decide +kernel
theorem dX11_feed_35 : decode cX11_feed 35 = .ok (.aload_n 0, 1) := by decide +kernel
theorem dX11_feed_36 : decode cX11_feed 36 = .ok (.iload 4, 2) := by decide +kernel
theorem dX11_feed_41 : decode cX11_feed 41 = .ok (.aload_n 0, 1) := by decide +kernel
theorem dX11_feed_42 : decode cX11_feed 42 = .ok (.iload 5, 2) := by decide +kernel
theorem dX11_feed_47 : decode cX11_feed 47 = .ok (.aload_n 0, 1) := by decide +kernel
theorem dX11_feed_48 : decode cX11_feed 48 = .ok (.getfield 68, 3) := by decide +kernel
theorem dX11_feed_51 : decode cX11_feed 51 = .ok (.ireturn, 1) := by decide +kernel
theorem dX11_feed_44 : decode cX11_feed 44 = .ok (.invokevirtual 75, 3) := by decide +kernel
theorem dX11_feed_38 : decode cX11_feed 38 = .ok (.invokevirtual 75, 3) := by decide +kernel
theorem dX11_feed_32 : decode cX11_feed 32 = .ok (.invokevirtual 75, 3) := by decide +kernel
theorem dX11_feed_27 : decode cX11_feed 27 = .ok (.invokevirtual 75, 3) := by decide +kernel
theorem dX11_feed_22 : decode cX11_feed 22 = .ok (.invokevirtual 75, 3) := by decide +kernel
theorem dX11_feed_12 : decode cX11_feed 12 = .ok (.new 72, 3) := by decide +kernel
theorem dX11_feed_15 : decode cX11_feed 15 = .ok (.dup, 1) := by decide +kernel
theorem dX11_feed_16 : decode cX11_feed 16 = .ok (.invokespecial 74, 3) := by decide +kernel
theorem dX11_feed_19 : decode cX11_feed 19 = .ok (.athrow, 1) := by decide +kernel
theorem dX11_feed_9 : decode cX11_feed 9 = .ok (.if_icmp .le 11, 3) := by decide +kernel
theorem dX12_feed_0 : decode cX12_feed 0 = .ok (.aload_n 0, 1) := by decide +kernel
theorem dX12_feed_1 : decode cX12_feed 1 = .ok (.aload_n 0, 1) := by decide +kernel
theorem dX12_feed_2 : decode cX12_feed 2 = .ok (.getfield 107, 3) := by decide +kernel
theorem dX12_feed_5 : decode cX12_feed 5 = .ok (.bipush 20, 2) := by decide +kernel
theorem dX12_feed_7 : decode cX12_feed 7 = .ok (.iadd, 1) := by decide +kernel
theorem dX12_feed_8 : decode cX12_feed 8 = .ok (.bipush 100, 2) := by decide +kernel
theorem dX12_feed_17 : decode cX12_feed 17 = .ok (.iconst 0, 1) := by decide +kernel
theorem dX12_fails_0 : decode cX12_fails 0 = .ok (.aload_n 0, 1) := by decide +kernel
theorem dX12_fails_1 : decode cX12_fails 1 = .ok (.iload_n 1, 1) := by decide +kernel
theorem dX12_fails_5 : decode cX12_fails 5 = .ok (.iload_n 1, 1) := by decide +kernel
theorem dX12_fails_6 : decode cX12_fails 6 = .ok (.ifCond .eq 7, 3) := by decide +kernel
theorem dX12_fails_13 : decode cX12_fails 13 = .ok (.iconst 0, 1) := by decide +kernel
theorem dX12_feed_21 : decode cX12_feed 21 = .ok (.ifCond .eq 5, 3) := by decide +kernel
theorem dX12_feed_26 : decode cX12_feed 26 = .ok (.aload_n 0, 1) := by decide +kernel
theorem dX12_feed_27 : decode cX12_feed 27 = .ok (.iload_n 1, 1) := by decide +kernel
theorem dX12_feed_31 : decode cX12_feed 31 = .ok (.aload_n 0, 1) := by decide +kernel
theorem dX12_feed_32 : decode cX12_feed 32 = .ok (.iload_n 2, 1) := by decide +kernel
theorem dX12_feed_36 : decode cX12_feed 36 = .ok (.aload_n 0, 1) := by decide +kernel
theorem dX12_feed_37 : decode cX12_feed 37 = .ok (.iload_n 3, 1) := by decide +kernel
theorem dX12_feed_41 : decode cX12_feed 41 = .ok (.aload_n 0, 1) := by decide +kernel
theorem dX12_feed_42 : decode cX12_feed 42 = .ok (.iload 4, 2) := by decide +kernel
theorem dX12_feed_47 : decode cX12_feed 47 = .ok (.aload_n 0, 1) := by decide +kernel
theorem dX12_feed_48 : decode cX12_feed 48 = .ok (.iload 5, 2) := by decide +kernel
theorem dX12_feed_53 : decode cX12_feed 53 = .ok (.aload_n 0, 1) := by decide +kernel
theorem dX12_feed_54 : decode cX12_feed 54 = .ok (.getfield 107, 3) := by decide +kernel
theorem dX12_feed_57 : decode cX12_feed 57 = .ok (.ireturn, 1) := by decide +kernel
theorem dX12_feed_50 : decode cX12_feed 50 = .ok (.invokevirtual 114, 3) := by decide +kernel
theorem dX12_feed_44 : decode cX12_feed 44 = .ok (.invokevirtual 114, 3) := by decide +kernel
theorem dX12_feed_38 : decode cX12_feed 38 = .ok (.invokevirtual 114, 3) := by decide +kernel
theorem dX12_feed_33 : decode cX12_feed 33 = .ok (.invokevirtual 114, 3) := by decide +kernel
theorem dX12_feed_28 : decode cX12_feed 28 = .ok (.invokevirtual 114, 3) := by decide +kernel
theorem dX12_fails_14 : decode cX12_fails 14 = .ok (.ireturn, 1) := by decide +kernel
theorem dX12_fails_2 : decode cX12_fails 2 = .ok (.putfield 1, 3) := by decide +kernel
theorem dX12_feed_18 : decode cX12_feed 18 = .ok (.invokevirtual 110, 3) := by decide +kernel
theorem dX12_feed_13 : decode cX12_feed 13 = .ok (.iconst 1, 1) := by decide +kernel
theorem dX12_feed_14 : decode cX12_feed 14 = .ok (.goto 4, 3) := by decide +kernel
theorem dX12_fails_9 : decode cX12_fails 9 = .ok (.iconst 1, 1) := by decide +kernel
theorem dX12_fails_10 : decode cX12_fails 10 = .ok (.goto 4, 3) := by decide +kernel
theorem dX12_feed_24 : decode cX12_feed 24 = .ok (.iconst 0, 1) := by decide +kernel
theorem dX12_feed_25 : decode cX12_feed 25 = .ok (.ireturn, 1) := by decide +kernel
theorem dX12_feed_10 : decode cX12_feed 10 = .ok (.if_icmp .le 7, 3) := by decide +kernel
theorem dX11_end_0 : decode cX11_end 0 = .ok (.iload_n 1, 1) := by decide +kernel
theorem dX11_end_12 : decode cX11_end 12 = .ok (.new 79, 3) := by decide +kernel
theorem dX11_end_15 : decode cX11_end 15 = .ok (.dup, 1) := by decide +kernel
theorem dX11_end_16 : decode cX11_end 16 = .ok (.invokespecial 81, 3) := by decide +kernel
theorem dX11_end_19 : decode cX11_end 19 = .ok (.athrow, 1) := by decide +kernel
theorem dX11_end_4 : decode cX11_end 4 = .ok (.iload_n 1, 1) := by decide +kernel
theorem dX11_end_5 : decode cX11_end 5 = .ok (.aload_n 0, 1) := by decide +kernel
theorem dX11_end_6 : decode cX11_end 6 = .ok (.getfield 68, 3) := by decide +kernel
theorem dX11_end_20 : decode cX11_end 20 = .ok (.aload_n 0, 1) := by decide +kernel
theorem dX11_end_21 : decode cX11_end 21 = .ok (.iload_n 1, 1) := by decide +kernel
theorem dX11_end_25 : decode cX11_end 25 = .ok (.iload_n 1, 1) := by decide +kernel
theorem dX11_end_26 : decode cX11_end 26 = .ok (.ireturn, 1) := by decide +kernel
theorem dX11_end_22 : decode cX11_end 22 = .ok (.putfield 68, 3) := by decide +kernel
theorem dX11_end_9 : decode cX11_end 9 = .ok (.if_icmp .le 11, 3) := by decide +kernel
theorem dX11_end_1 : decode cX11_end 1 = .ok (.ifCond .lt 11, 3) := by decide +kernel
theorem dX12_end_0 : decode cX12_end 0 = .ok (.aload_n 0, 1) := by decide +kernel
theorem dX12_end_1 : decode cX12_end 1 = .ok (.iload_n 1, 1) := by decide +kernel
theorem dX12_end_13 : decode cX12_end 13 = .ok (.iconst 1, 1) := by decide +kernel
theorem dX12_end_14 : decode cX12_end 14 = .ok (.goto 4, 3) := by decide +kernel
theorem dX12_end_21 : decode cX12_end 21 = .ok (.ifCond .eq 5, 3) := by decide +kernel
theorem dX12_end_24 : decode cX12_end 24 = .ok (.iconst 0, 1) := by decide +kernel
theorem dX12_end_25 : decode cX12_end 25 = .ok (.ireturn, 1) := by decide +kernel
theorem dX12_end_18 : decode cX12_end 18 = .ok (.invokevirtual 110, 3) := by decide +kernel
theorem dX12_end_5 : decode cX12_end 5 = .ok (.iload_n 1, 1) := by decide +kernel
theorem dX12_end_6 : decode cX12_end 6 = .ok (.aload_n 0, 1) := by decide +kernel
theorem dX12_end_7 : decode cX12_end 7 = .ok (.getfield 107, 3) := by decide +kernel
theorem dX12_end_17 : decode cX12_end 17 = .ok (.iconst 0, 1) := by decide +kernel
theorem dX12_end_26 : decode cX12_end 26 = .ok (.aload_n 0, 1) := by decide +kernel
theorem dX12_end_27 : decode cX12_end 27 = .ok (.iload_n 1, 1) := by decide +kernel
theorem dX12_end_31 : decode cX12_end 31 = .ok (.iload_n 1, 1) := by decide +kernel
theorem dX12_end_32 : decode cX12_end 32 = .ok (.ireturn, 1) := by decide +kernel
theorem dX12_end_28 : decode cX12_end 28 = .ok (.putfield 107, 3) := by decide +kernel
theorem dX12_end_10 : decode cX12_end 10 = .ok (.if_icmp .le 7, 3) := by decide +kernel
theorem dX12_end_2 : decode cX12_end 2 = .ok (.ifCond .lt 11, 3) := by decide +kernel
theorem dX11_kind_0 : decode cX11_kind 0 = .ok (.iload_n 1, 1) := by decide +kernel
theorem dX11_kind_21 : decode cX11_kind 21 = .ok (.new 79, 3) := by decide +kernel
theorem dX11_kind_24 : decode cX11_kind 24 = .ok (.dup, 1) := by decide +kernel
theorem dX11_kind_25 : decode cX11_kind 25 = .ok (.invokespecial 81, 3) := by decide +kernel
theorem dX11_kind_28 : decode cX11_kind 28 = .ok (.athrow, 1) := by decide +kernel
theorem dX11_kind_4 : decode cX11_kind 4 = .ok (.iload_n 1, 1) := by decide +kernel
theorem dX11_kind_5 : decode cX11_kind 5 = .ok (.bipush 8, 2) := by decide +kernel
theorem dX11_kind_10 : decode cX11_kind 10 = .ok (.iload_n 2, 1) := by decide +kernel
theorem dX11_kind_14 : decode cX11_kind 14 = .ok (.iload_n 2, 1) := by decide +kernel
theorem dX11_kind_15 : decode cX11_kind 15 = .ok (.iconst 1, 1) := by decide +kernel
theorem dX11_kind_16 : decode cX11_kind 16 = .ok (.iload_n 1, 1) := by decide +kernel
theorem dX11_kind_17 : decode cX11_kind 17 = .ok (.ishl, 1) := by decide +kernel
theorem dX11_kind_29 : decode cX11_kind 29 = .ok (.aload_n 0, 1) := by decide +kernel
theorem dX11_kind_30 : decode cX11_kind 30 = .ok (.getfield 82, 3) := by decide +kernel
theorem dX11_kind_33 : decode cX11_kind 33 = .ok (.bipush 16, 2) := by decide +kernel
theorem dX11_kind_46 : decode cX11_kind 46 = .ok (.aload_n 0, 1) := by decide +kernel
theorem dX11_kind_47 : decode cX11_kind 47 = .ok (.getfield 17, 3) := by decide +kernel
theorem dX11_kind_50 : decode cX11_kind 50 = .ok (.aload_n 0, 1) := by decide +kernel
theorem dX11_kind_51 : decode cX11_kind 51 = .ok (.getfield 82, 3) := by decide +kernel
theorem dX11_kind_54 : decode cX11_kind 54 = .ok (.iload_n 1, 1) := by decide +kernel
theorem dX11_kind_56 : decode cX11_kind 56 = .ok (.aload_n 0, 1) := by decide +kernel
theorem dX11_kind_57 : decode cX11_kind 57 = .ok (.getfield 20, 3) := by decide +kernel
theorem dX11_kind_60 : decode cX11_kind 60 = .ok (.aload_n 0, 1) := by decide +kernel
theorem dX11_kind_61 : decode cX11_kind 61 = .ok (.getfield 82, 3) := by decide +kernel
theorem dX11_kind_64 : decode cX11_kind 64 = .ok (.iload_n 2, 1) := by decide +kernel
theorem dX11_kind_66 : decode cX11_kind 66 = .ok (.aload_n 0, 1) := by decide +kernel
theorem dX11_kind_67 : decode cX11_kind 67 = .ok (.dup, 1) := by decide +kernel
theorem dX11_kind_68 : decode cX11_kind 68 = .ok (.getfield 82, 3) := by decide +kernel
theorem dX11_kind_71 : decode cX11_kind 71 = .ok (.iconst 1, 1) := by decide +kernel
theorem dX11_kind_72 : decode cX11_kind 72 = .ok (.iadd, 1) := by decide +kernel
theorem dX11_kind_76 : decode cX11_kind 76 = .ok (.aload_n 0, 1) := by decide +kernel
theorem dX11_kind_77 : decode cX11_kind 77 = .ok (.getfield 82, 3) := by decide +kernel
theorem dX11_kind_80 : decode cX11_kind 80 = .ok (.iconst 1, 1) := by decide +kernel
theorem dX11_kind_81 : decode cX11_kind 81 = .ok (.isub, 1) := by decide +kernel
theorem dX11_kind_82 : decode cX11_kind 82 = .ok (.ireturn, 1) := by decide +kernel
theorem dX11_kind_73 : decode cX11_kind 73 = .ok (.putfield 82, 3) := by decide +kernel
theorem dX11_kind_65 : decode cX11_kind 65 = .ok (.iastore, 1) := by decide +kernel
theorem dX11_kind_55 : decode cX11_kind 55 = .ok (.iastore, 1) := by decide +kernel
theorem dX11_kind_38 : decode cX11_kind 38 = .ok (.new 85, 3) := by decide +kernel
theorem dX11_kind_41 : decode cX11_kind 41 = .ok (.dup, 1) := by decide +kernel
theorem dX11_kind_42 : decode cX11_kind 42 = .ok (.invokespecial 87, 3) := by decide +kernel
theorem dX11_kind_45 : decode cX11_kind 45 = .ok (.athrow, 1) := by decide +kernel
theorem dX11_kind_35 : decode cX11_kind 35 = .ok (.if_icmp .lt 11, 3) := by decide +kernel
theorem dX11_kind_18 : decode cX11_kind 18 = .ok (.if_icmp .lt 11, 3) := by decide +kernel
theorem dX11_kind_11 : decode cX11_kind 11 = .ok (.ifCond .lt 10, 3) := by decide +kernel
theorem dX11_kind_7 : decode cX11_kind 7 = .ok (.if_icmp .gt 14, 3) := by decide +kernel
theorem dX11_kind_1 : decode cX11_kind 1 = .ok (.ifCond .lt 20, 3) := by decide +kernel
theorem dX12_kind_0 : decode cX12_kind 0 = .ok (.iload_n 1, 1) := by decide +kernel
theorem dX12_kind_10 : decode cX12_kind 10 = .ok (.iconst 1, 1) := by decide +kernel
theorem dX12_kind_11 : decode cX12_kind 11 = .ok (.goto 4, 3) := by decide +kernel
theorem dX12_kind_15 : decode cX12_kind 15 = .ok (.istore_n 3, 1) := by decide +kernel
theorem dX12_kind_16 : decode cX12_kind 16 = .ok (.aload_n 0, 1) := by decide +kernel
theorem dX12_kind_17 : decode cX12_kind 17 = .ok (.iload_n 3, 1) := by decide +kernel
theorem dX12_kind_18 : decode cX12_kind 18 = .ok (.ifCond .ne 14, 3) := by decide +kernel
theorem dX12_kind_32 : decode cX12_kind 32 = .ok (.iconst 1, 1) := by decide +kernel
theorem dX12_kind_33 : decode cX12_kind 33 = .ok (.goto 17, 3) := by decide +kernel
theorem dX12_kind_53 : decode cX12_kind 53 = .ok (.ifCond .eq 5, 3) := by decide +kernel
theorem dX12_kind_56 : decode cX12_kind 56 = .ok (.iconst 0, 1) := by decide +kernel
theorem dX12_kind_57 : decode cX12_kind 57 = .ok (.ireturn, 1) := by decide +kernel
theorem dX12_kind_50 : decode cX12_kind 50 = .ok (.invokevirtual 110, 3) := by decide +kernel
theorem dX12_kind_4 : decode cX12_kind 4 = .ok (.iload_n 1, 1) := by decide +kernel
theorem dX12_kind_5 : decode cX12_kind 5 = .ok (.bipush 8, 2) := by decide +kernel
theorem dX12_kind_14 : decode cX12_kind 14 = .ok (.iconst 0, 1) := by decide +kernel
theorem dX12_kind_21 : decode cX12_kind 21 = .ok (.iload_n 2, 1) := by decide +kernel
theorem dX12_kind_25 : decode cX12_kind 25 = .ok (.iload_n 2, 1) := by decide +kernel
theorem dX12_kind_26 : decode cX12_kind 26 = .ok (.iconst 1, 1) := by decide +kernel
theorem dX12_kind_27 : decode cX12_kind 27 = .ok (.iload_n 1, 1) := by decide +kernel
theorem dX12_kind_28 : decode cX12_kind 28 = .ok (.ishl, 1) := by decide +kernel
theorem dX12_kind_36 : decode cX12_kind 36 = .ok (.aload_n 0, 1) := by decide +kernel
theorem dX12_kind_37 : decode cX12_kind 37 = .ok (.getfield 118, 3) := by decide +kernel
theorem dX12_kind_40 : decode cX12_kind 40 = .ok (.bipush 16, 2) := by decide +kernel
theorem dX12_kind_49 : decode cX12_kind 49 = .ok (.iconst 0, 1) := by decide +kernel
theorem dX12_kind_58 : decode cX12_kind 58 = .ok (.aload_n 0, 1) := by decide +kernel
theorem dX12_kind_59 : decode cX12_kind 59 = .ok (.getfield 20, 3) := by decide +kernel
theorem dX12_kind_62 : decode cX12_kind 62 = .ok (.aload_n 0, 1) := by decide +kernel
theorem dX12_kind_63 : decode cX12_kind 63 = .ok (.getfield 118, 3) := by decide +kernel
theorem dX12_kind_66 : decode cX12_kind 66 = .ok (.iload_n 1, 1) := by decide +kernel
theorem dX12_kind_68 : decode cX12_kind 68 = .ok (.aload_n 0, 1) := by decide +kernel
theorem dX12_kind_69 : decode cX12_kind 69 = .ok (.getfield 24, 3) := by decide +kernel
theorem dX12_kind_72 : decode cX12_kind 72 = .ok (.aload_n 0, 1) := by decide +kernel
theorem dX12_kind_73 : decode cX12_kind 73 = .ok (.getfield 118, 3) := by decide +kernel
theorem dX12_kind_76 : decode cX12_kind 76 = .ok (.iload_n 2, 1) := by decide +kernel
theorem dX12_kind_78 : decode cX12_kind 78 = .ok (.aload_n 0, 1) := by decide +kernel
theorem dX12_kind_79 : decode cX12_kind 79 = .ok (.dup, 1) := by decide +kernel
theorem dX12_kind_80 : decode cX12_kind 80 = .ok (.getfield 118, 3) := by decide +kernel
theorem dX12_kind_83 : decode cX12_kind 83 = .ok (.iconst 1, 1) := by decide +kernel
theorem dX12_kind_84 : decode cX12_kind 84 = .ok (.iadd, 1) := by decide +kernel
theorem dX12_kind_88 : decode cX12_kind 88 = .ok (.aload_n 0, 1) := by decide +kernel
theorem dX12_kind_89 : decode cX12_kind 89 = .ok (.getfield 118, 3) := by decide +kernel
theorem dX12_kind_92 : decode cX12_kind 92 = .ok (.iconst 1, 1) := by decide +kernel
theorem dX12_kind_93 : decode cX12_kind 93 = .ok (.isub, 1) := by decide +kernel
theorem dX12_kind_94 : decode cX12_kind 94 = .ok (.ireturn, 1) := by decide +kernel
theorem dX12_kind_85 : decode cX12_kind 85 = .ok (.putfield 118, 3) := by decide +kernel
theorem dX12_kind_77 : decode cX12_kind 77 = .ok (.iastore, 1) := by decide +kernel
theorem dX12_kind_67 : decode cX12_kind 67 = .ok (.iastore, 1) := by decide +kernel
theorem dX12_kind_45 : decode cX12_kind 45 = .ok (.iconst 2, 1) := by decide +kernel
theorem dX12_kind_46 : decode cX12_kind 46 = .ok (.goto 4, 3) := by decide +kernel
theorem dX12_kind_42 : decode cX12_kind 42 = .ok (.if_icmp .ne 7, 3) := by decide +kernel
theorem dX12_kind_29 : decode cX12_kind 29 = .ok (.if_icmp .lt 7, 3) := by decide +kernel
theorem dX12_kind_22 : decode cX12_kind 22 = .ok (.ifCond .lt 10, 3) := by decide +kernel
theorem dX12_kind_7 : decode cX12_kind 7 = .ok (.if_icmp .le 7, 3) := by decide +kernel
theorem dX12_kind_1 : decode cX12_kind 1 = .ok (.ifCond .lt 9, 3) := by decide +kernel
theorem dX11_make_0 : decode cX11_make 0 = .ok (.iload_n 1, 1) := by decide +kernel
theorem dX11_make_19 : decode cX11_make 19 = .ok (.new 79, 3) := by decide +kernel
theorem dX11_make_22 : decode cX11_make 22 = .ok (.dup, 1) := by decide +kernel
theorem dX11_make_23 : decode cX11_make 23 = .ok (.invokespecial 81, 3) := by decide +kernel
theorem dX11_make_26 : decode cX11_make 26 = .ok (.athrow, 1) := by decide +kernel
theorem dX11_make_4 : decode cX11_make 4 = .ok (.iload_n 1, 1) := by decide +kernel
theorem dX11_make_5 : decode cX11_make 5 = .ok (.aload_n 0, 1) := by decide +kernel
theorem dX11_make_6 : decode cX11_make 6 = .ok (.getfield 82, 3) := by decide +kernel
theorem dX11_make_12 : decode cX11_make 12 = .ok (.iload_n 2, 1) := by decide +kernel
theorem dX11_isSlot_0 : decode cX11_isSlot 0 = .ok (.iload_n 0, 1) := by decide +kernel
theorem dX11_isSlot_14 : decode cX11_isSlot 14 = .ok (.iconst 0, 1) := by decide +kernel
theorem dX11_make_16 : decode cX11_make 16 = .ok (.ifCond .ne 11, 3) := by decide +kernel
theorem dX11_isSlot_15 : decode cX11_isSlot 15 = .ok (.ireturn, 1) := by decide +kernel
theorem dX11_isSlot_4 : decode cX11_isSlot 4 = .ok (.iload_n 0, 1) := by decide +kernel
theorem dX11_isSlot_5 : decode cX11_isSlot 5 = .ok (.bipush 16, 2) := by decide +kernel
theorem dX11_isSlot_10 : decode cX11_isSlot 10 = .ok (.iconst 1, 1) := by decide +kernel
theorem dX11_isSlot_11 : decode cX11_isSlot 11 = .ok (.goto 4, 3) := by decide +kernel
theorem dX11_make_27 : decode cX11_make 27 = .ok (.aload_n 0, 1) := by decide +kernel
theorem dX11_make_28 : decode cX11_make 28 = .ok (.iload_n 1, 1) := by decide +kernel
theorem dX11_make_29 : decode cX11_make 29 = .ok (.aload_n 0, 1) := by decide +kernel
theorem dX11_make_30 : decode cX11_make 30 = .ok (.getfield 17, 3) := by decide +kernel
theorem dX11_make_33 : decode cX11_make 33 = .ok (.iload_n 1, 1) := by decide +kernel
theorem dX11_make_35 : decode cX11_make 35 = .ok (.aload_n 0, 1) := by decide +kernel
theorem dX11_make_36 : decode cX11_make 36 = .ok (.getfield 20, 3) := by decide +kernel
theorem dX11_make_39 : decode cX11_make 39 = .ok (.iload_n 1, 1) := by decide +kernel
theorem dX11_make_41 : decode cX11_make 41 = .ok (.i2l, 1) := by decide +kernel
theorem dX11_make_42 : decode cX11_make 42 = .ok (.iload_n 2, 1) := by decide +kernel
theorem dX11_make_46 : decode cX11_make 46 = .ok (.ireturn, 1) := by decide +kernel
theorem dX11_make_43 : decode cX11_make 43 = .ok (.invokevirtual 113, 3) := by decide +kernel
theorem dX11_make_40 : decode cX11_make 40 = .ok (.iaload, 1) := by decide +kernel
theorem dX11_make_34 : decode cX11_make 34 = .ok (.iaload, 1) := by decide +kernel
theorem dX11_isSlot_7 : decode cX11_isSlot 7 = .ok (.if_icmp .ge 7, 3) := by decide +kernel
theorem dX11_isSlot_1 : decode cX11_isSlot 1 = .ok (.ifCond .lt 13, 3) := by decide +kernel
theorem dX11_make_13 : decode cX11_make 13 = .ok (.invokestatic 109, 3) := by decide +kernel
theorem dX11_make_9 : decode cX11_make 9 = .ok (.if_icmp .ge 10, 3) := by decide +kernel
theorem dX11_make_1 : decode cX11_make 1 = .ok (.ifCond .lt 18, 3) := by decide +kernel
theorem dX12_make_0 : decode cX12_make 0 = .ok (.aload_n 0, 1) := by decide +kernel
theorem dX12_make_1 : decode cX12_make 1 = .ok (.iload_n 1, 1) := by decide +kernel
theorem dX12_make_21 : decode cX12_make 21 = .ok (.iconst 1, 1) := by decide +kernel
theorem dX12_make_22 : decode cX12_make 22 = .ok (.goto 15, 3) := by decide +kernel
theorem dX12_make_40 : decode cX12_make 40 = .ok (.ifCond .eq 5, 3) := by decide +kernel
theorem dX12_make_43 : decode cX12_make 43 = .ok (.iconst 0, 1) := by decide +kernel
theorem dX12_make_44 : decode cX12_make 44 = .ok (.ireturn, 1) := by decide +kernel
theorem dX12_make_37 : decode cX12_make 37 = .ok (.invokevirtual 110, 3) := by decide +kernel
theorem dX12_make_5 : decode cX12_make 5 = .ok (.iload_n 1, 1) := by decide +kernel
theorem dX12_make_6 : decode cX12_make 6 = .ok (.aload_n 0, 1) := by decide +kernel
theorem dX12_make_7 : decode cX12_make 7 = .ok (.getfield 118, 3) := by decide +kernel
theorem dX12_make_13 : decode cX12_make 13 = .ok (.aload_n 0, 1) := by decide +kernel
theorem dX12_make_14 : decode cX12_make 14 = .ok (.iload_n 2, 1) := by decide +kernel
theorem dX12_isNamed_0 : decode cX12_isNamed 0 = .ok (.iload_n 1, 1) := by decide +kernel
theorem dX12_isNamed_14 : decode cX12_isNamed 14 = .ok (.iconst 0, 1) := by decide +kernel
theorem dX12_make_18 : decode cX12_make 18 = .ok (.ifCond .ne 7, 3) := by decide +kernel
theorem dX12_isNamed_15 : decode cX12_isNamed 15 = .ok (.ireturn, 1) := by decide +kernel
theorem dX12_isNamed_4 : decode cX12_isNamed 4 = .ok (.iload_n 1, 1) := by decide +kernel
theorem dX12_isNamed_5 : decode cX12_isNamed 5 = .ok (.bipush 16, 2) := by decide +kernel
theorem dX12_isNamed_10 : decode cX12_isNamed 10 = .ok (.iconst 1, 1) := by decide +kernel
theorem dX12_isNamed_11 : decode cX12_isNamed 11 = .ok (.goto 4, 3) := by decide +kernel
theorem dX12_make_25 : decode cX12_make 25 = .ok (.aload_n 0, 1) := by decide +kernel
theorem dX12_make_26 : decode cX12_make 26 = .ok (.getfield 237, 3) := by decide +kernel
theorem dX12_make_36 : decode cX12_make 36 = .ok (.iconst 0, 1) := by decide +kernel
theorem dX12_make_45 : decode cX12_make 45 = .ok (.aload_n 0, 1) := by decide +kernel
theorem dX12_make_46 : decode cX12_make 46 = .ok (.iload_n 1, 1) := by decide +kernel
theorem dX12_make_47 : decode cX12_make 47 = .ok (.aload_n 0, 1) := by decide +kernel
theorem dX12_make_48 : decode cX12_make 48 = .ok (.getfield 20, 3) := by decide +kernel
theorem dX12_make_51 : decode cX12_make 51 = .ok (.iload_n 1, 1) := by decide +kernel
theorem dX12_make_53 : decode cX12_make 53 = .ok (.iload_n 2, 1) := by decide +kernel
theorem dX12_make_52 : decode cX12_make 52 = .ok (.iaload, 1) := by decide +kernel
theorem dX12_make_32 : decode cX12_make 32 = .ok (.iconst 2, 1) := by decide +kernel
theorem dX12_make_33 : decode cX12_make 33 = .ok (.goto 4, 3) := by decide +kernel
theorem dX12_make_29 : decode cX12_make 29 = .ok (.ifCond .ne 7, 3) := by decide +kernel
theorem dX12_isNamed_7 : decode cX12_isNamed 7 = .ok (.if_icmp .ge 7, 3) := by decide +kernel
theorem dX12_isNamed_1 : decode cX12_isNamed 1 = .ok (.ifCond .lt 13, 3) := by decide +kernel
theorem dX12_make_15 : decode cX12_make 15 = .ok (.invokevirtual 493, 3) := by decide +kernel
theorem dX12_make_10 : decode cX12_make 10 = .ok (.if_icmp .ge 11, 3) := by decide +kernel
theorem dX12_make_2 : decode cX12_make 2 = .ok (.ifCond .lt 19, 3) := by decide +kernel
theorem dX11_row_0 : decode cX11_row 0 = .ok (.iload_n 2, 1) := by decide +kernel
theorem dX11_row_17 : decode cX11_row 17 = .ok (.new 79, 3) := by decide +kernel
theorem dX11_row_20 : decode cX11_row 20 = .ok (.dup, 1) := by decide +kernel
theorem dX11_row_21 : decode cX11_row 21 = .ok (.invokespecial 81, 3) := by decide +kernel
theorem dX11_row_24 : decode cX11_row 24 = .ok (.athrow, 1) := by decide +kernel
theorem dX11_row_4 : decode cX11_row 4 = .ok (.iload_n 2, 1) := by decide +kernel
theorem dX11_row_5 : decode cX11_row 5 = .ok (.bipush 60, 2) := by decide +kernel
theorem dX11_row_10 : decode cX11_row 10 = .ok (.iload_n 3, 1) := by decide +kernel
theorem dX11_row_14 : decode cX11_row 14 = .ok (.ifCond .ne 11, 3) := by decide +kernel
theorem dX11_row_25 : decode cX11_row 25 = .ok (.iload_n 1, 1) := by decide +kernel
theorem dX11_row_43 : decode cX11_row 43 = .ok (.aload_n 0, 1) := by decide +kernel
theorem dX11_row_44 : decode cX11_row 44 = .ok (.bipush 17, 2) := by decide +kernel
theorem dX11_row_46 : decode cX11_row 46 = .ok (.iload_n 2, 1) := by decide +kernel
theorem dX11_row_47 : decode cX11_row 47 = .ok (.lconst 0, 1) := by decide +kernel
theorem dX11_row_48 : decode cX11_row 48 = .ok (.iload_n 3, 1) := by decide +kernel
theorem dX11_row_52 : decode cX11_row 52 = .ok (.ireturn, 1) := by decide +kernel
theorem dX11_row_49 : decode cX11_row 49 = .ok (.invokevirtual 113, 3) := by decide +kernel
theorem dX11_row_29 : decode cX11_row 29 = .ok (.aload_n 0, 1) := by decide +kernel
theorem dX11_row_30 : decode cX11_row 30 = .ok (.bipush 16, 2) := by decide +kernel
theorem dX11_row_32 : decode cX11_row 32 = .ok (.iload_n 2, 1) := by decide +kernel
theorem dX11_row_33 : decode cX11_row 33 = .ok (.ldc2_w 117, 3) := by decide +kernel
theorem dX11_row_36 : decode cX11_row 36 = .ok (.iload_n 3, 1) := by decide +kernel
theorem dX11_row_40 : decode cX11_row 40 = .ok (.goto 12, 3) := by decide +kernel
theorem dX11_row_37 : decode cX11_row 37 = .ok (.invokevirtual 113, 3) := by decide +kernel
theorem dX11_row_26 : decode cX11_row 26 = .ok (.ifCond .eq 17, 3) := by decide +kernel
theorem dX11_row_11 : decode cX11_row 11 = .ok (.invokestatic 109, 3) := by decide +kernel
theorem dX11_row_7 : decode cX11_row 7 = .ok (.if_icmp .gt 10, 3) := by decide +kernel
theorem dX11_row_1 : decode cX11_row 1 = .ok (.ifCond .lt 16, 3) := by decide +kernel
theorem dX12_row_0 : decode cX12_row 0 = .ok (.aload_n 0, 1) := by decide +kernel
theorem dX12_row_1 : decode cX12_row 1 = .ok (.iload_n 2, 1) := by decide +kernel
theorem dX12_row_19 : decode cX12_row 19 = .ok (.iconst 1, 1) := by decide +kernel
theorem dX12_row_20 : decode cX12_row 20 = .ok (.goto 15, 3) := by decide +kernel
theorem dX12_row_38 : decode cX12_row 38 = .ok (.ifCond .eq 5, 3) := by decide +kernel
theorem dX12_row_41 : decode cX12_row 41 = .ok (.iconst 0, 1) := by decide +kernel
theorem dX12_row_42 : decode cX12_row 42 = .ok (.ireturn, 1) := by decide +kernel
theorem dX12_row_35 : decode cX12_row 35 = .ok (.invokevirtual 110, 3) := by decide +kernel
theorem dX12_row_5 : decode cX12_row 5 = .ok (.iload_n 2, 1) := by decide +kernel
theorem dX12_row_6 : decode cX12_row 6 = .ok (.bipush 60, 2) := by decide +kernel
theorem dX12_row_11 : decode cX12_row 11 = .ok (.aload_n 0, 1) := by decide +kernel
theorem dX12_row_12 : decode cX12_row 12 = .ok (.iload_n 3, 1) := by decide +kernel
theorem dX12_row_16 : decode cX12_row 16 = .ok (.ifCond .ne 7, 3) := by decide +kernel
theorem dX12_row_23 : decode cX12_row 23 = .ok (.aload_n 0, 1) := by decide +kernel
theorem dX12_row_24 : decode cX12_row 24 = .ok (.getfield 237, 3) := by decide +kernel
theorem dX12_row_34 : decode cX12_row 34 = .ok (.iconst 0, 1) := by decide +kernel
theorem dX12_row_43 : decode cX12_row 43 = .ok (.aload_n 0, 1) := by decide +kernel
theorem dX12_row_44 : decode cX12_row 44 = .ok (.iload_n 1, 1) := by decide +kernel
theorem dX12_row_53 : decode cX12_row 53 = .ok (.bipush 17, 2) := by decide +kernel
theorem dX12_row_55 : decode cX12_row 55 = .ok (.iload_n 2, 1) := by decide +kernel
theorem dX12_row_56 : decode cX12_row 56 = .ok (.iload_n 3, 1) := by decide +kernel
theorem dX12_row_48 : decode cX12_row 48 = .ok (.bipush 16, 2) := by decide +kernel
theorem dX12_row_50 : decode cX12_row 50 = .ok (.goto 5, 3) := by decide +kernel
theorem dX12_row_45 : decode cX12_row 45 = .ok (.ifCond .eq 8, 3) := by decide +kernel
theorem dX12_row_30 : decode cX12_row 30 = .ok (.iconst 2, 1) := by decide +kernel
theorem dX12_row_31 : decode cX12_row 31 = .ok (.goto 4, 3) := by decide +kernel
theorem dX12_row_27 : decode cX12_row 27 = .ok (.ifCond .ne 7, 3) := by decide +kernel
theorem dX12_row_13 : decode cX12_row 13 = .ok (.invokevirtual 493, 3) := by decide +kernel
theorem dX12_row_8 : decode cX12_row 8 = .ok (.if_icmp .gt 11, 3) := by decide +kernel
theorem dX12_row_2 : decode cX12_row 2 = .ok (.ifCond .lt 17, 3) := by decide +kernel
theorem dX11_put_0 : decode cX11_put 0 = .ok (.aload_n 0, 1) := by decide +kernel
theorem dX11_needCollector_0 : decode cX11_needCollector 0 = .ok (.aload_n 0, 1) := by decide +kernel
theorem dX11_needCollector_1 : decode cX11_needCollector 1 = .ok (.getfield 98, 3) := by decide +kernel
theorem dX11_needCollector_7 : decode cX11_needCollector 7 = .ok (.new 85, 3) := by decide +kernel
theorem dX11_needCollector_10 : decode cX11_needCollector 10 = .ok (.dup, 1) := by decide +kernel
theorem dX11_needCollector_11 : decode cX11_needCollector 11 = .ok (.invokespecial 87, 3) := by decide +kernel
theorem dX11_needCollector_14 : decode cX11_needCollector 14 = .ok (.athrow, 1) := by decide +kernel
theorem dX11_needCollector_15 : decode cX11_needCollector 15 = .ok (.aload_n 0, 1) := by decide +kernel
theorem dX11_needCollector_16 : decode cX11_needCollector 16 = .ok (.getfield 98, 3) := by decide +kernel
theorem dX11_put_4 : decode cX11_put 4 = .ok (.pop, 1) := by decide +kernel
theorem dX11_put_5 : decode cX11_put 5 = .ok (.aload_n 0, 1) := by decide +kernel
theorem dX11_put_6 : decode cX11_put 6 = .ok (.iload_n 1, 1) := by decide +kernel
theorem dX11_needCollector_19 : decode cX11_needCollector 19 = .ok (.areturn, 1) := by decide +kernel
theorem dX11_needCollector_4 : decode cX11_needCollector 4 = .ok (.ifnonnull 11, 3) := by decide +kernel
theorem dX11_put_1 : decode cX11_put 1 = .ok (.invokevirtual 119, 3) := by decide +kernel
theorem dX12_put_0 : decode cX12_put 0 = .ok (.aload_n 0, 1) := by decide +kernel
theorem dX12_put_1 : decode cX12_put 1 = .ok (.aload_n 0, 1) := by decide +kernel
theorem dX12_put_2 : decode cX12_put 2 = .ok (.getfield 237, 3) := by decide +kernel
theorem dX12_put_12 : decode cX12_put 12 = .ok (.iconst 0, 1) := by decide +kernel
theorem dX12_put_16 : decode cX12_put 16 = .ok (.ifCond .eq 5, 3) := by decide +kernel
theorem dX12_put_21 : decode cX12_put 21 = .ok (.aload_n 0, 1) := by decide +kernel
theorem dX12_put_22 : decode cX12_put 22 = .ok (.iload_n 1, 1) := by decide +kernel
theorem dX12_put_13 : decode cX12_put 13 = .ok (.invokevirtual 110, 3) := by decide +kernel
theorem dX12_put_8 : decode cX12_put 8 = .ok (.iconst 1, 1) := by decide +kernel
theorem dX12_put_9 : decode cX12_put 9 = .ok (.goto 4, 3) := by decide +kernel
theorem dX12_put_19 : decode cX12_put 19 = .ok (.iconst 0, 1) := by decide +kernel
theorem dX12_put_20 : decode cX12_put 20 = .ok (.ireturn, 1) := by decide +kernel
theorem dX12_put_5 : decode cX12_put 5 = .ok (.ifCond .ne 7, 3) := by decide +kernel
theorem dX11_link_0 : decode cX11_link 0 = .ok (.aload_n 0, 1) := by decide +kernel
theorem dX11_link_4 : decode cX11_link 4 = .ok (.astore 4, 2) := by decide +kernel
theorem dX11_link_6 : decode cX11_link 6 = .ok (.aload_n 0, 1) := by decide +kernel
theorem dX11_link_7 : decode cX11_link 7 = .ok (.iload_n 1, 1) := by decide +kernel
theorem dX11_link_1 : decode cX11_link 1 = .ok (.invokevirtual 119, 3) := by decide +kernel
theorem dX12_link_0 : decode cX12_link 0 = .ok (.aload_n 0, 1) := by decide +kernel
theorem dX12_link_1 : decode cX12_link 1 = .ok (.aload_n 0, 1) := by decide +kernel
theorem dX12_link_2 : decode cX12_link 2 = .ok (.getfield 237, 3) := by decide +kernel
theorem dX12_link_12 : decode cX12_link 12 = .ok (.iconst 0, 1) := by decide +kernel
theorem dX12_link_16 : decode cX12_link 16 = .ok (.ifCond .eq 5, 3) := by decide +kernel
theorem dX12_link_21 : decode cX12_link 21 = .ok (.aload_n 0, 1) := by decide +kernel
theorem dX12_link_22 : decode cX12_link 22 = .ok (.iload_n 1, 1) := by decide +kernel
theorem dX12_link_13 : decode cX12_link 13 = .ok (.invokevirtual 110, 3) := by decide +kernel
theorem dX12_link_8 : decode cX12_link 8 = .ok (.iconst 1, 1) := by decide +kernel
theorem dX12_link_9 : decode cX12_link 9 = .ok (.goto 4, 3) := by decide +kernel
theorem dX12_link_19 : decode cX12_link 19 = .ok (.iconst 0, 1) := by decide +kernel
theorem dX12_link_20 : decode cX12_link 20 = .ok (.ireturn, 1) := by decide +kernel
theorem dX12_link_5 : decode cX12_link 5 = .ok (.ifCond .ne 7, 3) := by decide +kernel
theorem dX11_get_0 : decode cX11_get 0 = .ok (.aload_n 0, 1) := by decide +kernel
theorem dX11_get_4 : decode cX11_get 4 = .ok (.pop, 1) := by decide +kernel
theorem dX11_get_5 : decode cX11_get 5 = .ok (.aload_n 0, 1) := by decide +kernel
theorem dX11_get_6 : decode cX11_get 6 = .ok (.iload_n 1, 1) := by decide +kernel
theorem dX11_get_1 : decode cX11_get 1 = .ok (.invokevirtual 119, 3) := by decide +kernel
theorem dX12_get_0 : decode cX12_get 0 = .ok (.aload_n 0, 1) := by decide +kernel
theorem dX12_get_1 : decode cX12_get 1 = .ok (.aload_n 0, 1) := by decide +kernel
theorem dX12_get_2 : decode cX12_get 2 = .ok (.getfield 237, 3) := by decide +kernel
theorem dX12_get_12 : decode cX12_get 12 = .ok (.iconst 0, 1) := by decide +kernel
theorem dX12_get_16 : decode cX12_get 16 = .ok (.ifCond .eq 5, 3) := by decide +kernel
theorem dX12_get_21 : decode cX12_get 21 = .ok (.aload_n 0, 1) := by decide +kernel
theorem dX12_get_22 : decode cX12_get 22 = .ok (.iload_n 1, 1) := by decide +kernel
theorem dX12_get_13 : decode cX12_get 13 = .ok (.invokevirtual 110, 3) := by decide +kernel
theorem dX12_get_8 : decode cX12_get 8 = .ok (.iconst 1, 1) := by decide +kernel
theorem dX12_get_9 : decode cX12_get 9 = .ok (.goto 4, 3) := by decide +kernel
theorem dX12_get_19 : decode cX12_get 19 = .ok (.iconst 0, 1) := by decide +kernel
theorem dX12_get_20 : decode cX12_get 20 = .ok (.ireturn, 1) := by decide +kernel
theorem dX12_get_5 : decode cX12_get 5 = .ok (.ifCond .ne 7, 3) := by decide +kernel
theorem dX11_root_0 : decode cX11_root 0 = .ok (.iload_n 1, 1) := by decide +kernel
theorem dX11_root_4 : decode cX11_root 4 = .ok (.ifCond .ne 11, 3) := by decide +kernel
theorem dX11_root_7 : decode cX11_root 7 = .ok (.new 79, 3) := by decide +kernel
theorem dX11_root_10 : decode cX11_root 10 = .ok (.dup, 1) := by decide +kernel
theorem dX11_root_11 : decode cX11_root 11 = .ok (.invokespecial 81, 3) := by decide +kernel
theorem dX11_root_14 : decode cX11_root 14 = .ok (.athrow, 1) := by decide +kernel
theorem dX11_root_15 : decode cX11_root 15 = .ok (.aload_n 0, 1) := by decide +kernel
theorem dX11_root_19 : decode cX11_root 19 = .ok (.astore_n 3, 1) := by decide +kernel
theorem dX11_root_20 : decode cX11_root 20 = .ok (.aload_n 0, 1) := by decide +kernel
theorem dX11_root_21 : decode cX11_root 21 = .ok (.iload_n 2, 1) := by decide +kernel
theorem dX11_root_16 : decode cX11_root 16 = .ok (.invokevirtual 119, 3) := by decide +kernel
theorem dX11_root_1 : decode cX11_root 1 = .ok (.invokestatic 109, 3) := by decide +kernel
theorem dX12_root_0 : decode cX12_root 0 = .ok (.aload_n 0, 1) := by decide +kernel
theorem dX12_root_1 : decode cX12_root 1 = .ok (.aload_n 0, 1) := by decide +kernel
theorem dX12_root_2 : decode cX12_root 2 = .ok (.iload_n 1, 1) := by decide +kernel
theorem dX12_root_6 : decode cX12_root 6 = .ok (.ifCond .ne 7, 3) := by decide +kernel
theorem dX12_root_9 : decode cX12_root 9 = .ok (.iconst 1, 1) := by decide +kernel
theorem dX12_root_10 : decode cX12_root 10 = .ok (.goto 15, 3) := by decide +kernel
theorem dX12_root_28 : decode cX12_root 28 = .ok (.ifCond .eq 5, 3) := by decide +kernel
theorem dX12_root_31 : decode cX12_root 31 = .ok (.iconst 0, 1) := by decide +kernel
theorem dX12_root_32 : decode cX12_root 32 = .ok (.ireturn, 1) := by decide +kernel
theorem dX12_root_25 : decode cX12_root 25 = .ok (.invokevirtual 110, 3) := by decide +kernel
theorem dX12_root_13 : decode cX12_root 13 = .ok (.aload_n 0, 1) := by decide +kernel
theorem dX12_root_14 : decode cX12_root 14 = .ok (.getfield 237, 3) := by decide +kernel
theorem dX12_root_24 : decode cX12_root 24 = .ok (.iconst 0, 1) := by decide +kernel
theorem dX12_root_33 : decode cX12_root 33 = .ok (.iload_n 2, 1) := by decide +kernel
theorem dX12_root_34 : decode cX12_root 34 = .ok (.iconst (-1), 1) := by decide +kernel
theorem dX12_root_42 : decode cX12_root 42 = .ok (.aload_n 0, 1) := by decide +kernel
theorem dX12_root_43 : decode cX12_root 43 = .ok (.iload_n 2, 1) := by decide +kernel
theorem dX12_root_38 : decode cX12_root 38 = .ok (.iconst (-1), 1) := by decide +kernel
theorem dX12_root_39 : decode cX12_root 39 = .ok (.goto 8, 3) := by decide +kernel
theorem dX12_root_47 : decode cX12_root 47 = .ok (.istore_n 3, 1) := by decide +kernel
theorem dX12_root_48 : decode cX12_root 48 = .ok (.aload_n 0, 1) := by decide +kernel
theorem dX12_root_49 : decode cX12_root 49 = .ok (.iload_n 2, 1) := by decide +kernel
theorem dX12_root_50 : decode cX12_root 50 = .ok (.iconst (-1), 1) := by decide +kernel
theorem dX12_root_62 : decode cX12_root 62 = .ok (.iconst 0, 1) := by decide +kernel
theorem dX12_root_66 : decode cX12_root 66 = .ok (.ifCond .eq 5, 3) := by decide +kernel
theorem dX12_root_71 : decode cX12_root 71 = .ok (.aload_n 0, 1) := by decide +kernel
theorem dX12_root_72 : decode cX12_root 72 = .ok (.aload_n 0, 1) := by decide +kernel
theorem dX12_root_73 : decode cX12_root 73 = .ok (.getfield 68, 3) := by decide +kernel
theorem dX12_root_76 : decode cX12_root 76 = .ok (.iload_n 1, 1) := by decide +kernel
theorem dX12_root_77 : decode cX12_root 77 = .ok (.iaload, 1) := by decide +kernel
theorem dX12_root_63 : decode cX12_root 63 = .ok (.invokevirtual 110, 3) := by decide +kernel
theorem dX12_root_54 : decode cX12_root 54 = .ok (.iload_n 3, 1) := by decide +kernel
theorem dX12_root_55 : decode cX12_root 55 = .ok (.ifCond .ge 7, 3) := by decide +kernel
theorem dX12_root_58 : decode cX12_root 58 = .ok (.iconst 3, 1) := by decide +kernel
theorem dX12_root_59 : decode cX12_root 59 = .ok (.goto 4, 3) := by decide +kernel
theorem dX12_root_69 : decode cX12_root 69 = .ok (.iconst 0, 1) := by decide +kernel
theorem dX12_root_70 : decode cX12_root 70 = .ok (.ireturn, 1) := by decide +kernel
theorem dX12_root_51 : decode cX12_root 51 = .ok (.if_icmp .eq 11, 3) := by decide +kernel
theorem dX12_root_35 : decode cX12_root 35 = .ok (.if_icmp .ne 7, 3) := by decide +kernel
theorem dX12_root_20 : decode cX12_root 20 = .ok (.iconst 2, 1) := by decide +kernel
theorem dX12_root_21 : decode cX12_root 21 = .ok (.goto 4, 3) := by decide +kernel
theorem dX12_root_17 : decode cX12_root 17 = .ok (.ifCond .ne 7, 3) := by decide +kernel
theorem dX12_root_3 : decode cX12_root 3 = .ok (.invokevirtual 493, 3) := by decide +kernel
theorem dX11_weak_0 : decode cX11_weak 0 = .ok (.iload_n 1, 1) := by decide +kernel
theorem dX11_weak_4 : decode cX11_weak 4 = .ok (.ifCond .ne 11, 3) := by decide +kernel
theorem dX11_weak_7 : decode cX11_weak 7 = .ok (.new 79, 3) := by decide +kernel
theorem dX11_weak_10 : decode cX11_weak 10 = .ok (.dup, 1) := by decide +kernel
theorem dX11_weak_11 : decode cX11_weak 11 = .ok (.invokespecial 81, 3) := by decide +kernel
theorem dX11_weak_14 : decode cX11_weak 14 = .ok (.athrow, 1) := by decide +kernel
theorem dX11_weak_15 : decode cX11_weak 15 = .ok (.aload_n 0, 1) := by decide +kernel
theorem dX11_weak_19 : decode cX11_weak 19 = .ok (.pop, 1) := by decide +kernel
theorem dX11_weak_20 : decode cX11_weak 20 = .ok (.aload_n 0, 1) := by decide +kernel
theorem dX11_weak_21 : decode cX11_weak 21 = .ok (.iload_n 2, 1) := by decide +kernel
theorem dX11_weak_16 : decode cX11_weak 16 = .ok (.invokevirtual 119, 3) := by decide +kernel
theorem dX11_weak_1 : decode cX11_weak 1 = .ok (.invokestatic 109, 3) := by decide +kernel
theorem dX12_weak_0 : decode cX12_weak 0 = .ok (.aload_n 0, 1) := by decide +kernel
theorem dX12_weak_1 : decode cX12_weak 1 = .ok (.aload_n 0, 1) := by decide +kernel
theorem dX12_weak_2 : decode cX12_weak 2 = .ok (.iload_n 1, 1) := by decide +kernel
theorem dX12_weak_6 : decode cX12_weak 6 = .ok (.ifCond .ne 7, 3) := by decide +kernel
theorem dX12_weak_9 : decode cX12_weak 9 = .ok (.iconst 1, 1) := by decide +kernel
theorem dX12_weak_10 : decode cX12_weak 10 = .ok (.goto 15, 3) := by decide +kernel
theorem dX12_weak_28 : decode cX12_weak 28 = .ok (.ifCond .eq 5, 3) := by decide +kernel
theorem dX12_weak_31 : decode cX12_weak 31 = .ok (.iconst 0, 1) := by decide +kernel
theorem dX12_weak_32 : decode cX12_weak 32 = .ok (.ireturn, 1) := by decide +kernel
theorem dX12_weak_25 : decode cX12_weak 25 = .ok (.invokevirtual 110, 3) := by decide +kernel
theorem dX12_weak_13 : decode cX12_weak 13 = .ok (.aload_n 0, 1) := by decide +kernel
theorem dX12_weak_14 : decode cX12_weak 14 = .ok (.getfield 237, 3) := by decide +kernel
theorem dX12_weak_24 : decode cX12_weak 24 = .ok (.iconst 0, 1) := by decide +kernel
theorem dX12_weak_33 : decode cX12_weak 33 = .ok (.iload_n 2, 1) := by decide +kernel
theorem dX12_weak_34 : decode cX12_weak 34 = .ok (.iconst (-1), 1) := by decide +kernel
theorem dX12_weak_42 : decode cX12_weak 42 = .ok (.aload_n 0, 1) := by decide +kernel
theorem dX12_weak_43 : decode cX12_weak 43 = .ok (.iload_n 2, 1) := by decide +kernel
theorem dX12_weak_38 : decode cX12_weak 38 = .ok (.iconst (-1), 1) := by decide +kernel
theorem dX12_weak_39 : decode cX12_weak 39 = .ok (.goto 8, 3) := by decide +kernel
theorem dX12_weak_47 : decode cX12_weak 47 = .ok (.istore_n 3, 1) := by decide +kernel
theorem dX12_weak_48 : decode cX12_weak 48 = .ok (.aload_n 0, 1) := by decide +kernel
theorem dX12_weak_49 : decode cX12_weak 49 = .ok (.iload_n 2, 1) := by decide +kernel
theorem dX12_weak_50 : decode cX12_weak 50 = .ok (.iconst (-1), 1) := by decide +kernel
theorem dX12_weak_62 : decode cX12_weak 62 = .ok (.iconst 0, 1) := by decide +kernel
theorem dX12_weak_66 : decode cX12_weak 66 = .ok (.ifCond .eq 5, 3) := by decide +kernel
theorem dX12_weak_71 : decode cX12_weak 71 = .ok (.aload_n 0, 1) := by decide +kernel
theorem dX12_weak_72 : decode cX12_weak 72 = .ok (.aload_n 0, 1) := by decide +kernel
theorem dX12_weak_73 : decode cX12_weak 73 = .ok (.getfield 71, 3) := by decide +kernel
theorem dX12_weak_76 : decode cX12_weak 76 = .ok (.iload_n 1, 1) := by decide +kernel
theorem dX12_weak_77 : decode cX12_weak 77 = .ok (.iaload, 1) := by decide +kernel
theorem dX12_weak_63 : decode cX12_weak 63 = .ok (.invokevirtual 110, 3) := by decide +kernel
theorem dX12_weak_54 : decode cX12_weak 54 = .ok (.iload_n 3, 1) := by decide +kernel
theorem dX12_weak_55 : decode cX12_weak 55 = .ok (.ifCond .ge 7, 3) := by decide +kernel
theorem dX12_weak_58 : decode cX12_weak 58 = .ok (.iconst 3, 1) := by decide +kernel
theorem dX12_weak_59 : decode cX12_weak 59 = .ok (.goto 4, 3) := by decide +kernel
theorem dX12_weak_69 : decode cX12_weak 69 = .ok (.iconst 0, 1) := by decide +kernel
theorem dX12_weak_70 : decode cX12_weak 70 = .ok (.ireturn, 1) := by decide +kernel
theorem dX12_weak_51 : decode cX12_weak 51 = .ok (.if_icmp .eq 11, 3) := by decide +kernel
theorem dX12_weak_35 : decode cX12_weak 35 = .ok (.if_icmp .ne 7, 3) := by decide +kernel
theorem dX12_weak_20 : decode cX12_weak 20 = .ok (.iconst 2, 1) := by decide +kernel
theorem dX12_weak_21 : decode cX12_weak 21 = .ok (.goto 4, 3) := by decide +kernel
theorem dX12_weak_17 : decode cX12_weak 17 = .ok (.ifCond .ne 7, 3) := by decide +kernel
theorem dX12_weak_3 : decode cX12_weak 3 = .ok (.invokevirtual 493, 3) := by decide +kernel
theorem dX11_strong_0 : decode cX11_strong 0 = .ok (.iload_n 1, 1) := by decide +kernel
theorem dX11_strong_4 : decode cX11_strong 4 = .ok (.ifCond .eq 10, 3) := by decide +kernel
theorem dX11_strong_14 : decode cX11_strong 14 = .ok (.new 79, 3) := by decide +kernel
theorem dX11_strong_17 : decode cX11_strong 17 = .ok (.dup, 1) := by decide +kernel
theorem dX11_strong_18 : decode cX11_strong 18 = .ok (.invokespecial 81, 3) := by decide +kernel
theorem dX11_strong_21 : decode cX11_strong 21 = .ok (.athrow, 1) := by decide +kernel
theorem dX11_strong_7 : decode cX11_strong 7 = .ok (.iload_n 2, 1) := by decide +kernel
theorem dX11_strong_11 : decode cX11_strong 11 = .ok (.ifCond .ne 11, 3) := by decide +kernel
theorem dX11_strong_22 : decode cX11_strong 22 = .ok (.aload_n 0, 1) := by decide +kernel
theorem dX11_strong_26 : decode cX11_strong 26 = .ok (.astore_n 3, 1) := by decide +kernel
theorem dX11_strong_27 : decode cX11_strong 27 = .ok (.aload_n 0, 1) := by decide +kernel
theorem dX11_strong_28 : decode cX11_strong 28 = .ok (.getfield 26, 3) := by decide +kernel
theorem dX11_strong_31 : decode cX11_strong 31 = .ok (.aload_n 0, 1) := by decide +kernel
theorem dX11_strong_32 : decode cX11_strong 32 = .ok (.getfield 26, 3) := by decide +kernel
theorem dX11_strong_35 : decode cX11_strong 35 = .ok (.getfield 173, 3) := by decide +kernel
theorem dX11_strong_38 : decode cX11_strong 38 = .ok (.iload_n 1, 1) := by decide +kernel
theorem dX11_strong_39 : decode cX11_strong 39 = .ok (.iaload, 1) := by decide +kernel
theorem dX11_strong_23 : decode cX11_strong 23 = .ok (.invokevirtual 119, 3) := by decide +kernel
theorem dX11_strong_8 : decode cX11_strong 8 = .ok (.invokestatic 109, 3) := by decide +kernel
theorem dX11_strong_1 : decode cX11_strong 1 = .ok (.invokestatic 109, 3) := by decide +kernel
theorem dX12_strong_0 : decode cX12_strong 0 = .ok (.aload_n 0, 1) := by decide +kernel
theorem dX12_strong_1 : decode cX12_strong 1 = .ok (.aload_n 0, 1) := by decide +kernel
theorem dX12_strong_2 : decode cX12_strong 2 = .ok (.iload_n 1, 1) := by decide +kernel
theorem dX12_strong_6 : decode cX12_strong 6 = .ok (.ifCond .eq 11, 3) := by decide +kernel
theorem dX12_strong_17 : decode cX12_strong 17 = .ok (.iconst 1, 1) := by decide +kernel
theorem dX12_strong_18 : decode cX12_strong 18 = .ok (.goto 15, 3) := by decide +kernel
theorem dX12_strong_36 : decode cX12_strong 36 = .ok (.ifCond .eq 5, 3) := by decide +kernel
theorem dX12_strong_39 : decode cX12_strong 39 = .ok (.iconst 0, 1) := by decide +kernel
theorem dX12_strong_40 : decode cX12_strong 40 = .ok (.ireturn, 1) := by decide +kernel
theorem dX12_strong_33 : decode cX12_strong 33 = .ok (.invokevirtual 110, 3) := by decide +kernel
theorem dX12_strong_9 : decode cX12_strong 9 = .ok (.aload_n 0, 1) := by decide +kernel
theorem dX12_strong_10 : decode cX12_strong 10 = .ok (.iload_n 2, 1) := by decide +kernel
theorem dX12_strong_14 : decode cX12_strong 14 = .ok (.ifCond .ne 7, 3) := by decide +kernel
theorem dX12_strong_21 : decode cX12_strong 21 = .ok (.aload_n 0, 1) := by decide +kernel
theorem dX12_strong_22 : decode cX12_strong 22 = .ok (.getfield 237, 3) := by decide +kernel
theorem dX12_strong_32 : decode cX12_strong 32 = .ok (.iconst 0, 1) := by decide +kernel
theorem dX12_strong_41 : decode cX12_strong 41 = .ok (.aload_n 0, 1) := by decide +kernel
theorem dX12_strong_42 : decode cX12_strong 42 = .ok (.getfield 71, 3) := by decide +kernel
theorem dX12_strong_45 : decode cX12_strong 45 = .ok (.iload_n 1, 1) := by decide +kernel
theorem dX12_strong_47 : decode cX12_strong 47 = .ok (.istore_n 3, 1) := by decide +kernel
theorem dX12_strong_48 : decode cX12_strong 48 = .ok (.iload_n 3, 1) := by decide +kernel
theorem dX12_strong_54 : decode cX12_strong 54 = .ok (.aload_n 0, 1) := by decide +kernel
theorem dX12_strong_55 : decode cX12_strong 55 = .ok (.getfield 270, 3) := by decide +kernel
theorem dX12_strong_66 : decode cX12_strong 66 = .ok (.aload_n 0, 1) := by decide +kernel
theorem dX12_strong_67 : decode cX12_strong 67 = .ok (.iload_n 2, 1) := by decide +kernel
theorem dX12_strong_68 : decode cX12_strong 68 = .ok (.iload_n 3, 1) := by decide +kernel
theorem dX12_strong_61 : decode cX12_strong 61 = .ok (.aload_n 0, 1) := by decide +kernel
theorem dX12_strong_62 : decode cX12_strong 62 = .ok (.iload_n 3, 1) := by decide +kernel
theorem dX12_strong_58 : decode cX12_strong 58 = .ok (.ifCond .eq 8, 3) := by decide +kernel
theorem dX12_strong_52 : decode cX12_strong 52 = .ok (.iconst (-1), 1) := by decide +kernel
theorem dX12_strong_53 : decode cX12_strong 53 = .ok (.ireturn, 1) := by decide +kernel
theorem dX12_strong_49 : decode cX12_strong 49 = .ok (.ifCond .ge 5, 3) := by decide +kernel
theorem dX12_strong_46 : decode cX12_strong 46 = .ok (.iaload, 1) := by decide +kernel
theorem dX12_strong_28 : decode cX12_strong 28 = .ok (.iconst 2, 1) := by decide +kernel
theorem dX12_strong_29 : decode cX12_strong 29 = .ok (.goto 4, 3) := by decide +kernel
theorem dX12_strong_25 : decode cX12_strong 25 = .ok (.ifCond .ne 7, 3) := by decide +kernel
theorem dX12_strong_11 : decode cX12_strong 11 = .ok (.invokevirtual 493, 3) := by decide +kernel
theorem dX12_strong_3 : decode cX12_strong 3 = .ok (.invokevirtual 493, 3) := by decide +kernel
theorem dX11_hold_0 : decode cX11_hold 0 = .ok (.aload_n 0, 1) := by decide +kernel
theorem dX11_hold_4 : decode cX11_hold 4 = .ok (.astore_n 3, 1) := by decide +kernel
theorem dX11_hold_5 : decode cX11_hold 5 = .ok (.aload_n 0, 1) := by decide +kernel
theorem dX11_hold_6 : decode cX11_hold 6 = .ok (.iload_n 1, 1) := by decide +kernel
theorem dX11_hold_1 : decode cX11_hold 1 = .ok (.invokevirtual 119, 3) := by decide +kernel
theorem dX12_hold_0 : decode cX12_hold 0 = .ok (.aload_n 0, 1) := by decide +kernel
theorem dX12_hold_1 : decode cX12_hold 1 = .ok (.aload_n 0, 1) := by decide +kernel
theorem dX12_hold_2 : decode cX12_hold 2 = .ok (.getfield 237, 3) := by decide +kernel
theorem dX12_hold_12 : decode cX12_hold 12 = .ok (.iconst 0, 1) := by decide +kernel
theorem dX12_hold_16 : decode cX12_hold 16 = .ok (.ifCond .eq 5, 3) := by decide +kernel
theorem dX12_hold_21 : decode cX12_hold 21 = .ok (.aload_n 0, 1) := by decide +kernel
theorem dX12_hold_22 : decode cX12_hold 22 = .ok (.iload_n 1, 1) := by decide +kernel
theorem dX12_hold_13 : decode cX12_hold 13 = .ok (.invokevirtual 110, 3) := by decide +kernel
theorem dX12_hold_8 : decode cX12_hold 8 = .ok (.iconst 1, 1) := by decide +kernel
theorem dX12_hold_9 : decode cX12_hold 9 = .ok (.goto 4, 3) := by decide +kernel
theorem dX12_hold_19 : decode cX12_hold 19 = .ok (.iconst 0, 1) := by decide +kernel
theorem dX12_hold_20 : decode cX12_hold 20 = .ok (.ireturn, 1) := by decide +kernel
theorem dX12_hold_5 : decode cX12_hold 5 = .ok (.ifCond .ne 7, 3) := by decide +kernel
theorem dX11_wish_0 : decode cX11_wish 0 = .ok (.aload_n 0, 1) := by decide +kernel
theorem dX11_wish_4 : decode cX11_wish 4 = .ok (.pop, 1) := by decide +kernel
theorem dX11_wish_5 : decode cX11_wish 5 = .ok (.aload_n 0, 1) := by decide +kernel
theorem dX11_wish_6 : decode cX11_wish 6 = .ok (.iload_n 1, 1) := by decide +kernel
theorem dX11_wish_1 : decode cX11_wish 1 = .ok (.invokevirtual 119, 3) := by decide +kernel
theorem dX12_wish_0 : decode cX12_wish 0 = .ok (.aload_n 0, 1) := by decide +kernel
theorem dX12_wish_1 : decode cX12_wish 1 = .ok (.aload_n 0, 1) := by decide +kernel
theorem dX12_wish_2 : decode cX12_wish 2 = .ok (.getfield 237, 3) := by decide +kernel
theorem dX12_wish_12 : decode cX12_wish 12 = .ok (.iconst 0, 1) := by decide +kernel
theorem dX12_wish_16 : decode cX12_wish 16 = .ok (.ifCond .eq 5, 3) := by decide +kernel
theorem dX12_wish_21 : decode cX12_wish 21 = .ok (.aload_n 0, 1) := by decide +kernel
theorem dX12_wish_22 : decode cX12_wish 22 = .ok (.iload_n 1, 1) := by decide +kernel
