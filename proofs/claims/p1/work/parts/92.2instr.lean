/-! instructions, decoded -/
theorem dX12_wish_13 : decode cX12_wish 13 = .ok (.invokevirtual 110, 3) := by decide +kernel
theorem dX12_wish_8 : decode cX12_wish 8 = .ok (.iconst 1, 1) := by decide +kernel
theorem dX12_wish_9 : decode cX12_wish 9 = .ok (.goto 4, 3) := by decide +kernel
theorem dX12_wish_19 : decode cX12_wish 19 = .ok (.iconst 0, 1) := by decide +kernel
theorem dX12_wish_20 : decode cX12_wish 20 = .ok (.ireturn, 1) := by decide +kernel
theorem dX12_wish_5 : decode cX12_wish 5 = .ok (.ifCond .ne 7, 3) := by decide +kernel
theorem dX11_granted_0 : decode cX11_granted 0 = .ok (.iload_n 1, 1) := by decide +kernel
theorem dX11_granted_4 : decode cX11_granted 4 = .ok (.ifCond .ne 11, 3) := by decide +kernel
theorem dX11_granted_7 : decode cX11_granted 7 = .ok (.new 79, 3) := by decide +kernel
theorem dX11_granted_10 : decode cX11_granted 10 = .ok (.dup, 1) := by decide +kernel
theorem dX11_granted_11 : decode cX11_granted 11 = .ok (.invokespecial 81, 3) := by decide +kernel
theorem dX11_granted_14 : decode cX11_granted 14 = .ok (.athrow, 1) := by decide +kernel
theorem dX11_granted_15 : decode cX11_granted 15 = .ok (.aload_n 0, 1) := by decide +kernel
theorem dX11_granted_19 : decode cX11_granted 19 = .ok (.astore_n 2, 1) := by decide +kernel
theorem dX11_granted_20 : decode cX11_granted 20 = .ok (.aload_n 0, 1) := by decide +kernel
theorem dX11_granted_21 : decode cX11_granted 21 = .ok (.getfield 26, 3) := by decide +kernel
theorem dX11_granted_16 : decode cX11_granted 16 = .ok (.invokevirtual 119, 3) := by decide +kernel
theorem dX11_granted_1 : decode cX11_granted 1 = .ok (.invokestatic 109, 3) := by decide +kernel
theorem dX12_granted_0 : decode cX12_granted 0 = .ok (.aload_n 0, 1) := by decide +kernel
theorem dX12_granted_1 : decode cX12_granted 1 = .ok (.aload_n 0, 1) := by decide +kernel
theorem dX12_granted_2 : decode cX12_granted 2 = .ok (.iload_n 1, 1) := by decide +kernel
theorem dX12_granted_6 : decode cX12_granted 6 = .ok (.ifCond .ne 7, 3) := by decide +kernel
theorem dX12_granted_9 : decode cX12_granted 9 = .ok (.iconst 1, 1) := by decide +kernel
theorem dX12_granted_10 : decode cX12_granted 10 = .ok (.goto 15, 3) := by decide +kernel
theorem dX12_granted_28 : decode cX12_granted 28 = .ok (.ifCond .eq 5, 3) := by decide +kernel
theorem dX12_granted_31 : decode cX12_granted 31 = .ok (.iconst 0, 1) := by decide +kernel
theorem dX12_granted_32 : decode cX12_granted 32 = .ok (.ireturn, 1) := by decide +kernel
theorem dX12_granted_25 : decode cX12_granted 25 = .ok (.invokevirtual 110, 3) := by decide +kernel
theorem dX12_granted_13 : decode cX12_granted 13 = .ok (.aload_n 0, 1) := by decide +kernel
theorem dX12_granted_14 : decode cX12_granted 14 = .ok (.getfield 237, 3) := by decide +kernel
theorem dX12_granted_24 : decode cX12_granted 24 = .ok (.iconst 0, 1) := by decide +kernel
theorem dX12_granted_33 : decode cX12_granted 33 = .ok (.aload_n 0, 1) := by decide +kernel
theorem dX12_granted_34 : decode cX12_granted 34 = .ok (.getfield 261, 3) := by decide +kernel
theorem dX12_granted_42 : decode cX12_granted 42 = .ok (.aload_n 0, 1) := by decide +kernel
theorem dX12_granted_43 : decode cX12_granted 43 = .ok (.getfield 74, 3) := by decide +kernel
theorem dX12_granted_46 : decode cX12_granted 46 = .ok (.iconst 0, 1) := by decide +kernel
theorem dX12_granted_48 : decode cX12_granted 48 = .ok (.istore_n 2, 1) := by decide +kernel
theorem dX12_granted_49 : decode cX12_granted 49 = .ok (.aload_n 0, 1) := by decide +kernel
theorem dX12_granted_50 : decode cX12_granted 50 = .ok (.dup, 1) := by decide +kernel
theorem dX12_granted_51 : decode cX12_granted 51 = .ok (.getfield 261, 3) := by decide +kernel
theorem dX12_granted_54 : decode cX12_granted 54 = .ok (.iconst 1, 1) := by decide +kernel
theorem dX12_granted_55 : decode cX12_granted 55 = .ok (.isub, 1) := by decide +kernel
theorem dX12_granted_59 : decode cX12_granted 59 = .ok (.iconst 0, 1) := by decide +kernel
theorem dX12_granted_60 : decode cX12_granted 60 = .ok (.istore_n 3, 1) := by decide +kernel
theorem dX12_granted_56 : decode cX12_granted 56 = .ok (.putfield 261, 3) := by decide +kernel
theorem dX12_granted_47 : decode cX12_granted 47 = .ok (.iaload, 1) := by decide +kernel
theorem dX12_granted_40 : decode cX12_granted 40 = .ok (.iconst (-1), 1) := by decide +kernel
theorem dX12_granted_41 : decode cX12_granted 41 = .ok (.ireturn, 1) := by decide +kernel
theorem dX12_granted_37 : decode cX12_granted 37 = .ok (.ifCond .ne 5, 3) := by decide +kernel
theorem dX12_granted_20 : decode cX12_granted 20 = .ok (.iconst 2, 1) := by decide +kernel
theorem dX12_granted_21 : decode cX12_granted 21 = .ok (.goto 4, 3) := by decide +kernel
theorem dX12_granted_17 : decode cX12_granted 17 = .ok (.ifCond .ne 7, 3) := by decide +kernel
theorem dX12_granted_3 : decode cX12_granted 3 = .ok (.invokevirtual 493, 3) := by decide +kernel
theorem dX11_clean_0 : decode cX11_clean 0 = .ok (.aload_n 0, 1) := by decide +kernel
theorem dX11_clean_1 : decode cX11_clean 1 = .ok (.invokevirtual 119, 3) := by decide +kernel
theorem dX12_clean_0 : decode cX12_clean 0 = .ok (.aload_n 0, 1) := by decide +kernel
theorem dX12_clean_1 : decode cX12_clean 1 = .ok (.aload_n 0, 1) := by decide +kernel
theorem dX12_clean_2 : decode cX12_clean 2 = .ok (.getfield 237, 3) := by decide +kernel
theorem dX12_clean_12 : decode cX12_clean 12 = .ok (.iconst 0, 1) := by decide +kernel
theorem dX12_clean_16 : decode cX12_clean 16 = .ok (.ifCond .eq 5, 3) := by decide +kernel
theorem dX12_clean_21 : decode cX12_clean 21 = .ok (.aload_n 0, 1) := by decide +kernel
theorem dX12_clean_22 : decode cX12_clean 22 = .ok (.getfield 199, 3) := by decide +kernel
theorem dX12_clean_64 : decode cX12_clean 64 = .ok (.aload_n 0, 1) := by decide +kernel
theorem dX12_clean_25 : decode cX12_clean 25 = .ok (.tableswitch 82 1 6 #[39, 44, 49, 82, 61, 77], 39) := by decide +kernel
theorem dX12_clean_69 : decode cX12_clean 69 = .ok (.aload_n 0, 1) := by decide +kernel
theorem dX12_clean_74 : decode cX12_clean 74 = .ok (.aload_n 0, 1) := by decide +kernel
theorem dX12_clean_107 : decode cX12_clean 107 = .ok (.aload_n 0, 1) := by decide +kernel
theorem dX12_clean_86 : decode cX12_clean 86 = .ok (.aload_n 0, 1) := by decide +kernel
theorem dX12_clean_87 : decode cX12_clean 87 = .ok (.getfield 270, 3) := by decide +kernel
theorem dX12_clean_97 : decode cX12_clean 97 = .ok (.aload_n 0, 1) := by decide +kernel
theorem dX12_clean_93 : decode cX12_clean 93 = .ok (.aload_n 0, 1) := by decide +kernel
theorem dX12_clean_90 : decode cX12_clean 90 = .ok (.ifCond .ne 7, 3) := by decide +kernel
theorem dX12_clean_102 : decode cX12_clean 102 = .ok (.aload_n 0, 1) := by decide +kernel
theorem dX12_clean_13 : decode cX12_clean 13 = .ok (.invokevirtual 110, 3) := by decide +kernel
theorem dX12_clean_8 : decode cX12_clean 8 = .ok (.iconst 1, 1) := by decide +kernel
theorem dX12_clean_9 : decode cX12_clean 9 = .ok (.goto 4, 3) := by decide +kernel
theorem dX12_clean_19 : decode cX12_clean 19 = .ok (.iconst 0, 1) := by decide +kernel
theorem dX12_clean_20 : decode cX12_clean 20 = .ok (.ireturn, 1) := by decide +kernel
theorem dX12_clean_5 : decode cX12_clean 5 = .ok (.ifCond .ne 7, 3) := by decide +kernel
theorem dX11_step_0 : decode cX11_step 0 = .ok (.iload_n 1, 1) := by decide +kernel
theorem dX11_step_11 : decode cX11_step 11 = .ok (.new 79, 3) := by decide +kernel
theorem dX11_step_14 : decode cX11_step 14 = .ok (.dup, 1) := by decide +kernel
theorem dX11_step_15 : decode cX11_step 15 = .ok (.invokespecial 81, 3) := by decide +kernel
theorem dX11_step_18 : decode cX11_step 18 = .ok (.athrow, 1) := by decide +kernel
theorem dX11_step_4 : decode cX11_step 4 = .ok (.iload_n 1, 1) := by decide +kernel
theorem dX11_step_5 : decode cX11_step 5 = .ok (.sipush 1000, 3) := by decide +kernel
theorem dX11_step_19 : decode cX11_step 19 = .ok (.aload_n 0, 1) := by decide +kernel
theorem dX11_step_23 : decode cX11_step 23 = .ok (.astore_n 3, 1) := by decide +kernel
theorem dX11_step_24 : decode cX11_step 24 = .ok (.aload_n 3, 1) := by decide +kernel
theorem dX11_step_20 : decode cX11_step 20 = .ok (.invokevirtual 119, 3) := by decide +kernel
theorem dX11_step_8 : decode cX11_step 8 = .ok (.if_icmp .le 11, 3) := by decide +kernel
theorem dX11_step_1 : decode cX11_step 1 = .ok (.ifCond .lt 10, 3) := by decide +kernel
theorem dX12_step_0 : decode cX12_step 0 = .ok (.aload_n 0, 1) := by decide +kernel
theorem dX12_step_1 : decode cX12_step 1 = .ok (.iload_n 1, 1) := by decide +kernel
theorem dX12_step_12 : decode cX12_step 12 = .ok (.iconst 1, 1) := by decide +kernel
theorem dX12_step_13 : decode cX12_step 13 = .ok (.goto 27, 3) := by decide +kernel
theorem dX12_step_43 : decode cX12_step 43 = .ok (.ifCond .eq 5, 3) := by decide +kernel
theorem dX12_step_46 : decode cX12_step 46 = .ok (.iconst 0, 1) := by decide +kernel
theorem dX12_step_47 : decode cX12_step 47 = .ok (.ireturn, 1) := by decide +kernel
theorem dX12_step_40 : decode cX12_step 40 = .ok (.invokevirtual 110, 3) := by decide +kernel
theorem dX12_step_5 : decode cX12_step 5 = .ok (.iload_n 1, 1) := by decide +kernel
theorem dX12_step_6 : decode cX12_step 6 = .ok (.sipush 1000, 3) := by decide +kernel
theorem dX12_step_16 : decode cX12_step 16 = .ok (.aload_n 0, 1) := by decide +kernel
theorem dX12_step_17 : decode cX12_step 17 = .ok (.getfield 237, 3) := by decide +kernel
theorem dX12_step_27 : decode cX12_step 27 = .ok (.aload_n 0, 1) := by decide +kernel
theorem dX12_step_28 : decode cX12_step 28 = .ok (.getfield 199, 3) := by decide +kernel
theorem dX12_step_31 : decode cX12_step 31 = .ok (.iconst 5, 1) := by decide +kernel
theorem dX12_step_39 : decode cX12_step 39 = .ok (.iconst 0, 1) := by decide +kernel
theorem dX12_step_48 : decode cX12_step 48 = .ok (.aload_n 0, 1) := by decide +kernel
theorem dX12_step_49 : decode cX12_step 49 = .ok (.getfield 270, 3) := by decide +kernel
theorem dX12_step_57 : decode cX12_step 57 = .ok (.aload_n 0, 1) := by decide +kernel
theorem dX12_step_58 : decode cX12_step 58 = .ok (.iload_n 1, 1) := by decide +kernel
theorem dX12_step_55 : decode cX12_step 55 = .ok (.iconst 0, 1) := by decide +kernel
theorem dX12_step_56 : decode cX12_step 56 = .ok (.ireturn, 1) := by decide +kernel
theorem dX12_step_52 : decode cX12_step 52 = .ok (.ifCond .ne 5, 3) := by decide +kernel
theorem dX12_step_35 : decode cX12_step 35 = .ok (.iconst 3, 1) := by decide +kernel
theorem dX12_step_36 : decode cX12_step 36 = .ok (.goto 4, 3) := by decide +kernel
theorem dX12_step_32 : decode cX12_step 32 = .ok (.if_icmp .eq 7, 3) := by decide +kernel
theorem dX12_step_23 : decode cX12_step 23 = .ok (.iconst 2, 1) := by decide +kernel
theorem dX12_step_24 : decode cX12_step 24 = .ok (.goto 16, 3) := by decide +kernel
theorem dX12_step_20 : decode cX12_step 20 = .ok (.ifCond .ne 7, 3) := by decide +kernel
theorem dX12_step_9 : decode cX12_step 9 = .ok (.if_icmp .le 7, 3) := by decide +kernel
theorem dX12_step_2 : decode cX12_step 2 = .ok (.ifCond .lt 10, 3) := by decide +kernel
theorem dX11_about_0 : decode cX11_about 0 = .ok (.iload_n 2, 1) := by decide +kernel
theorem dX11_about_10 : decode cX11_about 10 = .ok (.new 79, 3) := by decide +kernel
theorem dX11_about_13 : decode cX11_about 13 = .ok (.dup, 1) := by decide +kernel
theorem dX11_about_14 : decode cX11_about 14 = .ok (.invokespecial 81, 3) := by decide +kernel
theorem dX11_about_17 : decode cX11_about 17 = .ok (.athrow, 1) := by decide +kernel
theorem dX11_about_4 : decode cX11_about 4 = .ok (.iload_n 2, 1) := by decide +kernel
theorem dX11_about_5 : decode cX11_about 5 = .ok (.bipush 7, 2) := by decide +kernel
theorem dX11_about_18 : decode cX11_about 18 = .ok (.aload_n 0, 1) := by decide +kernel
theorem dX11_about_22 : decode cX11_about 22 = .ok (.astore_n 3, 1) := by decide +kernel
theorem dX11_about_23 : decode cX11_about 23 = .ok (.aload_n 0, 1) := by decide +kernel
theorem dX11_about_24 : decode cX11_about 24 = .ok (.iload_n 1, 1) := by decide +kernel
theorem dX11_about_19 : decode cX11_about 19 = .ok (.invokevirtual 119, 3) := by decide +kernel
theorem dX11_about_7 : decode cX11_about 7 = .ok (.if_icmp .le 11, 3) := by decide +kernel
theorem dX11_about_1 : decode cX11_about 1 = .ok (.ifCond .lt 9, 3) := by decide +kernel
theorem dX12_about_0 : decode cX12_about 0 = .ok (.aload_n 0, 1) := by decide +kernel
theorem dX12_about_1 : decode cX12_about 1 = .ok (.iload_n 2, 1) := by decide +kernel
theorem dX12_about_11 : decode cX12_about 11 = .ok (.iconst 1, 1) := by decide +kernel
theorem dX12_about_12 : decode cX12_about 12 = .ok (.goto 15, 3) := by decide +kernel
theorem dX12_about_30 : decode cX12_about 30 = .ok (.ifCond .eq 5, 3) := by decide +kernel
theorem dX12_about_33 : decode cX12_about 33 = .ok (.iconst 0, 1) := by decide +kernel
theorem dX12_about_34 : decode cX12_about 34 = .ok (.ireturn, 1) := by decide +kernel
theorem dX12_about_27 : decode cX12_about 27 = .ok (.invokevirtual 110, 3) := by decide +kernel
theorem dX12_about_5 : decode cX12_about 5 = .ok (.iload_n 2, 1) := by decide +kernel
theorem dX12_about_6 : decode cX12_about 6 = .ok (.bipush 7, 2) := by decide +kernel
theorem dX12_about_15 : decode cX12_about 15 = .ok (.aload_n 0, 1) := by decide +kernel
theorem dX12_about_16 : decode cX12_about 16 = .ok (.getfield 237, 3) := by decide +kernel
theorem dX12_about_26 : decode cX12_about 26 = .ok (.iconst 0, 1) := by decide +kernel
theorem dX12_about_35 : decode cX12_about 35 = .ok (.aload_n 0, 1) := by decide +kernel
theorem dX12_about_36 : decode cX12_about 36 = .ok (.iload_n 1, 1) := by decide +kernel
theorem dX12_about_22 : decode cX12_about 22 = .ok (.iconst 2, 1) := by decide +kernel
theorem dX12_about_23 : decode cX12_about 23 = .ok (.goto 4, 3) := by decide +kernel
theorem dX12_about_19 : decode cX12_about 19 = .ok (.ifCond .ne 7, 3) := by decide +kernel
theorem dX12_about_8 : decode cX12_about 8 = .ok (.if_icmp .le 7, 3) := by decide +kernel
theorem dX12_about_2 : decode cX12_about 2 = .ok (.ifCond .lt 9, 3) := by decide +kernel
theorem dX11_block_0 : decode cX11_block 0 = .ok (.iload_n 2, 1) := by decide +kernel
theorem dX11_block_9 : decode cX11_block 9 = .ok (.new 79, 3) := by decide +kernel
theorem dX11_block_12 : decode cX11_block 12 = .ok (.dup, 1) := by decide +kernel
theorem dX11_block_13 : decode cX11_block 13 = .ok (.invokespecial 81, 3) := by decide +kernel
theorem dX11_block_16 : decode cX11_block 16 = .ok (.athrow, 1) := by decide +kernel
theorem dX11_block_4 : decode cX11_block 4 = .ok (.iload_n 2, 1) := by decide +kernel
theorem dX11_block_5 : decode cX11_block 5 = .ok (.iconst 1, 1) := by decide +kernel
theorem dX11_block_17 : decode cX11_block 17 = .ok (.aload_n 0, 1) := by decide +kernel
theorem dX11_block_21 : decode cX11_block 21 = .ok (.astore 4, 2) := by decide +kernel
theorem dX11_block_23 : decode cX11_block 23 = .ok (.aload 4, 2) := by decide +kernel
theorem dX11_block_18 : decode cX11_block 18 = .ok (.invokevirtual 119, 3) := by decide +kernel
theorem dX11_block_6 : decode cX11_block 6 = .ok (.if_icmp .le 11, 3) := by decide +kernel
theorem dX11_block_1 : decode cX11_block 1 = .ok (.ifCond .lt 8, 3) := by decide +kernel
theorem dX12_block_0 : decode cX12_block 0 = .ok (.aload_n 0, 1) := by decide +kernel
theorem dX12_block_1 : decode cX12_block 1 = .ok (.getfield 199, 3) := by decide +kernel
theorem dX12_block_23 : decode cX12_block 23 = .ok (.iconst 1, 1) := by decide +kernel
theorem dX12_block_24 : decode cX12_block 24 = .ok (.goto 4, 3) := by decide +kernel
theorem dX12_block_28 : decode cX12_block 28 = .ok (.istore_n 3, 1) := by decide +kernel
theorem dX12_block_29 : decode cX12_block 29 = .ok (.aload_n 0, 1) := by decide +kernel
theorem dX12_block_30 : decode cX12_block 30 = .ok (.iload_n 2, 1) := by decide +kernel
theorem dX12_block_39 : decode cX12_block 39 = .ok (.iconst 1, 1) := by decide +kernel
theorem dX12_block_40 : decode cX12_block 40 = .ok (.goto 23, 3) := by decide +kernel
theorem dX12_block_66 : decode cX12_block 66 = .ok (.ifCond .eq 5, 3) := by decide +kernel
theorem dX12_block_69 : decode cX12_block 69 = .ok (.iconst 0, 1) := by decide +kernel
theorem dX12_block_70 : decode cX12_block 70 = .ok (.ireturn, 1) := by decide +kernel
theorem dX12_block_63 : decode cX12_block 63 = .ok (.invokevirtual 110, 3) := by decide +kernel
theorem dX12_block_34 : decode cX12_block 34 = .ok (.iload_n 2, 1) := by decide +kernel
theorem dX12_block_35 : decode cX12_block 35 = .ok (.iconst 1, 1) := by decide +kernel
theorem dX12_block_43 : decode cX12_block 43 = .ok (.aload_n 0, 1) := by decide +kernel
theorem dX12_block_44 : decode cX12_block 44 = .ok (.getfield 237, 3) := by decide +kernel
theorem dX12_block_54 : decode cX12_block 54 = .ok (.iload_n 3, 1) := by decide +kernel
theorem dX12_block_55 : decode cX12_block 55 = .ok (.ifCond .ne 7, 3) := by decide +kernel
theorem dX12_block_62 : decode cX12_block 62 = .ok (.iconst 0, 1) := by decide +kernel
theorem dX12_block_71 : decode cX12_block 71 = .ok (.aload_n 0, 1) := by decide +kernel
theorem dX12_block_72 : decode cX12_block 72 = .ok (.iconst 0, 1) := by decide +kernel
theorem dX12_block_73 : decode cX12_block 73 = .ok (.aload_n 0, 1) := by decide +kernel
theorem dX12_block_74 : decode cX12_block 74 = .ok (.getfield 202, 3) := by decide +kernel
theorem dX12_block_50 : decode cX12_block 50 = .ok (.iconst 2, 1) := by decide +kernel
theorem dX12_block_51 : decode cX12_block 51 = .ok (.goto 12, 3) := by decide +kernel
theorem dX12_block_47 : decode cX12_block 47 = .ok (.ifCond .ne 7, 3) := by decide +kernel
theorem dX12_block_36 : decode cX12_block 36 = .ok (.if_icmp .le 7, 3) := by decide +kernel
theorem dX12_block_31 : decode cX12_block 31 = .ok (.ifCond .lt 8, 3) := by decide +kernel
theorem dX12_block_7 : decode cX12_block 7 = .ok (.aload_n 0, 1) := by decide +kernel
theorem dX12_block_8 : decode cX12_block 8 = .ok (.getfield 199, 3) := by decide +kernel
theorem dX12_block_11 : decode cX12_block 11 = .ok (.iconst 4, 1) := by decide +kernel
theorem dX12_block_15 : decode cX12_block 15 = .ok (.aload_n 0, 1) := by decide +kernel
theorem dX12_block_16 : decode cX12_block 16 = .ok (.getfield 199, 3) := by decide +kernel
theorem dX12_block_19 : decode cX12_block 19 = .ok (.iconst 5, 1) := by decide +kernel
theorem dX12_block_27 : decode cX12_block 27 = .ok (.iconst 0, 1) := by decide +kernel
theorem dX12_block_58 : decode cX12_block 58 = .ok (.iconst 3, 1) := by decide +kernel
theorem dX12_block_59 : decode cX12_block 59 = .ok (.goto 4, 3) := by decide +kernel
theorem dX12_block_20 : decode cX12_block 20 = .ok (.if_icmp .ne 7, 3) := by decide +kernel
theorem dX12_block_12 : decode cX12_block 12 = .ok (.if_icmp .eq 11, 3) := by decide +kernel
theorem dX12_block_4 : decode cX12_block 4 = .ok (.ifCond .eq 19, 3) := by decide +kernel
theorem dX11_count_0 : decode cX11_count 0 = .ok (.iload_n 1, 1) := by decide +kernel
theorem dX11_count_10 : decode cX11_count 10 = .ok (.new 79, 3) := by decide +kernel
theorem dX11_count_13 : decode cX11_count 13 = .ok (.dup, 1) := by decide +kernel
theorem dX11_count_14 : decode cX11_count 14 = .ok (.invokespecial 81, 3) := by decide +kernel
theorem dX11_count_17 : decode cX11_count 17 = .ok (.athrow, 1) := by decide +kernel
theorem dX11_count_4 : decode cX11_count 4 = .ok (.iload_n 1, 1) := by decide +kernel
theorem dX11_count_5 : decode cX11_count 5 = .ok (.bipush 13, 2) := by decide +kernel
theorem dX11_count_18 : decode cX11_count 18 = .ok (.iload_n 1, 1) := by decide +kernel
theorem dX11_count_27 : decode cX11_count 27 = .ok (.iload_n 1, 1) := by decide +kernel
theorem dX11_count_28 : decode cX11_count 28 = .ok (.iconst 1, 1) := by decide +kernel
theorem dX11_count_37 : decode cX11_count 37 = .ok (.aload_n 0, 1) := by decide +kernel
theorem dX11_count_41 : decode cX11_count 41 = .ok (.astore_n 2, 1) := by decide +kernel
theorem dX11_count_42 : decode cX11_count 42 = .ok (.iload_n 1, 1) := by decide +kernel
theorem dX11_count_100 : decode cX11_count 100 = .ok (.aload_n 0, 1) := by decide +kernel
theorem dX11_count_101 : decode cX11_count 101 = .ok (.getfield 26, 3) := by decide +kernel
theorem dX11_count_104 : decode cX11_count 104 = .ok (.getfield 238, 3) := by decide +kernel
theorem dX11_count_107 : decode cX11_count 107 = .ok (.ireturn, 1) := by decide +kernel
theorem dX11_count_43 : decode cX11_count 43 = .ok (.tableswitch 144 2 12 #[57, 65, 73, 81, 89, 97, 105, 113, 121, 126, 131], 57) := by decide +kernel
theorem dX11_count_108 : decode cX11_count 108 = .ok (.aload_n 0, 1) := by decide +kernel
theorem dX11_count_109 : decode cX11_count 109 = .ok (.getfield 26, 3) := by decide +kernel
theorem dX11_count_112 : decode cX11_count 112 = .ok (.getfield 241, 3) := by decide +kernel
theorem dX11_count_115 : decode cX11_count 115 = .ok (.ireturn, 1) := by decide +kernel
theorem dX11_count_116 : decode cX11_count 116 = .ok (.aload_n 0, 1) := by decide +kernel
theorem dX11_count_117 : decode cX11_count 117 = .ok (.getfield 26, 3) := by decide +kernel
theorem dX11_count_120 : decode cX11_count 120 = .ok (.getfield 244, 3) := by decide +kernel
theorem dX11_count_123 : decode cX11_count 123 = .ok (.ireturn, 1) := by decide +kernel
theorem dX11_count_124 : decode cX11_count 124 = .ok (.aload_n 0, 1) := by decide +kernel
theorem dX11_count_125 : decode cX11_count 125 = .ok (.getfield 26, 3) := by decide +kernel
theorem dX11_count_128 : decode cX11_count 128 = .ok (.getfield 247, 3) := by decide +kernel
theorem dX11_count_131 : decode cX11_count 131 = .ok (.ireturn, 1) := by decide +kernel
theorem dX11_count_132 : decode cX11_count 132 = .ok (.aload_n 0, 1) := by decide +kernel
theorem dX11_count_133 : decode cX11_count 133 = .ok (.getfield 26, 3) := by decide +kernel
theorem dX11_count_136 : decode cX11_count 136 = .ok (.getfield 250, 3) := by decide +kernel
theorem dX11_count_139 : decode cX11_count 139 = .ok (.ireturn, 1) := by decide +kernel
theorem dX11_count_140 : decode cX11_count 140 = .ok (.aload_n 0, 1) := by decide +kernel
theorem dX11_count_141 : decode cX11_count 141 = .ok (.getfield 26, 3) := by decide +kernel
theorem dX11_count_144 : decode cX11_count 144 = .ok (.getfield 253, 3) := by decide +kernel
theorem dX11_count_147 : decode cX11_count 147 = .ok (.ireturn, 1) := by decide +kernel
theorem dX11_count_148 : decode cX11_count 148 = .ok (.aload_n 0, 1) := by decide +kernel
theorem dX11_count_149 : decode cX11_count 149 = .ok (.getfield 26, 3) := by decide +kernel
theorem dX11_count_152 : decode cX11_count 152 = .ok (.getfield 256, 3) := by decide +kernel
theorem dX11_count_155 : decode cX11_count 155 = .ok (.ireturn, 1) := by decide +kernel
theorem dX11_count_156 : decode cX11_count 156 = .ok (.aload_n 0, 1) := by decide +kernel
theorem dX11_count_157 : decode cX11_count 157 = .ok (.getfield 26, 3) := by decide +kernel
theorem dX11_count_160 : decode cX11_count 160 = .ok (.getfield 259, 3) := by decide +kernel
theorem dX11_count_163 : decode cX11_count 163 = .ok (.ireturn, 1) := by decide +kernel
theorem dX11_count_164 : decode cX11_count 164 = .ok (.aload_n 2, 1) := by decide +kernel
theorem dX11_count_169 : decode cX11_count 169 = .ok (.aload_n 2, 1) := by decide +kernel
theorem dX11_count_174 : decode cX11_count 174 = .ok (.aload_n 2, 1) := by decide +kernel
theorem dX11_count_187 : decode cX11_count 187 = .ok (.aload_n 2, 1) := by decide +kernel
theorem dX11_count_38 : decode cX11_count 38 = .ok (.invokevirtual 119, 3) := by decide +kernel
theorem dX11_count_32 : decode cX11_count 32 = .ok (.aload_n 0, 1) := by decide +kernel
theorem dX11_count_33 : decode cX11_count 33 = .ok (.getfield 82, 3) := by decide +kernel
theorem dX11_count_36 : decode cX11_count 36 = .ok (.ireturn, 1) := by decide +kernel
theorem dX11_count_29 : decode cX11_count 29 = .ok (.if_icmp .ne 8, 3) := by decide +kernel
theorem dX11_count_22 : decode cX11_count 22 = .ok (.aload_n 0, 1) := by decide +kernel
theorem dX11_count_23 : decode cX11_count 23 = .ok (.getfield 68, 3) := by decide +kernel
theorem dX11_count_26 : decode cX11_count 26 = .ok (.ireturn, 1) := by decide +kernel
theorem dX11_count_19 : decode cX11_count 19 = .ok (.ifCond .ne 8, 3) := by decide +kernel
theorem dX11_count_7 : decode cX11_count 7 = .ok (.if_icmp .le 11, 3) := by decide +kernel
theorem dX11_count_1 : decode cX11_count 1 = .ok (.ifCond .lt 9, 3) := by decide +kernel
theorem dX12_count_0 : decode cX12_count 0 = .ok (.aload_n 0, 1) := by decide +kernel
theorem dX12_count_1 : decode cX12_count 1 = .ok (.iload_n 1, 1) := by decide +kernel
theorem dX12_count_11 : decode cX12_count 11 = .ok (.iconst 1, 1) := by decide +kernel
theorem dX12_count_12 : decode cX12_count 12 = .ok (.goto 20, 3) := by decide +kernel
theorem dX12_count_35 : decode cX12_count 35 = .ok (.ifCond .eq 5, 3) := by decide +kernel
theorem dX12_count_38 : decode cX12_count 38 = .ok (.iconst 0, 1) := by decide +kernel
theorem dX12_count_39 : decode cX12_count 39 = .ok (.ireturn, 1) := by decide +kernel
theorem dX12_count_32 : decode cX12_count 32 = .ok (.invokevirtual 110, 3) := by decide +kernel
theorem dX12_count_5 : decode cX12_count 5 = .ok (.iload_n 1, 1) := by decide +kernel
theorem dX12_count_6 : decode cX12_count 6 = .ok (.bipush 13, 2) := by decide +kernel
theorem dX12_count_15 : decode cX12_count 15 = .ok (.iload_n 1, 1) := by decide +kernel
theorem dX12_count_16 : decode cX12_count 16 = .ok (.iconst 1, 1) := by decide +kernel
theorem dX12_count_31 : decode cX12_count 31 = .ok (.iconst 0, 1) := by decide +kernel
theorem dX12_count_40 : decode cX12_count 40 = .ok (.iload_n 1, 1) := by decide +kernel
theorem dX12_count_108 : decode cX12_count 108 = .ok (.aload_n 0, 1) := by decide +kernel
theorem dX12_count_109 : decode cX12_count 109 = .ok (.getfield 107, 3) := by decide +kernel
theorem dX12_count_112 : decode cX12_count 112 = .ok (.ireturn, 1) := by decide +kernel
theorem dX12_count_41 : decode cX12_count 41 = .ok (.tableswitch 254 0 12 #[67, 72, 77, 82, 87, 92, 97, 102, 107, 112, 117, 177, 241], 67) := by decide +kernel
theorem dX12_count_113 : decode cX12_count 113 = .ok (.aload_n 0, 1) := by decide +kernel
theorem dX12_count_114 : decode cX12_count 114 = .ok (.getfield 118, 3) := by decide +kernel
theorem dX12_count_117 : decode cX12_count 117 = .ok (.ireturn, 1) := by decide +kernel
theorem dX12_count_118 : decode cX12_count 118 = .ok (.aload_n 0, 1) := by decide +kernel
theorem dX12_count_119 : decode cX12_count 119 = .ok (.getfield 240, 3) := by decide +kernel
theorem dX12_count_122 : decode cX12_count 122 = .ok (.ireturn, 1) := by decide +kernel
theorem dX12_count_123 : decode cX12_count 123 = .ok (.aload_n 0, 1) := by decide +kernel
theorem dX12_count_124 : decode cX12_count 124 = .ok (.getfield 243, 3) := by decide +kernel
theorem dX12_count_127 : decode cX12_count 127 = .ok (.ireturn, 1) := by decide +kernel
theorem dX12_count_128 : decode cX12_count 128 = .ok (.aload_n 0, 1) := by decide +kernel
theorem dX12_count_129 : decode cX12_count 129 = .ok (.getfield 246, 3) := by decide +kernel
theorem dX12_count_132 : decode cX12_count 132 = .ok (.ireturn, 1) := by decide +kernel
theorem dX12_count_133 : decode cX12_count 133 = .ok (.aload_n 0, 1) := by decide +kernel
theorem dX12_count_134 : decode cX12_count 134 = .ok (.getfield 249, 3) := by decide +kernel
theorem dX12_count_137 : decode cX12_count 137 = .ok (.ireturn, 1) := by decide +kernel
theorem dX12_count_138 : decode cX12_count 138 = .ok (.aload_n 0, 1) := by decide +kernel
theorem dX12_count_139 : decode cX12_count 139 = .ok (.getfield 252, 3) := by decide +kernel
theorem dX12_count_142 : decode cX12_count 142 = .ok (.ireturn, 1) := by decide +kernel
theorem dX12_count_143 : decode cX12_count 143 = .ok (.aload_n 0, 1) := by decide +kernel
theorem dX12_count_144 : decode cX12_count 144 = .ok (.getfield 255, 3) := by decide +kernel
theorem dX12_count_147 : decode cX12_count 147 = .ok (.ireturn, 1) := by decide +kernel
theorem dX12_count_148 : decode cX12_count 148 = .ok (.aload_n 0, 1) := by decide +kernel
theorem dX12_count_149 : decode cX12_count 149 = .ok (.getfield 258, 3) := by decide +kernel
theorem dX12_count_152 : decode cX12_count 152 = .ok (.ireturn, 1) := by decide +kernel
theorem dX12_count_153 : decode cX12_count 153 = .ok (.aload_n 0, 1) := by decide +kernel
theorem dX12_count_154 : decode cX12_count 154 = .ok (.getfield 261, 3) := by decide +kernel
theorem dX12_count_157 : decode cX12_count 157 = .ok (.ireturn, 1) := by decide +kernel
theorem dX12_count_158 : decode cX12_count 158 = .ok (.aload_n 0, 1) := by decide +kernel
theorem dX12_count_159 : decode cX12_count 159 = .ok (.getfield 199, 3) := by decide +kernel
theorem dX12_count_162 : decode cX12_count 162 = .ok (.iconst 3, 1) := by decide +kernel
theorem dX12_count_173 : decode cX12_count 173 = .ok (.aload_n 0, 1) := by decide +kernel
theorem dX12_count_174 : decode cX12_count 174 = .ok (.getfield 199, 3) := by decide +kernel
theorem dX12_count_177 : decode cX12_count 177 = .ok (.bipush 6, 2) := by decide +kernel
theorem dX12_count_189 : decode cX12_count 189 = .ok (.aload_n 0, 1) := by decide +kernel
theorem dX12_count_190 : decode cX12_count 190 = .ok (.getfield 199, 3) := by decide +kernel
theorem dX12_count_193 : decode cX12_count 193 = .ok (.iconst 5, 1) := by decide +kernel
theorem dX12_count_216 : decode cX12_count 216 = .ok (.iconst 0, 1) := by decide +kernel
theorem dX12_count_217 : decode cX12_count 217 = .ok (.ireturn, 1) := by decide +kernel
theorem dX12_count_197 : decode cX12_count 197 = .ok (.aload_n 0, 1) := by decide +kernel
theorem dX12_count_198 : decode cX12_count 198 = .ok (.getfield 270, 3) := by decide +kernel
theorem dX12_count_204 : decode cX12_count 204 = .ok (.aload_n 0, 1) := by decide +kernel
theorem dX12_count_205 : decode cX12_count 205 = .ok (.getfield 264, 3) := by decide +kernel
theorem dX12_count_208 : decode cX12_count 208 = .ok (.aload_n 0, 1) := by decide +kernel
theorem dX12_count_209 : decode cX12_count 209 = .ok (.getfield 267, 3) := by decide +kernel
theorem dX12_count_212 : decode cX12_count 212 = .ok (.isub, 1) := by decide +kernel
theorem dX12_count_213 : decode cX12_count 213 = .ok (.goto 4, 3) := by decide +kernel
theorem dX12_count_201 : decode cX12_count 201 = .ok (.ifCond .eq 15, 3) := by decide +kernel
theorem dX12_count_194 : decode cX12_count 194 = .ok (.if_icmp .ne 22, 3) := by decide +kernel
theorem dX12_count_182 : decode cX12_count 182 = .ok (.aload_n 0, 1) := by decide +kernel
theorem dX12_count_179 : decode cX12_count 179 = .ok (.if_icmp .ne 10, 3) := by decide +kernel
theorem dX12_count_166 : decode cX12_count 166 = .ok (.aload_n 0, 1) := by decide +kernel
theorem dX12_count_163 : decode cX12_count 163 = .ok (.if_icmp .ne 10, 3) := by decide +kernel
theorem dX12_count_218 : decode cX12_count 218 = .ok (.aload_n 0, 1) := by decide +kernel
theorem dX12_count_219 : decode cX12_count 219 = .ok (.getfield 199, 3) := by decide +kernel
theorem dX12_count_222 : decode cX12_count 222 = .ok (.iconst 1, 1) := by decide +kernel
theorem dX12_count_242 : decode cX12_count 242 = .ok (.aload_n 0, 1) := by decide +kernel
theorem dX12_count_243 : decode cX12_count 243 = .ok (.getfield 276, 3) := by decide +kernel
theorem dX12_count_246 : decode cX12_count 246 = .ok (.goto 35, 3) := by decide +kernel
theorem dX12_count_281 : decode cX12_count 281 = .ok (.ireturn, 1) := by decide +kernel
theorem dX12_count_226 : decode cX12_count 226 = .ok (.aload_n 0, 1) := by decide +kernel
theorem dX12_count_227 : decode cX12_count 227 = .ok (.getfield 199, 3) := by decide +kernel
theorem dX12_count_230 : decode cX12_count 230 = .ok (.iconst 2, 1) := by decide +kernel
theorem dX12_count_234 : decode cX12_count 234 = .ok (.aload_n 0, 1) := by decide +kernel
theorem dX12_count_235 : decode cX12_count 235 = .ok (.getfield 199, 3) := by decide +kernel
theorem dX12_count_238 : decode cX12_count 238 = .ok (.iconst 3, 1) := by decide +kernel
theorem dX12_count_249 : decode cX12_count 249 = .ok (.aload_n 0, 1) := by decide +kernel
theorem dX12_count_250 : decode cX12_count 250 = .ok (.getfield 199, 3) := by decide +kernel
theorem dX12_count_253 : decode cX12_count 253 = .ok (.bipush 6, 2) := by decide +kernel
theorem dX12_count_280 : decode cX12_count 280 = .ok (.iconst 0, 1) := by decide +kernel
theorem dX12_count_258 : decode cX12_count 258 = .ok (.aload_n 0, 1) := by decide +kernel
theorem dX12_count_259 : decode cX12_count 259 = .ok (.getfield 285, 3) := by decide +kernel
theorem dX12_count_262 : decode cX12_count 262 = .ok (.aload_n 0, 1) := by decide +kernel
theorem dX12_count_263 : decode cX12_count 263 = .ok (.getfield 222, 3) := by decide +kernel
theorem dX12_count_266 : decode cX12_count 266 = .ok (.imul, 1) := by decide +kernel
theorem dX12_count_267 : decode cX12_count 267 = .ok (.aload_n 0, 1) := by decide +kernel
theorem dX12_count_268 : decode cX12_count 268 = .ok (.getfield 80, 3) := by decide +kernel
theorem dX12_count_271 : decode cX12_count 271 = .ok (.aload_n 0, 1) := by decide +kernel
theorem dX12_count_272 : decode cX12_count 272 = .ok (.getfield 285, 3) := by decide +kernel
theorem dX12_count_276 : decode cX12_count 276 = .ok (.iadd, 1) := by decide +kernel
theorem dX12_count_277 : decode cX12_count 277 = .ok (.goto 4, 3) := by decide +kernel
theorem dX12_count_275 : decode cX12_count 275 = .ok (.iaload, 1) := by decide +kernel
theorem dX12_count_255 : decode cX12_count 255 = .ok (.if_icmp .ne 25, 3) := by decide +kernel
theorem dX12_count_239 : decode cX12_count 239 = .ok (.if_icmp .ne 10, 3) := by decide +kernel
theorem dX12_count_231 : decode cX12_count 231 = .ok (.if_icmp .eq 11, 3) := by decide +kernel
theorem dX12_count_223 : decode cX12_count 223 = .ok (.if_icmp .eq 19, 3) := by decide +kernel
theorem dX12_count_282 : decode cX12_count 282 = .ok (.aload_n 0, 1) := by decide +kernel
theorem dX12_count_283 : decode cX12_count 283 = .ok (.getfield 270, 3) := by decide +kernel
theorem dX12_count_293 : decode cX12_count 293 = .ok (.iconst 0, 1) := by decide +kernel
theorem dX12_count_294 : decode cX12_count 294 = .ok (.ireturn, 1) := by decide +kernel
theorem dX12_count_289 : decode cX12_count 289 = .ok (.iconst 1, 1) := by decide +kernel
theorem dX12_count_290 : decode cX12_count 290 = .ok (.goto 4, 3) := by decide +kernel
theorem dX12_count_286 : decode cX12_count 286 = .ok (.ifCond .eq 7, 3) := by decide +kernel
theorem dX12_count_295 : decode cX12_count 295 = .ok (.aload_n 0, 1) := by decide +kernel
theorem dX12_count_296 : decode cX12_count 296 = .ok (.getfield 199, 3) := by decide +kernel
theorem dX12_count_299 : decode cX12_count 299 = .ok (.iconst 3, 1) := by decide +kernel
theorem dX12_count_310 : decode cX12_count 310 = .ok (.aload_n 0, 1) := by decide +kernel
theorem dX12_count_311 : decode cX12_count 311 = .ok (.getfield 199, 3) := by decide +kernel
theorem dX12_count_314 : decode cX12_count 314 = .ok (.bipush 6, 2) := by decide +kernel
theorem dX12_count_326 : decode cX12_count 326 = .ok (.iconst 0, 1) := by decide +kernel
theorem dX12_count_327 : decode cX12_count 327 = .ok (.ireturn, 1) := by decide +kernel
theorem dX12_count_319 : decode cX12_count 319 = .ok (.aload_n 0, 1) := by decide +kernel
theorem dX12_count_320 : decode cX12_count 320 = .ok (.getfield 285, 3) := by decide +kernel
theorem dX12_count_323 : decode cX12_count 323 = .ok (.goto 4, 3) := by decide +kernel
theorem dX12_count_316 : decode cX12_count 316 = .ok (.if_icmp .ne 10, 3) := by decide +kernel
theorem dX12_count_303 : decode cX12_count 303 = .ok (.aload_n 0, 1) := by decide +kernel
theorem dX12_count_304 : decode cX12_count 304 = .ok (.getfield 279, 3) := by decide +kernel
theorem dX12_count_307 : decode cX12_count 307 = .ok (.goto 20, 3) := by decide +kernel
theorem dX12_count_300 : decode cX12_count 300 = .ok (.if_icmp .ne 10, 3) := by decide +kernel
theorem dX12_count_20 : decode cX12_count 20 = .ok (.aload_n 0, 1) := by decide +kernel
theorem dX12_count_21 : decode cX12_count 21 = .ok (.getfield 237, 3) := by decide +kernel
theorem dX12_count_27 : decode cX12_count 27 = .ok (.iconst 2, 1) := by decide +kernel
theorem dX12_count_28 : decode cX12_count 28 = .ok (.goto 4, 3) := by decide +kernel
theorem dX12_count_24 : decode cX12_count 24 = .ok (.ifCond .ne 7, 3) := by decide +kernel
theorem dX12_count_17 : decode cX12_count 17 = .ok (.if_icmp .le 14, 3) := by decide +kernel
theorem dX12_count_8 : decode cX12_count 8 = .ok (.if_icmp .le 7, 3) := by decide +kernel
theorem dX12_count_2 : decode cX12_count 2 = .ok (.ifCond .lt 9, 3) := by decide +kernel
theorem dX11_addObject_0 : decode cX11_addObject 0 = .ok (.aload_n 0, 1) := by decide +kernel
theorem dX11_addObject_4 : decode cX11_addObject 4 = .ok (.astore 6, 2) := by decide +kernel
theorem dX11_addObject_6 : decode cX11_addObject 6 = .ok (.aload_n 0, 1) := by decide +kernel
theorem dX11_addObject_7 : decode cX11_addObject 7 = .ok (.getfield 26, 3) := by decide +kernel
theorem dX11_addObject_10 : decode cX11_addObject 10 = .ok (.getfield 244, 3) := by decide +kernel
theorem dX11_addObject_13 : decode cX11_addObject 13 = .ok (.sipush 512, 3) := by decide +kernel
theorem dX11_addObject_30 : decode cX11_addObject 30 = .ok (.iconst (-1), 1) := by decide +kernel
theorem dX11_addObject_31 : decode cX11_addObject 31 = .ok (.istore 7, 2) := by decide +kernel
theorem dX11_addObject_33 : decode cX11_addObject 33 = .ok (.iload 7, 2) := by decide +kernel
theorem dX11_addObject_35 : decode cX11_addObject 35 = .ok (.iconst (-1), 1) := by decide +kernel
theorem dX11_addObject_36 : decode cX11_addObject 36 = .ok (.if_icmp .ne 5, 3) := by decide +kernel
theorem dX11_addObject_39 : decode cX11_addObject 39 = .ok (.iconst (-1), 1) := by decide +kernel
theorem dX11_addObject_40 : decode cX11_addObject 40 = .ok (.ireturn, 1) := by decide +kernel
theorem dX11_addObject_19 : decode cX11_addObject 19 = .ok (.aload 6, 2) := by decide +kernel
theorem dX11_addObject_21 : decode cX11_addObject 21 = .ok (.iload_n 2, 1) := by decide +kernel
theorem dX11_addObject_22 : decode cX11_addObject 22 = .ok (.iconst 1, 1) := by decide +kernel
theorem dX11_addObject_23 : decode cX11_addObject 23 = .ok (.iadd, 1) := by decide +kernel
theorem dX11_addObject_16 : decode cX11_addObject 16 = .ok (.if_icmp .ge 14, 3) := by decide +kernel
theorem dX11_addObject_1 : decode cX11_addObject 1 = .ok (.invokevirtual 119, 3) := by decide +kernel
theorem dF1_0 : decode method_3_code 0 = .ok (.aload 6, 2) := by decide +kernel
theorem dF1_2 : decode method_3_code 2 = .ok (.iconst 0, 1) := by decide +kernel
theorem dF1_3 : decode method_3_code 3 = .ok (.aload_n 0, 1) := by decide +kernel
theorem dF1_4 : decode method_3_code 4 = .ok (.iload_n 1, 1) := by decide +kernel
theorem dF1_5 : decode method_3_code 5 = .ok (.iload_n 2, 1) := by decide +kernel
theorem dF1_6 : decode method_3_code 6 = .ok (.iload_n 3, 1) := by decide +kernel
theorem dF1_7 : decode method_3_code 7 = .ok (.iload 4, 2) := by decide +kernel
theorem dF1_9 : decode method_3_code 9 = .ok (.iload 5, 2) := by decide +kernel
theorem dF1_14 : decode method_3_code 14 = .ok (.i2l, 1) := by decide +kernel
theorem dF1_15 : decode method_3_code 15 = .ok (.lastore, 1) := by decide +kernel
theorem dF1_16 : decode method_3_code 16 = .ok (.goto 7, 3) := by decide +kernel
theorem dF1_23 : decode method_3_code 23 = .ok (.iconst 0, 1) := by decide +kernel
theorem dF1_24 : decode method_3_code 24 = .ok (.ireturn, 1) := by decide +kernel
theorem dF1_11 : decode method_3_code 11 = .ok (.invokevirtual 7, 3) := by decide +kernel
theorem dF2_0 : decode method_4_code 0 = .ok (.aload_n 2, 1) := by decide +kernel
theorem dF2_1 : decode method_4_code 1 = .ok (.iconst 0, 1) := by decide +kernel
theorem dF2_2 : decode method_4_code 2 = .ok (.aload_n 0, 1) := by decide +kernel
theorem dF2_3 : decode method_4_code 3 = .ok (.iload_n 1, 1) := by decide +kernel
theorem dF2_7 : decode method_4_code 7 = .ok (.i2l, 1) := by decide +kernel
theorem dF2_8 : decode method_4_code 8 = .ok (.lastore, 1) := by decide +kernel
theorem dF2_9 : decode method_4_code 9 = .ok (.goto 6, 3) := by decide +kernel
theorem dF2_15 : decode method_4_code 15 = .ok (.iconst 0, 1) := by decide +kernel
theorem dF2_16 : decode method_4_code 16 = .ok (.ireturn, 1) := by decide +kernel
theorem dF2_4 : decode method_4_code 4 = .ok (.invokevirtual 15, 3) := by decide +kernel
theorem dF3_0 : decode method_5_code 0 = .ok (.aload_n 3, 1) := by decide +kernel
theorem dF3_1 : decode method_5_code 1 = .ok (.iconst 0, 1) := by decide +kernel
theorem dF3_2 : decode method_5_code 2 = .ok (.aload_n 0, 1) := by decide +kernel
theorem dF3_3 : decode method_5_code 3 = .ok (.iload_n 1, 1) := by decide +kernel
theorem dF3_4 : decode method_5_code 4 = .ok (.iload_n 2, 1) := by decide +kernel
theorem dF3_8 : decode method_5_code 8 = .ok (.i2l, 1) := by decide +kernel
theorem dF3_9 : decode method_5_code 9 = .ok (.lastore, 1) := by decide +kernel
theorem dF3_10 : decode method_5_code 10 = .ok (.goto 11, 3) := by decide +kernel
theorem dF3_21 : decode method_5_code 21 = .ok (.iconst 0, 1) := by decide +kernel
theorem dF3_22 : decode method_5_code 22 = .ok (.ireturn, 1) := by decide +kernel
theorem dF3_5 : decode method_5_code 5 = .ok (.invokevirtual 21, 3) := by decide +kernel
theorem dF4_0 : decode method_6_code 0 = .ok (.aload_n 3, 1) := by decide +kernel
theorem dF4_1 : decode method_6_code 1 = .ok (.iconst 0, 1) := by decide +kernel
theorem dF4_2 : decode method_6_code 2 = .ok (.aload_n 0, 1) := by decide +kernel
theorem dF4_3 : decode method_6_code 3 = .ok (.iload_n 1, 1) := by decide +kernel
theorem dF4_4 : decode method_6_code 4 = .ok (.iload_n 2, 1) := by decide +kernel
theorem dF4_8 : decode method_6_code 8 = .ok (.i2l, 1) := by decide +kernel
theorem dF4_9 : decode method_6_code 9 = .ok (.lastore, 1) := by decide +kernel
theorem dF4_10 : decode method_6_code 10 = .ok (.goto 11, 3) := by decide +kernel
theorem dF4_21 : decode method_6_code 21 = .ok (.iconst 0, 1) := by decide +kernel
theorem dF4_22 : decode method_6_code 22 = .ok (.ireturn, 1) := by decide +kernel
theorem dF4_5 : decode method_6_code 5 = .ok (.invokevirtual 27, 3) := by decide +kernel
theorem dF5_0 : decode method_7_code 0 = .ok (.aload 4, 2) := by decide +kernel
theorem dF5_2 : decode method_7_code 2 = .ok (.iconst 0, 1) := by decide +kernel
theorem dF5_3 : decode method_7_code 3 = .ok (.aload_n 0, 1) := by decide +kernel
theorem dF5_4 : decode method_7_code 4 = .ok (.iload_n 1, 1) := by decide +kernel
theorem dF5_5 : decode method_7_code 5 = .ok (.iload_n 2, 1) := by decide +kernel
theorem dF5_6 : decode method_7_code 6 = .ok (.iload_n 3, 1) := by decide +kernel
theorem dF5_10 : decode method_7_code 10 = .ok (.i2l, 1) := by decide +kernel
theorem dF5_11 : decode method_7_code 11 = .ok (.lastore, 1) := by decide +kernel
theorem dF5_12 : decode method_7_code 12 = .ok (.goto 11, 3) := by decide +kernel
theorem dF5_23 : decode method_7_code 23 = .ok (.iconst 0, 1) := by decide +kernel
theorem dF5_24 : decode method_7_code 24 = .ok (.ireturn, 1) := by decide +kernel
theorem dF5_7 : decode method_7_code 7 = .ok (.invokevirtual 30, 3) := by decide +kernel
theorem dF6_0 : decode method_8_code 0 = .ok (.aload 4, 2) := by decide +kernel
theorem dF6_2 : decode method_8_code 2 = .ok (.iconst 0, 1) := by decide +kernel
theorem dF6_3 : decode method_8_code 3 = .ok (.aload_n 0, 1) := by decide +kernel
theorem dF6_4 : decode method_8_code 4 = .ok (.iload_n 1, 1) := by decide +kernel
theorem dF6_5 : decode method_8_code 5 = .ok (.iload_n 2, 1) := by decide +kernel
theorem dF6_6 : decode method_8_code 6 = .ok (.iload_n 3, 1) := by decide +kernel
theorem dF6_10 : decode method_8_code 10 = .ok (.i2l, 1) := by decide +kernel
theorem dF6_11 : decode method_8_code 11 = .ok (.lastore, 1) := by decide +kernel
theorem dF6_12 : decode method_8_code 12 = .ok (.goto 19, 3) := by decide +kernel
theorem dF6_31 : decode method_8_code 31 = .ok (.iconst 0, 1) := by decide +kernel
theorem dF6_32 : decode method_8_code 32 = .ok (.ireturn, 1) := by decide +kernel
theorem dF6_7 : decode method_8_code 7 = .ok (.invokevirtual 34, 3) := by decide +kernel
theorem dF7_0 : decode method_9_code 0 = .ok (.aload 4, 2) := by decide +kernel
theorem dF7_2 : decode method_9_code 2 = .ok (.iconst 0, 1) := by decide +kernel
theorem dF7_3 : decode method_9_code 3 = .ok (.aload_n 0, 1) := by decide +kernel
theorem dF7_4 : decode method_9_code 4 = .ok (.iload_n 1, 1) := by decide +kernel
theorem dF7_5 : decode method_9_code 5 = .ok (.iload_n 2, 1) := by decide +kernel
theorem dF7_6 : decode method_9_code 6 = .ok (.iload_n 3, 1) := by decide +kernel
theorem dF7_10 : decode method_9_code 10 = .ok (.i2l, 1) := by decide +kernel
theorem dF7_11 : decode method_9_code 11 = .ok (.lastore, 1) := by decide +kernel
theorem dF7_12 : decode method_9_code 12 = .ok (.goto 19, 3) := by decide +kernel
theorem dF7_31 : decode method_9_code 31 = .ok (.iconst 0, 1) := by decide +kernel
theorem dF7_32 : decode method_9_code 32 = .ok (.ireturn, 1) := by decide +kernel
theorem dF7_7 : decode method_9_code 7 = .ok (.invokevirtual 42, 3) := by decide +kernel
theorem dF8_0 : decode method_10_code 0 = .ok (.aload_n 3, 1) := by decide +kernel
theorem dF8_1 : decode method_10_code 1 = .ok (.iconst 0, 1) := by decide +kernel
theorem dF8_2 : decode method_10_code 2 = .ok (.aload_n 0, 1) := by decide +kernel
theorem dF8_3 : decode method_10_code 3 = .ok (.iload_n 1, 1) := by decide +kernel
theorem dF8_4 : decode method_10_code 4 = .ok (.iload_n 2, 1) := by decide +kernel
theorem dF8_8 : decode method_10_code 8 = .ok (.i2l, 1) := by decide +kernel
theorem dF8_9 : decode method_10_code 9 = .ok (.lastore, 1) := by decide +kernel
theorem dF8_10 : decode method_10_code 10 = .ok (.goto 15, 3) := by decide +kernel
theorem dF8_25 : decode method_10_code 25 = .ok (.iconst 0, 1) := by decide +kernel
theorem dF8_26 : decode method_10_code 26 = .ok (.ireturn, 1) := by decide +kernel
theorem dF8_5 : decode method_10_code 5 = .ok (.invokevirtual 45, 3) := by decide +kernel
theorem dF9_0 : decode method_11_code 0 = .ok (.aload_n 3, 1) := by decide +kernel
theorem dF9_1 : decode method_11_code 1 = .ok (.iconst 0, 1) := by decide +kernel
theorem dF9_2 : decode method_11_code 2 = .ok (.aload_n 0, 1) := by decide +kernel
theorem dF9_3 : decode method_11_code 3 = .ok (.iload_n 1, 1) := by decide +kernel
theorem dF9_4 : decode method_11_code 4 = .ok (.iload_n 2, 1) := by decide +kernel
theorem dF9_8 : decode method_11_code 8 = .ok (.i2l, 1) := by decide +kernel
theorem dF9_9 : decode method_11_code 9 = .ok (.lastore, 1) := by decide +kernel
theorem dF9_10 : decode method_11_code 10 = .ok (.goto 15, 3) := by decide +kernel
theorem dF9_25 : decode method_11_code 25 = .ok (.iconst 0, 1) := by decide +kernel
theorem dF9_26 : decode method_11_code 26 = .ok (.ireturn, 1) := by decide +kernel
theorem dF9_5 : decode method_11_code 5 = .ok (.invokevirtual 48, 3) := by decide +kernel
theorem dF10_0 : decode method_12_code 0 = .ok (.aload_n 3, 1) := by decide +kernel
theorem dF10_1 : decode method_12_code 1 = .ok (.iconst 0, 1) := by decide +kernel
theorem dF10_2 : decode method_12_code 2 = .ok (.aload_n 0, 1) := by decide +kernel
theorem dF10_3 : decode method_12_code 3 = .ok (.iload_n 1, 1) := by decide +kernel
theorem dF10_4 : decode method_12_code 4 = .ok (.iload_n 2, 1) := by decide +kernel
theorem dF10_8 : decode method_12_code 8 = .ok (.i2l, 1) := by decide +kernel
theorem dF10_9 : decode method_12_code 9 = .ok (.lastore, 1) := by decide +kernel
theorem dF10_10 : decode method_12_code 10 = .ok (.goto 15, 3) := by decide +kernel
theorem dF10_25 : decode method_12_code 25 = .ok (.iconst 0, 1) := by decide +kernel
theorem dF10_26 : decode method_12_code 26 = .ok (.ireturn, 1) := by decide +kernel
theorem dF10_5 : decode method_12_code 5 = .ok (.invokevirtual 51, 3) := by decide +kernel
theorem dF11_0 : decode method_13_code 0 = .ok (.aload_n 3, 1) := by decide +kernel
theorem dF11_1 : decode method_13_code 1 = .ok (.iconst 0, 1) := by decide +kernel
theorem dF11_2 : decode method_13_code 2 = .ok (.aload_n 0, 1) := by decide +kernel
theorem dF11_3 : decode method_13_code 3 = .ok (.iload_n 1, 1) := by decide +kernel
theorem dF11_4 : decode method_13_code 4 = .ok (.iload_n 2, 1) := by decide +kernel
theorem dF11_8 : decode method_13_code 8 = .ok (.i2l, 1) := by decide +kernel
theorem dF11_9 : decode method_13_code 9 = .ok (.lastore, 1) := by decide +kernel
theorem dF11_10 : decode method_13_code 10 = .ok (.goto 11, 3) := by decide +kernel
theorem dF11_21 : decode method_13_code 21 = .ok (.iconst 0, 1) := by decide +kernel
theorem dF11_22 : decode method_13_code 22 = .ok (.ireturn, 1) := by decide +kernel
theorem dF11_5 : decode method_13_code 5 = .ok (.invokevirtual 54, 3) := by decide +kernel
theorem dF12_0 : decode method_14_code 0 = .ok (.aload_n 3, 1) := by decide +kernel
theorem dF12_1 : decode method_14_code 1 = .ok (.iconst 0, 1) := by decide +kernel
theorem dF12_2 : decode method_14_code 2 = .ok (.aload_n 0, 1) := by decide +kernel
theorem dF12_3 : decode method_14_code 3 = .ok (.iload_n 1, 1) := by decide +kernel
theorem dF12_4 : decode method_14_code 4 = .ok (.iload_n 2, 1) := by decide +kernel
theorem dF12_8 : decode method_14_code 8 = .ok (.i2l, 1) := by decide +kernel
theorem dF12_9 : decode method_14_code 9 = .ok (.lastore, 1) := by decide +kernel
theorem dF12_10 : decode method_14_code 10 = .ok (.goto 15, 3) := by decide +kernel
theorem dF12_25 : decode method_14_code 25 = .ok (.iconst 0, 1) := by decide +kernel
theorem dF12_26 : decode method_14_code 26 = .ok (.ireturn, 1) := by decide +kernel
theorem dF12_5 : decode method_14_code 5 = .ok (.invokevirtual 57, 3) := by decide +kernel
theorem dF13_0 : decode method_15_code 0 = .ok (.aload_n 2, 1) := by decide +kernel
theorem dF13_1 : decode method_15_code 1 = .ok (.iconst 0, 1) := by decide +kernel
theorem dF13_2 : decode method_15_code 2 = .ok (.aload_n 0, 1) := by decide +kernel
theorem dF13_3 : decode method_15_code 3 = .ok (.iload_n 1, 1) := by decide +kernel
theorem dF13_7 : decode method_15_code 7 = .ok (.i2l, 1) := by decide +kernel
theorem dF13_8 : decode method_15_code 8 = .ok (.lastore, 1) := by decide +kernel
theorem dF13_9 : decode method_15_code 9 = .ok (.goto 9, 3) := by decide +kernel
theorem dF13_18 : decode method_15_code 18 = .ok (.iconst 0, 1) := by decide +kernel
theorem dF13_19 : decode method_15_code 19 = .ok (.ireturn, 1) := by decide +kernel
theorem dF13_4 : decode method_15_code 4 = .ok (.invokevirtual 63, 3) := by decide +kernel
theorem dF14_0 : decode method_16_code 0 = .ok (.aload_n 2, 1) := by decide +kernel
theorem dF14_1 : decode method_16_code 1 = .ok (.iconst 0, 1) := by decide +kernel
theorem dF14_2 : decode method_16_code 2 = .ok (.aload_n 0, 1) := by decide +kernel
theorem dF14_3 : decode method_16_code 3 = .ok (.iload_n 1, 1) := by decide +kernel
theorem dF14_7 : decode method_16_code 7 = .ok (.i2l, 1) := by decide +kernel
theorem dF14_8 : decode method_16_code 8 = .ok (.lastore, 1) := by decide +kernel
theorem dF14_9 : decode method_16_code 9 = .ok (.goto 9, 3) := by decide +kernel
theorem dF14_18 : decode method_16_code 18 = .ok (.iconst 0, 1) := by decide +kernel
theorem dF14_19 : decode method_16_code 19 = .ok (.ireturn, 1) := by decide +kernel
theorem dF14_4 : decode method_16_code 4 = .ok (.invokevirtual 66, 3) := by decide +kernel
theorem dF15_0 : decode method_17_code 0 = .ok (.aload_n 1, 1) := by decide +kernel
theorem dF15_1 : decode method_17_code 1 = .ok (.iconst 0, 1) := by decide +kernel
theorem dF15_2 : decode method_17_code 2 = .ok (.aload_n 0, 1) := by decide +kernel
theorem dF15_6 : decode method_17_code 6 = .ok (.i2l, 1) := by decide +kernel
theorem dF15_7 : decode method_17_code 7 = .ok (.lastore, 1) := by decide +kernel
theorem dF15_8 : decode method_17_code 8 = .ok (.goto 6, 3) := by decide +kernel
theorem dF15_14 : decode method_17_code 14 = .ok (.iconst 0, 1) := by decide +kernel
theorem dF15_15 : decode method_17_code 15 = .ok (.ireturn, 1) := by decide +kernel
theorem dF15_3 : decode method_17_code 3 = .ok (.invokevirtual 69, 3) := by decide +kernel
theorem dF16_0 : decode method_18_code 0 = .ok (.aload_n 2, 1) := by decide +kernel
theorem dF16_1 : decode method_18_code 1 = .ok (.iconst 0, 1) := by decide +kernel
theorem dF16_2 : decode method_18_code 2 = .ok (.aload_n 0, 1) := by decide +kernel
theorem dF16_3 : decode method_18_code 3 = .ok (.iload_n 1, 1) := by decide +kernel
theorem dF16_7 : decode method_18_code 7 = .ok (.i2l, 1) := by decide +kernel
theorem dF16_8 : decode method_18_code 8 = .ok (.lastore, 1) := by decide +kernel
theorem dF16_9 : decode method_18_code 9 = .ok (.goto 12, 3) := by decide +kernel
theorem dF16_21 : decode method_18_code 21 = .ok (.iconst 0, 1) := by decide +kernel
theorem dF16_22 : decode method_18_code 22 = .ok (.ireturn, 1) := by decide +kernel
