/-! from 92.3instr -/
/-! instructions, decoded -/
theorem dX6_cleanAll_11 : decode cX6_cleanAll 11 = .ok (.aload_n 0, 1) := by decide +kernel
theorem dX6_cleanAll_15 : decode cX6_cleanAll 15 = .ok (.sipush 512, 3) := by decide +kernel
theorem dX6_cleanAll_18 : decode cX6_cleanAll 18 = .ok (.invokevirtual 69, 3) := by decide +kernel
theorem dX6_cleanAll_21 : decode cX6_cleanAll 21 = .ok (.pop, 1) := by decide +kernel
theorem dX6_cleanAll_22 : decode cX6_cleanAll 22 = .ok (.iconst 0, 1) := by decide +kernel
theorem dX6_cleanAll_23 : decode cX6_cleanAll 23 = .ok (.istore_n 1, 1) := by decide +kernel
theorem dX6_cleanAll_12 : decode cX6_cleanAll 12 = .ok (.getfield 14, 3) := by decide +kernel
theorem dX6_cleanAll_7 : decode cX6_cleanAll 7 = .ok (.aload_n 0, 1) := by decide +kernel
theorem dX6_cleanAll_8 : decode cX6_cleanAll 8 = .ok (.invokevirtual 47, 3) := by decide +kernel
theorem dX6_cleanAll_4 : decode cX6_cleanAll 4 = .ok (.ifCond .ne 7, 3) := by decide +kernel
theorem dX6_cleanAll_1 : decode cX6_cleanAll 1 = .ok (.getfield 31, 3) := by decide +kernel
theorem dX6_cleanAll_24 : decode cX6_cleanAll 24 = .ok (.iload_n 1, 1) := by decide +kernel
theorem dX6_cleanAll_25 : decode cX6_cleanAll 25 = .ok (.sipush 512, 3) := by decide +kernel
theorem dX6_cleanAll_55 : decode cX6_cleanAll 55 = .ok (.aload_n 0, 1) := by decide +kernel
theorem dX6_cleanAll_56 : decode cX6_cleanAll 56 = .ok (.invokevirtual 76, 3) := by decide +kernel
theorem dX6_cleanAll_59 : decode cX6_cleanAll 59 = .ok (.ireturn, 1) := by decide +kernel
theorem dX6_cleanAll_31 : decode cX6_cleanAll 31 = .ok (.aload_n 0, 1) := by decide +kernel
theorem dX6_cleanAll_32 : decode cX6_cleanAll 32 = .ok (.invokevirtual 72, 3) := by decide +kernel
theorem dX6_cleanAll_38 : decode cX6_cleanAll 38 = .ok (.aload_n 0, 1) := by decide +kernel
theorem dX6_cleanAll_42 : decode cX6_cleanAll 42 = .ok (.sipush 512, 3) := by decide +kernel
theorem dX6_cleanAll_45 : decode cX6_cleanAll 45 = .ok (.invokevirtual 69, 3) := by decide +kernel
theorem dX6_cleanAll_48 : decode cX6_cleanAll 48 = .ok (.pop, 1) := by decide +kernel
theorem dX6_cleanAll_49 : decode cX6_cleanAll 49 = .ok (.iinc 1 1, 3) := by decide +kernel
theorem dX6_cleanAll_52 : decode cX6_cleanAll 52 = .ok (.goto (-28), 3) := by decide +kernel
theorem dX6_cleanAll_39 : decode cX6_cleanAll 39 = .ok (.getfield 14, 3) := by decide +kernel
theorem dX6_cleanAll_35 : decode cX6_cleanAll 35 = .ok (.ifCond .eq 20, 3) := by decide +kernel
theorem dX6_cleanAll_28 : decode cX6_cleanAll 28 = .ok (.if_icmp .ge 27, 3) := by decide +kernel
theorem dX6_findRoom_0 : decode cX6_findRoom 0 = .ok (.aload_n 0, 1) := by decide +kernel
theorem dX6_findRoom_32 : decode cX6_findRoom 32 = .ok (.aload_n 0, 1) := by decide +kernel
theorem dX6_findRoom_33 : decode cX6_findRoom 33 = .ok (.aload_n 0, 1) := by decide +kernel
theorem dX6_findRoom_37 : decode cX6_findRoom 37 = .ok (.invokevirtual 51, 3) := by decide +kernel
theorem dX6_findRoom_40 : decode cX6_findRoom 40 = .ok (.pop, 1) := by decide +kernel
theorem dX6_findRoom_41 : decode cX6_findRoom 41 = .ok (.aload_n 0, 1) := by decide +kernel
theorem dX6_findRoom_42 : decode cX6_findRoom 42 = .ok (.iload_n 1, 1) := by decide +kernel
theorem dX6_findRoom_43 : decode cX6_findRoom 43 = .ok (.invokevirtual 55, 3) := by decide +kernel
theorem dX6_findRoom_46 : decode cX6_findRoom 46 = .ok (.istore_n 2, 1) := by decide +kernel
theorem dX6_findRoom_47 : decode cX6_findRoom 47 = .ok (.aload_n 0, 1) := by decide +kernel
theorem dX6_findRoom_51 : decode cX6_findRoom 51 = .ok (.istore_n 3, 1) := by decide +kernel
theorem dX6_findRoom_52 : decode cX6_findRoom 52 = .ok (.iload_n 2, 1) := by decide +kernel
theorem dX6_findRoom_53 : decode cX6_findRoom 53 = .ok (.iconst (-1), 1) := by decide +kernel
theorem dX6_findRoom_68 : decode cX6_findRoom 68 = .ok (.iload_n 2, 1) := by decide +kernel
theorem dX6_findRoom_69 : decode cX6_findRoom 69 = .ok (.iconst (-1), 1) := by decide +kernel
theorem dX6_findRoom_88 : decode cX6_findRoom 88 = .ok (.iload_n 2, 1) := by decide +kernel
theorem dX6_findRoom_89 : decode cX6_findRoom 89 = .ok (.ireturn, 1) := by decide +kernel
theorem dX6_findRoom_73 : decode cX6_findRoom 73 = .ok (.iload_n 3, 1) := by decide +kernel
theorem dX6_findRoom_77 : decode cX6_findRoom 77 = .ok (.aload_n 0, 1) := by decide +kernel
theorem dX6_findRoom_78 : decode cX6_findRoom 78 = .ok (.invokevirtual 58, 3) := by decide +kernel
theorem dX6_findRoom_81 : decode cX6_findRoom 81 = .ok (.pop, 1) := by decide +kernel
theorem dX6_findRoom_82 : decode cX6_findRoom 82 = .ok (.aload_n 0, 1) := by decide +kernel
theorem dX6_findRoom_83 : decode cX6_findRoom 83 = .ok (.iload_n 1, 1) := by decide +kernel
theorem dX6_findRoom_84 : decode cX6_findRoom 84 = .ok (.invokevirtual 55, 3) := by decide +kernel
theorem dX6_findRoom_87 : decode cX6_findRoom 87 = .ok (.istore_n 2, 1) := by decide +kernel
theorem dX6_findRoom_74 : decode cX6_findRoom 74 = .ok (.ifCond .eq 14, 3) := by decide +kernel
theorem dX6_findRoom_70 : decode cX6_findRoom 70 = .ok (.if_icmp .ne 18, 3) := by decide +kernel
theorem dX6_findRoom_57 : decode cX6_findRoom 57 = .ok (.aload_n 0, 1) := by decide +kernel
theorem dX6_findRoom_58 : decode cX6_findRoom 58 = .ok (.invokevirtual 58, 3) := by decide +kernel
theorem dX6_findRoom_61 : decode cX6_findRoom 61 = .ok (.pop, 1) := by decide +kernel
theorem dX6_findRoom_62 : decode cX6_findRoom 62 = .ok (.aload_n 0, 1) := by decide +kernel
theorem dX6_findRoom_63 : decode cX6_findRoom 63 = .ok (.iload_n 1, 1) := by decide +kernel
theorem dX6_findRoom_64 : decode cX6_findRoom 64 = .ok (.invokevirtual 55, 3) := by decide +kernel
theorem dX6_findRoom_67 : decode cX6_findRoom 67 = .ok (.istore_n 2, 1) := by decide +kernel
theorem dX6_findRoom_54 : decode cX6_findRoom 54 = .ok (.if_icmp .ne 14, 3) := by decide +kernel
theorem dX6_findRoom_48 : decode cX6_findRoom 48 = .ok (.getfield 31, 3) := by decide +kernel
theorem dX6_findRoom_34 : decode cX6_findRoom 34 = .ok (.getfield 24, 3) := by decide +kernel
theorem dX6_findRoom_7 : decode cX6_findRoom 7 = .ok (.iconst 4, 1) := by decide +kernel
theorem dX6_findRoom_8 : decode cX6_findRoom 8 = .ok (.aload_n 0, 1) := by decide +kernel
theorem dX6_findRoom_12 : decode cX6_findRoom 12 = .ok (.aload_n 0, 1) := by decide +kernel
theorem dX6_findRoom_19 : decode cX6_findRoom 19 = .ok (.isub, 1) := by decide +kernel
theorem dX6_findRoom_20 : decode cX6_findRoom 20 = .ok (.imul, 1) := by decide +kernel
theorem dX6_findRoom_21 : decode cX6_findRoom 21 = .ok (.aload_n 0, 1) := by decide +kernel
theorem dX6_findRoom_28 : decode cX6_findRoom 28 = .ok (.aload_n 0, 1) := by decide +kernel
theorem dX6_findRoom_29 : decode cX6_findRoom 29 = .ok (.invokevirtual 47, 3) := by decide +kernel
theorem dX6_findRoom_25 : decode cX6_findRoom 25 = .ok (.if_icmp .ge 7, 3) := by decide +kernel
theorem dX6_findRoom_22 : decode cX6_findRoom 22 = .ok (.getfield 35, 3) := by decide +kernel
theorem dX6_findRoom_16 : decode cX6_findRoom 16 = .ok (.getfield 42, 3) := by decide +kernel
theorem dX6_findRoom_13 : decode cX6_findRoom 13 = .ok (.getfield 38, 3) := by decide +kernel
theorem dX6_findRoom_9 : decode cX6_findRoom 9 = .ok (.getfield 35, 3) := by decide +kernel
theorem dX6_findRoom_4 : decode cX6_findRoom 4 = .ok (.ifCond .ne 28, 3) := by decide +kernel
theorem dX6_findRoom_1 : decode cX6_findRoom 1 = .ok (.getfield 31, 3) := by decide +kernel
theorem dX6_noteMade_0 : decode cX6_noteMade 0 = .ok (.aload_n 0, 1) := by decide +kernel
theorem dX6_noteMade_1 : decode cX6_noteMade 1 = .ok (.aload_n 1, 1) := by decide +kernel
theorem dX6_noteMade_5 : decode cX6_noteMade 5 = .ok (.aload_n 0, 1) := by decide +kernel
theorem dX6_noteMade_20 : decode cX6_noteMade 20 = .ok (.return_, 1) := by decide +kernel
theorem dX6_noteMade_12 : decode cX6_noteMade 12 = .ok (.aload_n 0, 1) := by decide +kernel
theorem dX6_noteMade_16 : decode cX6_noteMade 16 = .ok (.aload_n 1, 1) := by decide +kernel
theorem dX6_noteMade_17 : decode cX6_noteMade 17 = .ok (.invokevirtual 66, 3) := by decide +kernel
theorem dX6_noteMade_13 : decode cX6_noteMade 13 = .ok (.getfield 14, 3) := by decide +kernel
theorem dX6_noteMade_9 : decode cX6_noteMade 9 = .ok (.ifCond .eq 11, 3) := by decide +kernel
theorem dX6_noteMade_6 : decode cX6_noteMade 6 = .ok (.getfield 31, 3) := by decide +kernel
theorem dX6_noteMade_2 : decode cX6_noteMade 2 = .ok (.invokespecial 62, 3) := by decide +kernel
theorem dX6_noteChange_0 : decode cX6_noteChange 0 = .ok (.aload_n 0, 1) := by decide +kernel
theorem dX6_noteChange_31 : decode cX6_noteChange 31 = .ok (.return_, 1) := by decide +kernel
theorem dX6_noteChange_7 : decode cX6_noteChange 7 = .ok (.aload_n 1, 1) := by decide +kernel
theorem dX6_noteChange_8 : decode cX6_noteChange 8 = .ok (.aload_n 2, 1) := by decide +kernel
theorem dX6_noteChange_12 : decode cX6_noteChange 12 = .ok (.aload_n 0, 1) := by decide +kernel
theorem dX6_noteChange_16 : decode cX6_noteChange 16 = .ok (.aload_n 0, 1) := by decide +kernel
theorem dX6_noteChange_27 : decode cX6_noteChange 27 = .ok (.aload_n 2, 1) := by decide +kernel
theorem dX6_noteChange_28 : decode cX6_noteChange 28 = .ok (.invokevirtual 97, 3) := by decide +kernel
theorem dX6_noteChange_23 : decode cX6_noteChange 23 = .ok (.aload_n 1, 1) := by decide +kernel
theorem dX6_noteChange_24 : decode cX6_noteChange 24 = .ok (.goto 4, 3) := by decide +kernel
theorem dX6_noteChange_20 : decode cX6_noteChange 20 = .ok (.ifCond .ne 7, 3) := by decide +kernel
theorem dX6_noteChange_17 : decode cX6_noteChange 17 = .ok (.getfield 28, 3) := by decide +kernel
theorem dX6_noteChange_13 : decode cX6_noteChange 13 = .ok (.getfield 14, 3) := by decide +kernel
theorem dX6_noteChange_9 : decode cX6_noteChange 9 = .ok (.if_acmp .eq 22, 3) := by decide +kernel
theorem dX6_noteChange_4 : decode cX6_noteChange 4 = .ok (.ifCond .eq 27, 3) := by decide +kernel
theorem dX6_noteChange_1 : decode cX6_noteChange 1 = .ok (.getfield 31, 3) := by decide +kernel
theorem dX6_noteStrong_0 : decode cX6_noteStrong 0 = .ok (.aload_n 0, 1) := by decide +kernel
theorem dX6_noteStrong_15 : decode cX6_noteStrong 15 = .ok (.return_, 1) := by decide +kernel
theorem dX6_noteStrong_7 : decode cX6_noteStrong 7 = .ok (.aload_n 0, 1) := by decide +kernel
theorem dX6_noteStrong_11 : decode cX6_noteStrong 11 = .ok (.aload_n 1, 1) := by decide +kernel
theorem dX6_noteStrong_12 : decode cX6_noteStrong 12 = .ok (.invokevirtual 97, 3) := by decide +kernel
theorem dX6_noteStrong_8 : decode cX6_noteStrong 8 = .ok (.getfield 14, 3) := by decide +kernel
theorem dX6_noteStrong_4 : decode cX6_noteStrong 4 = .ok (.ifCond .eq 11, 3) := by decide +kernel
theorem dX6_noteStrong_1 : decode cX6_noteStrong 1 = .ok (.getfield 31, 3) := by decide +kernel
theorem dX6_colourOf_0 : decode cX6_colourOf 0 = .ok (.aload_n 0, 1) := by decide +kernel
theorem dX6_colourOf_18 : decode cX6_colourOf 18 = .ok (.iconst 0, 1) := by decide +kernel
theorem dX6_colourOf_19 : decode cX6_colourOf 19 = .ok (.ireturn, 1) := by decide +kernel
theorem dX6_colourOf_7 : decode cX6_colourOf 7 = .ok (.aload_n 0, 1) := by decide +kernel
theorem dX6_colourOf_11 : decode cX6_colourOf 11 = .ok (.aload_n 1, 1) := by decide +kernel
theorem dX6_colourOf_12 : decode cX6_colourOf 12 = .ok (.invokevirtual 100, 3) := by decide +kernel
theorem dX6_colourOf_15 : decode cX6_colourOf 15 = .ok (.goto 4, 3) := by decide +kernel
theorem dX6_colourOf_8 : decode cX6_colourOf 8 = .ok (.getfield 14, 3) := by decide +kernel
theorem dX6_colourOf_4 : decode cX6_colourOf 4 = .ok (.ifCond .eq 14, 3) := by decide +kernel
theorem dX6_colourOf_1 : decode cX6_colourOf 1 = .ok (.getfield 31, 3) := by decide +kernel
theorem dX6_specials_0 : decode cX6_specials 0 = .ok (.aload_n 0, 1) := by decide +kernel
theorem dX6_specials_25 : decode cX6_specials 25 = .ok (.iconst 0, 1) := by decide +kernel
theorem dX6_specials_26 : decode cX6_specials 26 = .ok (.ireturn, 1) := by decide +kernel
theorem dX6_specials_7 : decode cX6_specials 7 = .ok (.aload_n 0, 1) := by decide +kernel
theorem dX6_specials_14 : decode cX6_specials 14 = .ok (.aload_n 0, 1) := by decide +kernel
theorem dX6_specials_21 : decode cX6_specials 21 = .ok (.isub, 1) := by decide +kernel
theorem dX6_specials_22 : decode cX6_specials 22 = .ok (.goto 4, 3) := by decide +kernel
theorem dX6_specials_18 : decode cX6_specials 18 = .ok (.getfield 107, 3) := by decide +kernel
theorem dX6_specials_15 : decode cX6_specials 15 = .ok (.getfield 14, 3) := by decide +kernel
theorem dX6_specials_11 : decode cX6_specials 11 = .ok (.getfield 104, 3) := by decide +kernel
theorem dX6_specials_8 : decode cX6_specials 8 = .ok (.getfield 14, 3) := by decide +kernel
theorem dX6_specials_4 : decode cX6_specials 4 = .ok (.ifCond .eq 21, 3) := by decide +kernel
theorem dX6_specials_1 : decode cX6_specials 1 = .ok (.getfield 31, 3) := by decide +kernel
theorem dX6_isMarking_0 : decode cX6_isMarking 0 = .ok (.aload_n 0, 1) := by decide +kernel
theorem dX6_isMarking_4 : decode cX6_isMarking 4 = .ok (.ireturn, 1) := by decide +kernel
theorem dX6_isMarking_1 : decode cX6_isMarking 1 = .ok (.getfield 31, 3) := by decide +kernel
theorem dX6_open_0 : decode cX6_open 0 = .ok (.aload_n 0, 1) := by decide +kernel
theorem dX6_open_1 : decode cX6_open 1 = .ok (.aload_n 1, 1) := by decide +kernel
theorem dX6_open_5 : decode cX6_open 5 = .ok (.aload_n 0, 1) := by decide +kernel
theorem dX6_open_6 : decode cX6_open 6 = .ok (.aload_n 1, 1) := by decide +kernel
theorem dX6_open_7 : decode cX6_open 7 = .ok (.iconst 2, 1) := by decide +kernel
theorem dX6_open_12 : decode cX6_open 12 = .ok (.aload_n 0, 1) := by decide +kernel
theorem dX6_open_13 : decode cX6_open 13 = .ok (.aload_n 1, 1) := by decide +kernel
theorem dX6_open_14 : decode cX6_open 14 = .ok (.iconst 3, 1) := by decide +kernel
theorem dX6_open_19 : decode cX6_open 19 = .ok (.aload_n 0, 1) := by decide +kernel
theorem dX6_open_20 : decode cX6_open 20 = .ok (.iconst 0, 1) := by decide +kernel
theorem dX6_open_24 : decode cX6_open 24 = .ok (.return_, 1) := by decide +kernel
theorem dX6_open_21 : decode cX6_open 21 = .ok (.putfield 31, 3) := by decide +kernel
theorem dX6_open_16 : decode cX6_open 16 = .ok (.putfield 28, 3) := by decide +kernel
theorem dX6_open_15 : decode cX6_open 15 = .ok (.iaload, 1) := by decide +kernel
theorem dX6_open_9 : decode cX6_open 9 = .ok (.putfield 24, 3) := by decide +kernel
theorem dX6_open_8 : decode cX6_open 8 = .ok (.iaload, 1) := by decide +kernel
theorem dX6_open_2 : decode cX6_open 2 = .ok (.invokespecial 20, 3) := by decide +kernel
theorem dX3_open_0 : decode cX3_open 0 = .ok (.aload_n 0, 1) := by decide +kernel
theorem dX3_open_1 : decode cX3_open 1 = .ok (.aload_n 1, 1) := by decide +kernel
theorem dX3_open_2 : decode cX3_open 2 = .ok (.iconst 0, 1) := by decide +kernel
theorem dX3_open_7 : decode cX3_open 7 = .ok (.aload_n 0, 1) := by decide +kernel
theorem dX3_open_8 : decode cX3_open 8 = .ok (.iconst 0, 1) := by decide +kernel
theorem dX3_open_12 : decode cX3_open 12 = .ok (.aload_n 0, 1) := by decide +kernel
theorem dX3_open_13 : decode cX3_open 13 = .ok (.iconst 0, 1) := by decide +kernel
theorem dX3_open_17 : decode cX3_open 17 = .ok (.return_, 1) := by decide +kernel
theorem dX3_open_14 : decode cX3_open 14 = .ok (.putfield 18, 3) := by decide +kernel
theorem dX3_open_9 : decode cX3_open 9 = .ok (.putfield 15, 3) := by decide +kernel
theorem dX3_open_4 : decode cX3_open 4 = .ok (.putfield 9, 3) := by decide +kernel
theorem dX3_open_3 : decode cX3_open 3 = .ok (.iaload, 1) := by decide +kernel
theorem dX0_open_0 : decode cX0_open 0 = .ok (.aload_n 0, 1) := by decide +kernel
theorem dX0_open_1 : decode cX0_open 1 = .ok (.aload_n 1, 1) := by decide +kernel
theorem dX0_open_2 : decode cX0_open 2 = .ok (.iconst 0, 1) := by decide +kernel
theorem dX0_open_7 : decode cX0_open 7 = .ok (.aload_n 0, 1) := by decide +kernel
theorem dX0_open_8 : decode cX0_open 8 = .ok (.aload_n 1, 1) := by decide +kernel
theorem dX0_open_9 : decode cX0_open 9 = .ok (.iconst 1, 1) := by decide +kernel
theorem dX0_open_14 : decode cX0_open 14 = .ok (.aload_n 0, 1) := by decide +kernel
theorem dX0_open_15 : decode cX0_open 15 = .ok (.aload_n 1, 1) := by decide +kernel
theorem dX0_open_16 : decode cX0_open 16 = .ok (.iconst 2, 1) := by decide +kernel
theorem dX0_open_21 : decode cX0_open 21 = .ok (.aload_n 0, 1) := by decide +kernel
theorem dX0_open_22 : decode cX0_open 22 = .ok (.aload_n 1, 1) := by decide +kernel
theorem dX0_open_23 : decode cX0_open 23 = .ok (.iconst 3, 1) := by decide +kernel
theorem dX0_open_28 : decode cX0_open 28 = .ok (.aload_n 0, 1) := by decide +kernel
theorem dX0_open_29 : decode cX0_open 29 = .ok (.iconst 0, 1) := by decide +kernel
theorem dX0_open_33 : decode cX0_open 33 = .ok (.aload_n 0, 1) := by decide +kernel
theorem dX0_open_34 : decode cX0_open 34 = .ok (.aload_n 0, 1) := by decide +kernel
theorem dX0_open_41 : decode cX0_open 41 = .ok (.aload_n 0, 1) := by decide +kernel
theorem dX0_open_42 : decode cX0_open 42 = .ok (.aload_n 0, 1) := by decide +kernel
theorem dX0_open_49 : decode cX0_open 49 = .ok (.aload_n 0, 1) := by decide +kernel
theorem dX0_open_53 : decode cX0_open 53 = .ok (.iconst 0, 1) := by decide +kernel
theorem dX0_open_54 : decode cX0_open 54 = .ok (.invokestatic 37, 3) := by decide +kernel
theorem dX0_open_57 : decode cX0_open 57 = .ok (.return_, 1) := by decide +kernel
theorem dX0_open_50 : decode cX0_open 50 = .ok (.getfield 9, 3) := by decide +kernel
theorem dX0_open_46 : decode cX0_open 46 = .ok (.putfield 34, 3) := by decide +kernel
theorem dX0_open_43 : decode cX0_open 43 = .ok (.getfield 19, 3) := by decide +kernel
theorem dX0_open_38 : decode cX0_open 38 = .ok (.putfield 31, 3) := by decide +kernel
theorem dX0_open_35 : decode cX0_open 35 = .ok (.getfield 19, 3) := by decide +kernel
theorem dX0_open_30 : decode cX0_open 30 = .ok (.putfield 28, 3) := by decide +kernel
theorem dX0_open_25 : decode cX0_open 25 = .ok (.putfield 25, 3) := by decide +kernel
theorem dX0_open_24 : decode cX0_open 24 = .ok (.iaload, 1) := by decide +kernel
theorem dX0_open_18 : decode cX0_open 18 = .ok (.putfield 22, 3) := by decide +kernel
theorem dX0_open_17 : decode cX0_open 17 = .ok (.iaload, 1) := by decide +kernel
theorem dX0_open_11 : decode cX0_open 11 = .ok (.putfield 19, 3) := by decide +kernel
theorem dX0_open_10 : decode cX0_open 10 = .ok (.iaload, 1) := by decide +kernel
theorem dX0_open_4 : decode cX0_open 4 = .ok (.putfield 15, 3) := by decide +kernel
theorem dX0_open_3 : decode cX0_open 3 = .ok (.iaload, 1) := by decide +kernel
theorem dX0_total_0 : decode cX0_total 0 = .ok (.aload_n 0, 1) := by decide +kernel
theorem dX0_total_4 : decode cX0_total 4 = .ok (.iconst 2, 1) := by decide +kernel
theorem dX0_total_5 : decode cX0_total 5 = .ok (.aload_n 0, 1) := by decide +kernel
theorem dX0_total_9 : decode cX0_total 9 = .ok (.imul, 1) := by decide +kernel
theorem dX0_total_10 : decode cX0_total 10 = .ok (.iadd, 1) := by decide +kernel
theorem dX0_total_11 : decode cX0_total 11 = .ok (.ireturn, 1) := by decide +kernel
theorem dX0_total_6 : decode cX0_total 6 = .ok (.getfield 15, 3) := by decide +kernel
theorem dX0_total_1 : decode cX0_total 1 = .ok (.getfield 19, 3) := by decide +kernel
theorem dX0_topPlace_0 : decode cX0_topPlace 0 = .ok (.aload_n 0, 1) := by decide +kernel
theorem dX0_topPlace_4 : decode cX0_topPlace 4 = .ok (.ireturn, 1) := by decide +kernel
theorem dX0_topPlace_1 : decode cX0_topPlace 1 = .ok (.getfield 34, 3) := by decide +kernel
theorem dX0_oldTopOrRegion_0 : decode cX0_oldTopOrRegion 0 = .ok (.aload_n 0, 1) := by decide +kernel
theorem dX0_oldTopOrRegion_4 : decode cX0_oldTopOrRegion 4 = .ok (.ireturn, 1) := by decide +kernel
theorem dX0_oldTopOrRegion_1 : decode cX0_oldTopOrRegion 1 = .ok (.getfield 28, 3) := by decide +kernel
theorem dX0_canHold_0 : decode cX0_canHold 0 = .ok (.aload_n 0, 1) := by decide +kernel
theorem dX0_canHold_1 : decode cX0_canHold 1 = .ok (.aload_n 1, 1) := by decide +kernel
theorem dX0_canHold_2 : decode cX0_canHold 2 = .ok (.invokevirtual 58, 3) := by decide +kernel
theorem dX0_isYoung_0 : decode cX0_isYoung 0 = .ok (.aload_n 1, 1) := by decide +kernel
theorem dX0_isYoung_4 : decode cX0_isYoung 4 = .ok (.aload_n 0, 1) := by decide +kernel
theorem dX0_isYoung_15 : decode cX0_isYoung 15 = .ok (.iconst 0, 1) := by decide +kernel
theorem dX0_canHold_5 : decode cX0_canHold 5 = .ok (.ifCond .ne 7, 3) := by decide +kernel
theorem dX0_canHold_8 : decode cX0_canHold 8 = .ok (.iconst 1, 1) := by decide +kernel
theorem dX0_canHold_9 : decode cX0_canHold 9 = .ok (.goto 4, 3) := by decide +kernel
theorem dX0_canHold_13 : decode cX0_canHold 13 = .ok (.ireturn, 1) := by decide +kernel
theorem dX0_isYoung_16 : decode cX0_isYoung 16 = .ok (.ireturn, 1) := by decide +kernel
theorem dX0_isYoung_11 : decode cX0_isYoung 11 = .ok (.iconst 1, 1) := by decide +kernel
theorem dX0_isYoung_12 : decode cX0_isYoung 12 = .ok (.goto 4, 3) := by decide +kernel
theorem dX0_canHold_12 : decode cX0_canHold 12 = .ok (.iconst 0, 1) := by decide +kernel
theorem dX0_isYoung_8 : decode cX0_isYoung 8 = .ok (.if_icmp .lt 7, 3) := by decide +kernel
theorem dX0_isYoung_5 : decode cX0_isYoung 5 = .ok (.getfield 19, 3) := by decide +kernel
theorem dX0_isYoung_1 : decode cX0_isYoung 1 = .ok (.getfield 62, 3) := by decide +kernel
theorem dX0_noteMade_0 : decode cX0_noteMade 0 = .ok (.aload_n 0, 1) := by decide +kernel
theorem dX0_noteMade_1 : decode cX0_noteMade 1 = .ok (.aload_n 1, 1) := by decide +kernel
theorem dX0_noteMade_2 : decode cX0_noteMade 2 = .ok (.invokevirtual 58, 3) := by decide +kernel
theorem dX0_noteMade_5 : decode cX0_noteMade 5 = .ok (.ifCond .eq 19, 3) := by decide +kernel
theorem dX0_noteMade_24 : decode cX0_noteMade 24 = .ok (.aload_n 0, 1) := by decide +kernel
theorem dX0_noteMade_25 : decode cX0_noteMade 25 = .ok (.aload_n 1, 1) := by decide +kernel
theorem dX0_noteMade_29 : decode cX0_noteMade 29 = .ok (.aload_n 1, 1) := by decide +kernel
theorem dX0_noteMade_33 : decode cX0_noteMade 33 = .ok (.iadd, 1) := by decide +kernel
theorem dX0_noteMade_37 : decode cX0_noteMade 37 = .ok (.return_, 1) := by decide +kernel
theorem dX0_noteMade_34 : decode cX0_noteMade 34 = .ok (.putfield 28, 3) := by decide +kernel
theorem dX0_noteMade_30 : decode cX0_noteMade 30 = .ok (.getfield 67, 3) := by decide +kernel
theorem dX0_noteMade_26 : decode cX0_noteMade 26 = .ok (.getfield 62, 3) := by decide +kernel
theorem dX0_noteMade_8 : decode cX0_noteMade 8 = .ok (.aload_n 0, 1) := by decide +kernel
theorem dX0_noteMade_9 : decode cX0_noteMade 9 = .ok (.aload_n 1, 1) := by decide +kernel
theorem dX0_noteMade_13 : decode cX0_noteMade 13 = .ok (.aload_n 1, 1) := by decide +kernel
theorem dX0_noteMade_17 : decode cX0_noteMade 17 = .ok (.iadd, 1) := by decide +kernel
theorem dX0_noteMade_21 : decode cX0_noteMade 21 = .ok (.goto 16, 3) := by decide +kernel
theorem dX0_noteMade_18 : decode cX0_noteMade 18 = .ok (.putfield 34, 3) := by decide +kernel
theorem dX0_noteMade_14 : decode cX0_noteMade 14 = .ok (.getfield 67, 3) := by decide +kernel
theorem dX0_noteMade_10 : decode cX0_noteMade 10 = .ok (.getfield 62, 3) := by decide +kernel
theorem dX0_specials_0 : decode cX0_specials 0 = .ok (.iconst 0, 1) := by decide +kernel
theorem dX0_specials_1 : decode cX0_specials 1 = .ok (.istore_n 1, 1) := by decide +kernel
theorem dX0_specials_2 : decode cX0_specials 2 = .ok (.iconst 0, 1) := by decide +kernel
theorem dX0_specials_3 : decode cX0_specials 3 = .ok (.istore_n 2, 1) := by decide +kernel
theorem dX0_specials_4 : decode cX0_specials 4 = .ok (.iload_n 2, 1) := by decide +kernel
theorem dX0_specials_5 : decode cX0_specials 5 = .ok (.sipush 375, 3) := by decide +kernel
theorem dX0_specials_26 : decode cX0_specials 26 = .ok (.iload_n 1, 1) := by decide +kernel
theorem dX0_specials_27 : decode cX0_specials 27 = .ok (.ireturn, 1) := by decide +kernel
theorem dX0_specials_11 : decode cX0_specials 11 = .ok (.iload_n 1, 1) := by decide +kernel
theorem dX0_specials_12 : decode cX0_specials 12 = .ok (.aload_n 0, 1) := by decide +kernel
theorem dX0_specials_16 : decode cX0_specials 16 = .ok (.iload_n 2, 1) := by decide +kernel
theorem dX0_specials_18 : decode cX0_specials 18 = .ok (.iadd, 1) := by decide +kernel
theorem dX0_specials_19 : decode cX0_specials 19 = .ok (.istore_n 1, 1) := by decide +kernel
theorem dX0_specials_20 : decode cX0_specials 20 = .ok (.iinc 2 1, 3) := by decide +kernel
theorem dX0_specials_23 : decode cX0_specials 23 = .ok (.goto (-19), 3) := by decide +kernel
theorem dX0_specials_17 : decode cX0_specials 17 = .ok (.iaload, 1) := by decide +kernel
theorem dX0_specials_13 : decode cX0_specials 13 = .ok (.getfield 9, 3) := by decide +kernel
theorem dX0_specials_8 : decode cX0_specials 8 = .ok (.if_icmp .ge 18, 3) := by decide +kernel
theorem dX0_noteReference_0 : decode cX0_noteReference 0 = .ok (.aload_n 0, 1) := by decide +kernel
theorem dX0_noteReference_1 : decode cX0_noteReference 1 = .ok (.aload_n 1, 1) := by decide +kernel
theorem dX0_noteReference_2 : decode cX0_noteReference 2 = .ok (.iload_n 2, 1) := by decide +kernel
theorem dX0_noteReference_3 : decode cX0_noteReference 3 = .ok (.invokevirtual 136, 3) := by decide +kernel
theorem dX0_cardOf_0 : decode cX0_cardOf 0 = .ok (.aload_n 0, 1) := by decide +kernel
theorem dX0_cardOf_23 : decode cX0_cardOf 23 = .ok (.iconst (-1), 1) := by decide +kernel
theorem dX0_noteReference_6 : decode cX0_noteReference 6 = .ok (.istore 4, 2) := by decide +kernel
theorem dX0_noteReference_8 : decode cX0_noteReference 8 = .ok (.aload_n 3, 1) := by decide +kernel
theorem dX0_noteReference_49 : decode cX0_noteReference 49 = .ok (.return_, 1) := by decide +kernel
theorem dX0_noteReference_12 : decode cX0_noteReference 12 = .ok (.aload_n 0, 1) := by decide +kernel
theorem dX0_noteReference_13 : decode cX0_noteReference 13 = .ok (.aload_n 1, 1) := by decide +kernel
theorem dX0_noteReference_14 : decode cX0_noteReference 14 = .ok (.invokevirtual 58, 3) := by decide +kernel
theorem dX0_noteReference_17 : decode cX0_noteReference 17 = .ok (.ifCond .ne 32, 3) := by decide +kernel
theorem dX0_noteReference_20 : decode cX0_noteReference 20 = .ok (.aload_n 0, 1) := by decide +kernel
theorem dX0_noteReference_21 : decode cX0_noteReference 21 = .ok (.aload_n 3, 1) := by decide +kernel
theorem dX0_noteReference_22 : decode cX0_noteReference 22 = .ok (.invokevirtual 58, 3) := by decide +kernel
theorem dX0_noteReference_25 : decode cX0_noteReference 25 = .ok (.ifCond .eq 24, 3) := by decide +kernel
theorem dX0_noteReference_28 : decode cX0_noteReference 28 = .ok (.iload 4, 2) := by decide +kernel
theorem dX0_noteReference_30 : decode cX0_noteReference 30 = .ok (.ifCond .lt 19, 3) := by decide +kernel
theorem dX0_noteReference_9 : decode cX0_noteReference 9 = .ok (.ifnull 40, 3) := by decide +kernel
theorem dX0_cardOf_24 : decode cX0_cardOf 24 = .ok (.ireturn, 1) := by decide +kernel
theorem dX0_cardOf_7 : decode cX0_cardOf 7 = .ok (.aload_n 1, 1) := by decide +kernel
theorem dX0_cardOf_11 : decode cX0_cardOf 11 = .ok (.iconst 1, 1) := by decide +kernel
theorem dX0_cardOf_12 : decode cX0_cardOf 12 = .ok (.iadd, 1) := by decide +kernel
theorem dX0_cardOf_13 : decode cX0_cardOf 13 = .ok (.iload_n 2, 1) := by decide +kernel
theorem dX0_cardOf_14 : decode cX0_cardOf 14 = .ok (.iadd, 1) := by decide +kernel
theorem dX0_cardOf_15 : decode cX0_cardOf 15 = .ok (.aload_n 0, 1) := by decide +kernel
theorem dX0_cardOf_20 : decode cX0_cardOf 20 = .ok (.goto 4, 3) := by decide +kernel
theorem dX0_noteReference_33 : decode cX0_noteReference 33 = .ok (.iload 4, 2) := by decide +kernel
theorem dX0_noteReference_35 : decode cX0_noteReference 35 = .ok (.sipush 375, 3) := by decide +kernel
theorem dX0_noteReference_41 : decode cX0_noteReference 41 = .ok (.aload_n 0, 1) := by decide +kernel
theorem dX0_noteReference_45 : decode cX0_noteReference 45 = .ok (.iload 4, 2) := by decide +kernel
theorem dX0_noteReference_47 : decode cX0_noteReference 47 = .ok (.iconst 1, 1) := by decide +kernel
theorem dX0_noteReference_48 : decode cX0_noteReference 48 = .ok (.iastore, 1) := by decide +kernel
theorem dX0_noteReference_42 : decode cX0_noteReference 42 = .ok (.getfield 9, 3) := by decide +kernel
theorem dX0_noteReference_38 : decode cX0_noteReference 38 = .ok (.if_icmp .ge 11, 3) := by decide +kernel
theorem dX0_cardOf_19 : decode cX0_cardOf 19 = .ok (.idiv, 1) := by decide +kernel
theorem dX0_cardOf_16 : decode cX0_cardOf 16 = .ok (.getfield 25, 3) := by decide +kernel
theorem dX0_cardOf_8 : decode cX0_cardOf 8 = .ok (.getfield 62, 3) := by decide +kernel
theorem dX0_cardOf_4 : decode cX0_cardOf 4 = .ok (.ifCond .le 19, 3) := by decide +kernel
theorem dX0_cardOf_1 : decode cX0_cardOf 1 = .ok (.getfield 25, 3) := by decide +kernel
theorem dX0_findDirty_0 : decode cX0_findDirty 0 = .ok (.aload_n 0, 1) := by decide +kernel
theorem dX0_findDirty_4 : decode cX0_findDirty 4 = .ok (.iconst 0, 1) := by decide +kernel
theorem dX0_findDirty_5 : decode cX0_findDirty 5 = .ok (.invokestatic 37, 3) := by decide +kernel
theorem dX0_findDirty_8 : decode cX0_findDirty 8 = .ok (.iconst 0, 1) := by decide +kernel
theorem dX0_findDirty_9 : decode cX0_findDirty 9 = .ok (.istore_n 1, 1) := by decide +kernel
theorem dX0_findDirty_1 : decode cX0_findDirty 1 = .ok (.getfield 9, 3) := by decide +kernel
theorem dX0_findDirty_10 : decode cX0_findDirty 10 = .ok (.iload_n 1, 1) := by decide +kernel
theorem dX0_findDirty_11 : decode cX0_findDirty 11 = .ok (.aload_n 0, 1) := by decide +kernel
theorem dX0_findDirty_81 : decode cX0_findDirty 81 = .ok (.return_, 1) := by decide +kernel
theorem dX0_findDirty_21 : decode cX0_findDirty 21 = .ok (.aload_n 0, 1) := by decide +kernel
theorem dX0_findDirty_25 : decode cX0_findDirty 25 = .ok (.iload_n 1, 1) := by decide +kernel
theorem dX0_findDirty_26 : decode cX0_findDirty 26 = .ok (.invokevirtual 122, 3) := by decide +kernel
theorem dX0_findDirty_29 : decode cX0_findDirty 29 = .ok (.astore_n 2, 1) := by decide +kernel
theorem dX0_findDirty_30 : decode cX0_findDirty 30 = .ok (.aload_n 2, 1) := by decide +kernel
theorem dX0_findDirty_31 : decode cX0_findDirty 31 = .ok (.ifnull 44, 3) := by decide +kernel
theorem dX0_findDirty_75 : decode cX0_findDirty 75 = .ok (.iinc 1 1, 3) := by decide +kernel
theorem dX0_findDirty_78 : decode cX0_findDirty 78 = .ok (.goto (-68), 3) := by decide +kernel
theorem dX0_findDirty_34 : decode cX0_findDirty 34 = .ok (.aload_n 0, 1) := by decide +kernel
theorem dX0_findDirty_35 : decode cX0_findDirty 35 = .ok (.aload_n 2, 1) := by decide +kernel
theorem dX0_findDirty_36 : decode cX0_findDirty 36 = .ok (.invokevirtual 58, 3) := by decide +kernel
theorem dX0_findDirty_39 : decode cX0_findDirty 39 = .ok (.ifCond .ne 36, 3) := by decide +kernel
theorem dX0_findDirty_42 : decode cX0_findDirty 42 = .ok (.iconst 0, 1) := by decide +kernel
theorem dX0_findDirty_43 : decode cX0_findDirty 43 = .ok (.istore_n 3, 1) := by decide +kernel
theorem dX0_findDirty_22 : decode cX0_findDirty 22 = .ok (.getfield 80, 3) := by decide +kernel
theorem dX0_findDirty_18 : decode cX0_findDirty 18 = .ok (.if_icmp .ge 63, 3) := by decide +kernel
theorem dX0_findDirty_15 : decode cX0_findDirty 15 = .ok (.getfield 119, 3) := by decide +kernel
theorem dX0_findDirty_12 : decode cX0_findDirty 12 = .ok (.getfield 80, 3) := by decide +kernel
theorem dX0_findDirty_44 : decode cX0_findDirty 44 = .ok (.iload_n 3, 1) := by decide +kernel
theorem dX0_findDirty_45 : decode cX0_findDirty 45 = .ok (.aload_n 2, 1) := by decide +kernel
theorem dX0_findDirty_49 : decode cX0_findDirty 49 = .ok (.iconst 1, 1) := by decide +kernel
theorem dX0_findDirty_50 : decode cX0_findDirty 50 = .ok (.isub, 1) := by decide +kernel
theorem dX0_findDirty_54 : decode cX0_findDirty 54 = .ok (.aload_n 0, 1) := by decide +kernel
theorem dX0_findDirty_55 : decode cX0_findDirty 55 = .ok (.aload_n 2, 1) := by decide +kernel
theorem dX0_findDirty_56 : decode cX0_findDirty 56 = .ok (.iload_n 3, 1) := by decide +kernel
theorem dX0_findDirty_57 : decode cX0_findDirty 57 = .ok (.aload_n 0, 1) := by decide +kernel
theorem dX0_findDirty_61 : decode cX0_findDirty 61 = .ok (.aload_n 2, 1) := by decide +kernel
theorem dX0_findDirty_62 : decode cX0_findDirty 62 = .ok (.iload_n 3, 1) := by decide +kernel
theorem dX0_findDirty_63 : decode cX0_findDirty 63 = .ok (.invokevirtual 140, 3) := by decide +kernel
theorem dX0_findDirty_66 : decode cX0_findDirty 66 = .ok (.invokevirtual 160, 3) := by decide +kernel
theorem dX0_findDirty_69 : decode cX0_findDirty 69 = .ok (.iinc 3 1, 3) := by decide +kernel
theorem dX0_findDirty_72 : decode cX0_findDirty 72 = .ok (.goto (-28), 3) := by decide +kernel
theorem dX0_findDirty_58 : decode cX0_findDirty 58 = .ok (.getfield 80, 3) := by decide +kernel
theorem dX0_findDirty_51 : decode cX0_findDirty 51 = .ok (.if_icmp .ge 24, 3) := by decide +kernel
theorem dX0_findDirty_46 : decode cX0_findDirty 46 = .ok (.getfield 67, 3) := by decide +kernel
theorem dX0_cleanOld_0 : decode cX0_cleanOld 0 = .ok (.aload_n 0, 1) := by decide +kernel
theorem dX0_cleanOld_4 : decode cX0_cleanOld 4 = .ok (.invokevirtual 74, 3) := by decide +kernel
theorem dX0_cleanOld_7 : decode cX0_cleanOld 7 = .ok (.aload_n 0, 1) := by decide +kernel
theorem dX0_cleanOld_11 : decode cX0_cleanOld 11 = .ok (.aload_n 0, 1) := by decide +kernel
theorem dX0_cleanOld_15 : decode cX0_cleanOld 15 = .ok (.invokevirtual 84, 3) := by decide +kernel
theorem dX0_cleanOld_18 : decode cX0_cleanOld 18 = .ok (.aload_n 0, 1) := by decide +kernel
theorem dX0_cleanOld_22 : decode cX0_cleanOld 22 = .ok (.aload_n 0, 1) := by decide +kernel
theorem dX0_cleanOld_26 : decode cX0_cleanOld 26 = .ok (.invokevirtual 90, 3) := by decide +kernel
theorem dX0_cleanOld_29 : decode cX0_cleanOld 29 = .ok (.istore_n 1, 1) := by decide +kernel
theorem dX0_cleanOld_30 : decode cX0_cleanOld 30 = .ok (.aload_n 0, 1) := by decide +kernel
theorem dX0_cleanOld_31 : decode cX0_cleanOld 31 = .ok (.aload_n 0, 1) := by decide +kernel
theorem dX0_cleanOld_32 : decode cX0_cleanOld 32 = .ok (.aload_n 0, 1) := by decide +kernel
theorem dX0_cleanOld_36 : decode cX0_cleanOld 36 = .ok (.invokevirtual 94, 3) := by decide +kernel
theorem dX0_cleanOld_42 : decode cX0_cleanOld 42 = .ok (.aload_n 0, 1) := by decide +kernel
theorem dX0_cleanOld_43 : decode cX0_cleanOld 43 = .ok (.invokevirtual 97, 3) := by decide +kernel
theorem dX0_cleanOld_46 : decode cX0_cleanOld 46 = .ok (.iload_n 1, 1) := by decide +kernel
theorem dX0_cleanOld_47 : decode cX0_cleanOld 47 = .ok (.ireturn, 1) := by decide +kernel
theorem dX0_cleanOld_39 : decode cX0_cleanOld 39 = .ok (.putfield 28, 3) := by decide +kernel
theorem dX0_cleanOld_33 : decode cX0_cleanOld 33 = .ok (.getfield 19, 3) := by decide +kernel
theorem dX0_cleanOld_23 : decode cX0_cleanOld 23 = .ok (.getfield 70, 3) := by decide +kernel
theorem dX0_cleanOld_19 : decode cX0_cleanOld 19 = .ok (.getfield 80, 3) := by decide +kernel
theorem dX0_cleanOld_12 : decode cX0_cleanOld 12 = .ok (.getfield 70, 3) := by decide +kernel
theorem dX0_cleanOld_8 : decode cX0_cleanOld 8 = .ok (.getfield 80, 3) := by decide +kernel
theorem dX0_cleanOld_1 : decode cX0_cleanOld 1 = .ok (.getfield 70, 3) := by decide +kernel
theorem dX0_findOldRoom_0 : decode cX0_findOldRoom 0 = .ok (.aload_n 0, 1) := by decide +kernel
theorem dX0_findOldRoom_4 : decode cX0_findOldRoom 4 = .ok (.iload_n 1, 1) := by decide +kernel
theorem dX0_findOldRoom_5 : decode cX0_findOldRoom 5 = .ok (.iadd, 1) := by decide +kernel
theorem dX0_findOldRoom_6 : decode cX0_findOldRoom 6 = .ok (.aload_n 0, 1) := by decide +kernel
theorem dX0_findOldRoom_18 : decode cX0_findOldRoom 18 = .ok (.aload_n 0, 1) := by decide +kernel
theorem dX0_findOldRoom_22 : decode cX0_findOldRoom 22 = .ok (.iload_n 1, 1) := by decide +kernel
theorem dX0_findOldRoom_23 : decode cX0_findOldRoom 23 = .ok (.iadd, 1) := by decide +kernel
theorem dX0_findOldRoom_24 : decode cX0_findOldRoom 24 = .ok (.aload_n 0, 1) := by decide +kernel
theorem dX0_findOldRoom_35 : decode cX0_findOldRoom 35 = .ok (.aload_n 0, 1) := by decide +kernel
theorem dX0_findOldRoom_39 : decode cX0_findOldRoom 39 = .ok (.ireturn, 1) := by decide +kernel
theorem dX0_findOldRoom_36 : decode cX0_findOldRoom 36 = .ok (.getfield 28, 3) := by decide +kernel
theorem dX0_findOldRoom_31 : decode cX0_findOldRoom 31 = .ok (.iconst (-1), 1) := by decide +kernel
theorem dX0_findOldRoom_32 : decode cX0_findOldRoom 32 = .ok (.goto 7, 3) := by decide +kernel
theorem dX0_findOldRoom_28 : decode cX0_findOldRoom 28 = .ok (.if_icmp .le 7, 3) := by decide +kernel
theorem dX0_findOldRoom_25 : decode cX0_findOldRoom 25 = .ok (.getfield 19, 3) := by decide +kernel
theorem dX0_findOldRoom_19 : decode cX0_findOldRoom 19 = .ok (.getfield 28, 3) := by decide +kernel
theorem dX0_findOldRoom_13 : decode cX0_findOldRoom 13 = .ok (.aload_n 0, 1) := by decide +kernel
theorem dX0_findOldRoom_14 : decode cX0_findOldRoom 14 = .ok (.invokevirtual 55, 3) := by decide +kernel
theorem dX0_findOldRoom_17 : decode cX0_findOldRoom 17 = .ok (.pop, 1) := by decide +kernel
theorem dX0_findOldRoom_10 : decode cX0_findOldRoom 10 = .ok (.if_icmp .le 8, 3) := by decide +kernel
theorem dX0_findOldRoom_7 : decode cX0_findOldRoom 7 = .ok (.getfield 19, 3) := by decide +kernel
theorem dX0_findOldRoom_1 : decode cX0_findOldRoom 1 = .ok (.getfield 28, 3) := by decide +kernel
theorem dX0_wordsGrowingOld_0 : decode cX0_wordsGrowingOld 0 = .ok (.iconst 0, 1) := by decide +kernel
theorem dX0_wordsGrowingOld_1 : decode cX0_wordsGrowingOld 1 = .ok (.istore_n 1, 1) := by decide +kernel
theorem dX0_wordsGrowingOld_2 : decode cX0_wordsGrowingOld 2 = .ok (.iconst 0, 1) := by decide +kernel
theorem dX0_wordsGrowingOld_3 : decode cX0_wordsGrowingOld 3 = .ok (.istore_n 2, 1) := by decide +kernel
theorem dX0_wordsGrowingOld_4 : decode cX0_wordsGrowingOld 4 = .ok (.iload_n 2, 1) := by decide +kernel
theorem dX0_wordsGrowingOld_5 : decode cX0_wordsGrowingOld 5 = .ok (.aload_n 0, 1) := by decide +kernel
theorem dX0_wordsGrowingOld_62 : decode cX0_wordsGrowingOld 62 = .ok (.iload_n 1, 1) := by decide +kernel
theorem dX0_wordsGrowingOld_63 : decode cX0_wordsGrowingOld 63 = .ok (.ireturn, 1) := by decide +kernel
theorem dX0_wordsGrowingOld_15 : decode cX0_wordsGrowingOld 15 = .ok (.aload_n 0, 1) := by decide +kernel
theorem dX0_wordsGrowingOld_19 : decode cX0_wordsGrowingOld 19 = .ok (.iload_n 2, 1) := by decide +kernel
theorem dX0_wordsGrowingOld_20 : decode cX0_wordsGrowingOld 20 = .ok (.invokevirtual 122, 3) := by decide +kernel
theorem dX0_wordsGrowingOld_23 : decode cX0_wordsGrowingOld 23 = .ok (.astore_n 3, 1) := by decide +kernel
theorem dX0_wordsGrowingOld_24 : decode cX0_wordsGrowingOld 24 = .ok (.aload_n 3, 1) := by decide +kernel
theorem dX0_wordsGrowingOld_25 : decode cX0_wordsGrowingOld 25 = .ok (.ifnull 31, 3) := by decide +kernel
theorem dX0_wordsGrowingOld_56 : decode cX0_wordsGrowingOld 56 = .ok (.iinc 2 1, 3) := by decide +kernel
theorem dX0_wordsGrowingOld_59 : decode cX0_wordsGrowingOld 59 = .ok (.goto (-55), 3) := by decide +kernel
theorem dX0_wordsGrowingOld_28 : decode cX0_wordsGrowingOld 28 = .ok (.aload_n 0, 1) := by decide +kernel
theorem dX0_wordsGrowingOld_29 : decode cX0_wordsGrowingOld 29 = .ok (.aload_n 3, 1) := by decide +kernel
theorem dX0_wordsGrowingOld_30 : decode cX0_wordsGrowingOld 30 = .ok (.invokevirtual 58, 3) := by decide +kernel
theorem dX0_wordsGrowingOld_33 : decode cX0_wordsGrowingOld 33 = .ok (.ifCond .eq 23, 3) := by decide +kernel
theorem dX0_wordsGrowingOld_36 : decode cX0_wordsGrowingOld 36 = .ok (.aload_n 3, 1) := by decide +kernel
theorem dX0_wordsGrowingOld_40 : decode cX0_wordsGrowingOld 40 = .ok (.iconst 1, 1) := by decide +kernel
theorem dX0_wordsGrowingOld_41 : decode cX0_wordsGrowingOld 41 = .ok (.iadd, 1) := by decide +kernel
theorem dX0_wordsGrowingOld_42 : decode cX0_wordsGrowingOld 42 = .ok (.aload_n 0, 1) := by decide +kernel
theorem dX0_wordsGrowingOld_49 : decode cX0_wordsGrowingOld 49 = .ok (.iload_n 1, 1) := by decide +kernel
theorem dX0_wordsGrowingOld_50 : decode cX0_wordsGrowingOld 50 = .ok (.aload_n 3, 1) := by decide +kernel
theorem dX0_wordsGrowingOld_54 : decode cX0_wordsGrowingOld 54 = .ok (.iadd, 1) := by decide +kernel
theorem dX0_wordsGrowingOld_55 : decode cX0_wordsGrowingOld 55 = .ok (.istore_n 1, 1) := by decide +kernel
theorem dX0_wordsGrowingOld_51 : decode cX0_wordsGrowingOld 51 = .ok (.getfield 67, 3) := by decide +kernel
theorem dX0_wordsGrowingOld_46 : decode cX0_wordsGrowingOld 46 = .ok (.if_icmp .lt 10, 3) := by decide +kernel
theorem dX0_wordsGrowingOld_43 : decode cX0_wordsGrowingOld 43 = .ok (.getfield 22, 3) := by decide +kernel
theorem dX0_wordsGrowingOld_37 : decode cX0_wordsGrowingOld 37 = .ok (.getfield 126, 3) := by decide +kernel
theorem dX0_wordsGrowingOld_16 : decode cX0_wordsGrowingOld 16 = .ok (.getfield 80, 3) := by decide +kernel
theorem dX0_wordsGrowingOld_12 : decode cX0_wordsGrowingOld 12 = .ok (.if_icmp .ge 50, 3) := by decide +kernel
theorem dX0_wordsGrowingOld_9 : decode cX0_wordsGrowingOld 9 = .ok (.getfield 119, 3) := by decide +kernel
theorem dX0_wordsGrowingOld_6 : decode cX0_wordsGrowingOld 6 = .ok (.getfield 80, 3) := by decide +kernel
theorem dX0_comeFromDirtyWords_0 : decode cX0_comeFromDirtyWords 0 = .ok (.iconst 0, 1) := by decide +kernel
theorem dX0_comeFromDirtyWords_1 : decode cX0_comeFromDirtyWords 1 = .ok (.istore_n 2, 1) := by decide +kernel
theorem dX0_comeFromDirtyWords_2 : decode cX0_comeFromDirtyWords 2 = .ok (.iload_n 2, 1) := by decide +kernel
theorem dX0_comeFromDirtyWords_3 : decode cX0_comeFromDirtyWords 3 = .ok (.aload_n 1, 1) := by decide +kernel
theorem dX0_comeFromDirtyWords_7 : decode cX0_comeFromDirtyWords 7 = .ok (.iconst 1, 1) := by decide +kernel
theorem dX0_comeFromDirtyWords_8 : decode cX0_comeFromDirtyWords 8 = .ok (.isub, 1) := by decide +kernel
theorem dX0_comeFromDirtyWords_61 : decode cX0_comeFromDirtyWords 61 = .ok (.return_, 1) := by decide +kernel
theorem dX0_comeFromDirtyWords_12 : decode cX0_comeFromDirtyWords 12 = .ok (.aload_n 0, 1) := by decide +kernel
theorem dX0_comeFromDirtyWords_13 : decode cX0_comeFromDirtyWords 13 = .ok (.aload_n 1, 1) := by decide +kernel
theorem dX0_comeFromDirtyWords_14 : decode cX0_comeFromDirtyWords 14 = .ok (.iload_n 2, 1) := by decide +kernel
theorem dX0_comeFromDirtyWords_15 : decode cX0_comeFromDirtyWords 15 = .ok (.invokevirtual 136, 3) := by decide +kernel
theorem dX0_comeFromDirtyWords_18 : decode cX0_comeFromDirtyWords 18 = .ok (.istore_n 3, 1) := by decide +kernel
theorem dX0_comeFromDirtyWords_19 : decode cX0_comeFromDirtyWords 19 = .ok (.iload_n 3, 1) := by decide +kernel
theorem dX0_comeFromDirtyWords_20 : decode cX0_comeFromDirtyWords 20 = .ok (.ifCond .lt 35, 3) := by decide +kernel
theorem dX0_comeFromDirtyWords_55 : decode cX0_comeFromDirtyWords 55 = .ok (.iinc 2 1, 3) := by decide +kernel
theorem dX0_comeFromDirtyWords_58 : decode cX0_comeFromDirtyWords 58 = .ok (.goto (-56), 3) := by decide +kernel
theorem dX0_comeFromDirtyWords_23 : decode cX0_comeFromDirtyWords 23 = .ok (.iload_n 3, 1) := by decide +kernel
theorem dX0_comeFromDirtyWords_24 : decode cX0_comeFromDirtyWords 24 = .ok (.sipush 375, 3) := by decide +kernel
theorem dX0_comeFromDirtyWords_30 : decode cX0_comeFromDirtyWords 30 = .ok (.aload_n 0, 1) := by decide +kernel
theorem dX0_comeFromDirtyWords_34 : decode cX0_comeFromDirtyWords 34 = .ok (.iload_n 3, 1) := by decide +kernel
theorem dX0_comeFromDirtyWords_39 : decode cX0_comeFromDirtyWords 39 = .ok (.aload_n 0, 1) := by decide +kernel
theorem dX0_comeFromDirtyWords_43 : decode cX0_comeFromDirtyWords 43 = .ok (.aload_n 0, 1) := by decide +kernel
theorem dX0_comeFromDirtyWords_47 : decode cX0_comeFromDirtyWords 47 = .ok (.aload_n 1, 1) := by decide +kernel
theorem dX0_comeFromDirtyWords_48 : decode cX0_comeFromDirtyWords 48 = .ok (.iload_n 2, 1) := by decide +kernel
theorem dX0_comeFromDirtyWords_49 : decode cX0_comeFromDirtyWords 49 = .ok (.invokevirtual 140, 3) := by decide +kernel
theorem dX0_comeFromDirtyWords_52 : decode cX0_comeFromDirtyWords 52 = .ok (.invokevirtual 144, 3) := by decide +kernel
theorem dX0_comeFromDirtyWords_44 : decode cX0_comeFromDirtyWords 44 = .ok (.getfield 80, 3) := by decide +kernel
theorem dX0_comeFromDirtyWords_40 : decode cX0_comeFromDirtyWords 40 = .ok (.getfield 70, 3) := by decide +kernel
theorem dX0_comeFromDirtyWords_36 : decode cX0_comeFromDirtyWords 36 = .ok (.ifCond .eq 19, 3) := by decide +kernel
theorem dX0_comeFromDirtyWords_35 : decode cX0_comeFromDirtyWords 35 = .ok (.iaload, 1) := by decide +kernel
theorem dX0_comeFromDirtyWords_31 : decode cX0_comeFromDirtyWords 31 = .ok (.getfield 9, 3) := by decide +kernel
theorem dX0_comeFromDirtyWords_27 : decode cX0_comeFromDirtyWords 27 = .ok (.if_icmp .ge 28, 3) := by decide +kernel
theorem dX0_comeFromDirtyWords_9 : decode cX0_comeFromDirtyWords 9 = .ok (.if_icmp .ge 52, 3) := by decide +kernel
theorem dX0_comeFromDirtyWords_4 : decode cX0_comeFromDirtyWords 4 = .ok (.getfield 67, 3) := by decide +kernel
theorem dX0_comeFromDirty_0 : decode cX0_comeFromDirty 0 = .ok (.iconst 0, 1) := by decide +kernel
theorem dX0_comeFromDirty_1 : decode cX0_comeFromDirty 1 = .ok (.istore_n 1, 1) := by decide +kernel
theorem dX0_comeFromDirty_2 : decode cX0_comeFromDirty 2 = .ok (.iload_n 1, 1) := by decide +kernel
theorem dX0_comeFromDirty_3 : decode cX0_comeFromDirty 3 = .ok (.aload_n 0, 1) := by decide +kernel
theorem dX0_comeFromDirty_44 : decode cX0_comeFromDirty 44 = .ok (.return_, 1) := by decide +kernel
theorem dX0_comeFromDirty_10 : decode cX0_comeFromDirty 10 = .ok (.aload_n 0, 1) := by decide +kernel
theorem dX0_comeFromDirty_14 : decode cX0_comeFromDirty 14 = .ok (.iload_n 1, 1) := by decide +kernel
theorem dX0_comeFromDirty_15 : decode cX0_comeFromDirty 15 = .ok (.invokevirtual 129, 3) := by decide +kernel
theorem dX0_comeFromDirty_18 : decode cX0_comeFromDirty 18 = .ok (.astore_n 2, 1) := by decide +kernel
theorem dX0_comeFromDirty_19 : decode cX0_comeFromDirty 19 = .ok (.aload_n 2, 1) := by decide +kernel
theorem dX0_comeFromDirty_20 : decode cX0_comeFromDirty 20 = .ok (.ifnonnull 9, 3) := by decide +kernel
theorem dX0_comeFromDirty_23 : decode cX0_comeFromDirty 23 = .ok (.iinc 1 1, 3) := by decide +kernel
theorem dX0_comeFromDirty_26 : decode cX0_comeFromDirty 26 = .ok (.goto 15, 3) := by decide +kernel
theorem dX0_comeFromDirty_41 : decode cX0_comeFromDirty 41 = .ok (.goto (-39), 3) := by decide +kernel
theorem dX0_comeFromDirty_29 : decode cX0_comeFromDirty 29 = .ok (.iload_n 1, 1) := by decide +kernel
theorem dX0_comeFromDirty_30 : decode cX0_comeFromDirty 30 = .ok (.aload_n 2, 1) := by decide +kernel
theorem dX0_comeFromDirty_34 : decode cX0_comeFromDirty 34 = .ok (.iadd, 1) := by decide +kernel
theorem dX0_comeFromDirty_35 : decode cX0_comeFromDirty 35 = .ok (.istore_n 1, 1) := by decide +kernel
theorem dX0_comeFromDirty_36 : decode cX0_comeFromDirty 36 = .ok (.aload_n 0, 1) := by decide +kernel
theorem dX0_comeFromDirty_37 : decode cX0_comeFromDirty 37 = .ok (.aload_n 2, 1) := by decide +kernel
theorem dX0_comeFromDirty_38 : decode cX0_comeFromDirty 38 = .ok (.invokevirtual 132, 3) := by decide +kernel
theorem dX0_comeFromDirty_31 : decode cX0_comeFromDirty 31 = .ok (.getfield 67, 3) := by decide +kernel
theorem dX0_comeFromDirty_11 : decode cX0_comeFromDirty 11 = .ok (.getfield 80, 3) := by decide +kernel
theorem dX0_comeFromDirty_7 : decode cX0_comeFromDirty 7 = .ok (.if_icmp .ge 37, 3) := by decide +kernel
theorem dX0_comeFromDirty_4 : decode cX0_comeFromDirty 4 = .ok (.getfield 28, 3) := by decide +kernel
theorem dX0_moveKept_0 : decode cX0_moveKept 0 = .ok (.aload_n 0, 1) := by decide +kernel
theorem dX0_moveKept_1 : decode cX0_moveKept 1 = .ok (.aload_n 0, 1) := by decide +kernel
theorem dX0_moveKept_5 : decode cX0_moveKept 5 = .ok (.aload_n 0, 1) := by decide +kernel
theorem dX0_moveKept_9 : decode cX0_moveKept 9 = .ok (.iadd, 1) := by decide +kernel
theorem dX0_moveKept_10 : decode cX0_moveKept 10 = .ok (.aload_n 0, 1) := by decide +kernel
theorem dX0_moveKept_14 : decode cX0_moveKept 14 = .ok (.iadd, 1) := by decide +kernel
theorem dX0_moveKept_15 : decode cX0_moveKept 15 = .ok (.aload_n 0, 1) := by decide +kernel
theorem dX0_moveKept_19 : decode cX0_moveKept 19 = .ok (.isub, 1) := by decide +kernel
theorem dX0_moveKept_23 : decode cX0_moveKept 23 = .ok (.aload_n 0, 1) := by decide +kernel
theorem dX0_moveKept_24 : decode cX0_moveKept 24 = .ok (.aload_n 0, 1) := by decide +kernel
theorem dX0_moveKept_31 : decode cX0_moveKept 31 = .ok (.iconst 0, 1) := by decide +kernel
theorem dX0_moveKept_32 : decode cX0_moveKept 32 = .ok (.istore_n 1, 1) := by decide +kernel
theorem dX0_moveKept_28 : decode cX0_moveKept 28 = .ok (.putfield 34, 3) := by decide +kernel
theorem dX0_moveKept_25 : decode cX0_moveKept 25 = .ok (.getfield 31, 3) := by decide +kernel
theorem dX0_moveKept_20 : decode cX0_moveKept 20 = .ok (.putfield 31, 3) := by decide +kernel
theorem dX0_moveKept_16 : decode cX0_moveKept 16 = .ok (.getfield 31, 3) := by decide +kernel
theorem dX0_moveKept_11 : decode cX0_moveKept 11 = .ok (.getfield 19, 3) := by decide +kernel
theorem dX0_moveKept_6 : decode cX0_moveKept 6 = .ok (.getfield 15, 3) := by decide +kernel
theorem dX0_moveKept_2 : decode cX0_moveKept 2 = .ok (.getfield 19, 3) := by decide +kernel
theorem dX0_moveKept_33 : decode cX0_moveKept 33 = .ok (.iload_n 1, 1) := by decide +kernel
theorem dX0_moveKept_34 : decode cX0_moveKept 34 = .ok (.aload_n 0, 1) := by decide +kernel
theorem dX0_moveKept_68 : decode cX0_moveKept 68 = .ok (.return_, 1) := by decide +kernel
theorem dX0_moveKept_44 : decode cX0_moveKept 44 = .ok (.aload_n 0, 1) := by decide +kernel
theorem dX0_moveKept_48 : decode cX0_moveKept 48 = .ok (.iload_n 1, 1) := by decide +kernel
theorem dX0_moveKept_49 : decode cX0_moveKept 49 = .ok (.invokevirtual 150, 3) := by decide +kernel
theorem dX0_moveKept_52 : decode cX0_moveKept 52 = .ok (.astore_n 2, 1) := by decide +kernel
theorem dX0_moveKept_53 : decode cX0_moveKept 53 = .ok (.aload_n 2, 1) := by decide +kernel
theorem dX0_moveKept_62 : decode cX0_moveKept 62 = .ok (.iinc 1 1, 3) := by decide +kernel
theorem dX0_moveKept_65 : decode cX0_moveKept 65 = .ok (.goto (-32), 3) := by decide +kernel
theorem dX0_moveKept_57 : decode cX0_moveKept 57 = .ok (.aload_n 0, 1) := by decide +kernel
theorem dX0_moveKept_58 : decode cX0_moveKept 58 = .ok (.aload_n 2, 1) := by decide +kernel
theorem dX0_moveKept_59 : decode cX0_moveKept 59 = .ok (.invokevirtual 153, 3) := by decide +kernel
theorem dX0_moveOlder_0 : decode cX0_moveOlder 0 = .ok (.aload_n 1, 1) := by decide +kernel
theorem dX0_moveOlder_1 : decode cX0_moveOlder 1 = .ok (.dup, 1) := by decide +kernel
theorem dX0_moveOlder_5 : decode cX0_moveOlder 5 = .ok (.iconst 1, 1) := by decide +kernel
theorem dX0_moveOlder_6 : decode cX0_moveOlder 6 = .ok (.iadd, 1) := by decide +kernel
theorem dX0_moveOlder_10 : decode cX0_moveOlder 10 = .ok (.aload_n 1, 1) := by decide +kernel
theorem dX0_moveOlder_14 : decode cX0_moveOlder 14 = .ok (.aload_n 0, 1) := by decide +kernel
theorem dX0_moveOlder_49 : decode cX0_moveOlder 49 = .ok (.aload_n 0, 1) := by decide +kernel
theorem dX0_moveOlder_53 : decode cX0_moveOlder 53 = .ok (.aload_n 1, 1) := by decide +kernel
theorem dX0_moveOlder_54 : decode cX0_moveOlder 54 = .ok (.aload_n 0, 1) := by decide +kernel
theorem dX0_moveOlder_58 : decode cX0_moveOlder 58 = .ok (.invokevirtual 156, 3) := by decide +kernel
theorem dX0_moveOlder_61 : decode cX0_moveOlder 61 = .ok (.aload_n 0, 1) := by decide +kernel
theorem dX0_moveOlder_62 : decode cX0_moveOlder 62 = .ok (.dup, 1) := by decide +kernel
theorem dX0_moveOlder_66 : decode cX0_moveOlder 66 = .ok (.aload_n 1, 1) := by decide +kernel
theorem dX0_moveOlder_70 : decode cX0_moveOlder 70 = .ok (.iadd, 1) := by decide +kernel
theorem dX0_moveOlder_74 : decode cX0_moveOlder 74 = .ok (.return_, 1) := by decide +kernel
theorem dX0_moveOlder_71 : decode cX0_moveOlder 71 = .ok (.putfield 34, 3) := by decide +kernel
theorem dX0_moveOlder_67 : decode cX0_moveOlder 67 = .ok (.getfield 67, 3) := by decide +kernel
theorem dX0_moveOlder_63 : decode cX0_moveOlder 63 = .ok (.getfield 34, 3) := by decide +kernel
theorem dX0_moveOlder_55 : decode cX0_moveOlder 55 = .ok (.getfield 34, 3) := by decide +kernel
theorem dX0_moveOlder_50 : decode cX0_moveOlder 50 = .ok (.getfield 80, 3) := by decide +kernel
theorem dX0_moveOlder_21 : decode cX0_moveOlder 21 = .ok (.aload_n 0, 1) := by decide +kernel
theorem dX0_moveOlder_25 : decode cX0_moveOlder 25 = .ok (.aload_n 1, 1) := by decide +kernel
theorem dX0_moveOlder_26 : decode cX0_moveOlder 26 = .ok (.aload_n 0, 1) := by decide +kernel
theorem dX0_moveOlder_30 : decode cX0_moveOlder 30 = .ok (.invokevirtual 156, 3) := by decide +kernel
theorem dX0_moveOlder_33 : decode cX0_moveOlder 33 = .ok (.aload_n 0, 1) := by decide +kernel
theorem dX0_moveOlder_34 : decode cX0_moveOlder 34 = .ok (.dup, 1) := by decide +kernel
theorem dX0_moveOlder_38 : decode cX0_moveOlder 38 = .ok (.aload_n 1, 1) := by decide +kernel
theorem dX0_moveOlder_42 : decode cX0_moveOlder 42 = .ok (.iadd, 1) := by decide +kernel
theorem dX0_moveOlder_46 : decode cX0_moveOlder 46 = .ok (.goto 28, 3) := by decide +kernel
theorem dX0_moveOlder_43 : decode cX0_moveOlder 43 = .ok (.putfield 28, 3) := by decide +kernel
theorem dX0_moveOlder_39 : decode cX0_moveOlder 39 = .ok (.getfield 67, 3) := by decide +kernel
theorem dX0_moveOlder_35 : decode cX0_moveOlder 35 = .ok (.getfield 28, 3) := by decide +kernel
theorem dX0_moveOlder_27 : decode cX0_moveOlder 27 = .ok (.getfield 28, 3) := by decide +kernel
theorem dX0_moveOlder_22 : decode cX0_moveOlder 22 = .ok (.getfield 80, 3) := by decide +kernel
theorem dX0_moveOlder_18 : decode cX0_moveOlder 18 = .ok (.if_icmp .lt 31, 3) := by decide +kernel
theorem dX0_moveOlder_15 : decode cX0_moveOlder 15 = .ok (.getfield 22, 3) := by decide +kernel
theorem dX0_moveOlder_11 : decode cX0_moveOlder 11 = .ok (.getfield 126, 3) := by decide +kernel
theorem dX0_moveOlder_7 : decode cX0_moveOlder 7 = .ok (.putfield 126, 3) := by decide +kernel
theorem dX0_moveOlder_2 : decode cX0_moveOlder 2 = .ok (.getfield 126, 3) := by decide +kernel
theorem dX0_moveKept_54 : decode cX0_moveKept 54 = .ok (.ifnull 8, 3) := by decide +kernel
theorem dX0_moveKept_45 : decode cX0_moveKept 45 = .ok (.getfield 70, 3) := by decide +kernel
theorem dX0_moveKept_41 : decode cX0_moveKept 41 = .ok (.if_icmp .ge 27, 3) := by decide +kernel
theorem dX0_moveKept_38 : decode cX0_moveKept 38 = .ok (.getfield 147, 3) := by decide +kernel
theorem dX0_moveKept_35 : decode cX0_moveKept 35 = .ok (.getfield 70, 3) := by decide +kernel
theorem dX0_cleanYoung_0 : decode cX0_cleanYoung 0 = .ok (.iconst 0, 1) := by decide +kernel
theorem dX0_cleanYoung_1 : decode cX0_cleanYoung 1 = .ok (.istore_n 1, 1) := by decide +kernel
theorem dX0_cleanYoung_2 : decode cX0_cleanYoung 2 = .ok (.aload_n 0, 1) := by decide +kernel
theorem dX0_cleanYoung_6 : decode cX0_cleanYoung 6 = .ok (.aload_n 0, 1) := by decide +kernel
theorem dX0_cleanYoung_7 : decode cX0_cleanYoung 7 = .ok (.invokevirtual 100, 3) := by decide +kernel
theorem dX0_cleanYoung_10 : decode cX0_cleanYoung 10 = .ok (.iadd, 1) := by decide +kernel
theorem dX0_cleanYoung_11 : decode cX0_cleanYoung 11 = .ok (.aload_n 0, 1) := by decide +kernel
theorem dX0_cleanYoung_23 : decode cX0_cleanYoung 23 = .ok (.aload_n 0, 1) := by decide +kernel
theorem dX0_cleanYoung_27 : decode cX0_cleanYoung 27 = .ok (.aload_n 0, 1) := by decide +kernel
theorem dX0_cleanYoung_28 : decode cX0_cleanYoung 28 = .ok (.invokevirtual 100, 3) := by decide +kernel
theorem dX0_cleanYoung_31 : decode cX0_cleanYoung 31 = .ok (.iadd, 1) := by decide +kernel
theorem dX0_cleanYoung_32 : decode cX0_cleanYoung 32 = .ok (.aload_n 0, 1) := by decide +kernel
theorem dX0_cleanYoung_41 : decode cX0_cleanYoung 41 = .ok (.aload_n 0, 1) := by decide +kernel
theorem dX0_cleanYoung_45 : decode cX0_cleanYoung 45 = .ok (.aload_n 0, 1) := by decide +kernel
theorem dX0_cleanYoung_49 : decode cX0_cleanYoung 49 = .ok (.invokevirtual 103, 3) := by decide +kernel
theorem dX0_cleanYoung_52 : decode cX0_cleanYoung 52 = .ok (.aload_n 0, 1) := by decide +kernel
theorem dX0_cleanYoung_56 : decode cX0_cleanYoung 56 = .ok (.invokevirtual 107, 3) := by decide +kernel
theorem dX0_cleanYoung_59 : decode cX0_cleanYoung 59 = .ok (.aload_n 0, 1) := by decide +kernel
theorem dX0_cleanYoung_60 : decode cX0_cleanYoung 60 = .ok (.invokevirtual 110, 3) := by decide +kernel
theorem dX0_cleanYoung_63 : decode cX0_cleanYoung 63 = .ok (.aload_n 0, 1) := by decide +kernel
theorem dX0_cleanYoung_67 : decode cX0_cleanYoung 67 = .ok (.sipush 512, 3) := by decide +kernel
theorem dX0_cleanYoung_70 : decode cX0_cleanYoung 70 = .ok (.invokevirtual 113, 3) := by decide +kernel
theorem dX0_cleanYoung_73 : decode cX0_cleanYoung 73 = .ok (.pop, 1) := by decide +kernel
theorem dX0_cleanYoung_74 : decode cX0_cleanYoung 74 = .ok (.aload_n 0, 1) := by decide +kernel
theorem dX0_cleanYoung_78 : decode cX0_cleanYoung 78 = .ok (.aload_n 0, 1) := by decide +kernel
theorem dX0_cleanYoung_82 : decode cX0_cleanYoung 82 = .ok (.invokevirtual 84, 3) := by decide +kernel
theorem dX0_cleanYoung_85 : decode cX0_cleanYoung 85 = .ok (.iload_n 1, 1) := by decide +kernel
theorem dX0_cleanYoung_86 : decode cX0_cleanYoung 86 = .ok (.aload_n 0, 1) := by decide +kernel
theorem dX0_cleanYoung_90 : decode cX0_cleanYoung 90 = .ok (.aload_n 0, 1) := by decide +kernel
theorem dX0_cleanYoung_94 : decode cX0_cleanYoung 94 = .ok (.invokevirtual 90, 3) := by decide +kernel
theorem dX0_cleanYoung_97 : decode cX0_cleanYoung 97 = .ok (.iadd, 1) := by decide +kernel
theorem dX0_cleanYoung_98 : decode cX0_cleanYoung 98 = .ok (.istore_n 1, 1) := by decide +kernel
theorem dX0_cleanYoung_99 : decode cX0_cleanYoung 99 = .ok (.aload_n 0, 1) := by decide +kernel
theorem dX0_cleanYoung_100 : decode cX0_cleanYoung 100 = .ok (.invokevirtual 116, 3) := by decide +kernel
theorem dX0_cleanYoung_103 : decode cX0_cleanYoung 103 = .ok (.aload_n 0, 1) := by decide +kernel
theorem dX0_cleanYoung_104 : decode cX0_cleanYoung 104 = .ok (.invokevirtual 97, 3) := by decide +kernel
theorem dX0_cleanYoung_107 : decode cX0_cleanYoung 107 = .ok (.iload_n 1, 1) := by decide +kernel
theorem dX0_cleanYoung_108 : decode cX0_cleanYoung 108 = .ok (.ireturn, 1) := by decide +kernel
theorem dX0_cleanYoung_91 : decode cX0_cleanYoung 91 = .ok (.getfield 70, 3) := by decide +kernel
theorem dX0_cleanYoung_87 : decode cX0_cleanYoung 87 = .ok (.getfield 80, 3) := by decide +kernel
theorem dX0_cleanYoung_79 : decode cX0_cleanYoung 79 = .ok (.getfield 70, 3) := by decide +kernel
theorem dX0_cleanYoung_75 : decode cX0_cleanYoung 75 = .ok (.getfield 80, 3) := by decide +kernel
theorem dX0_cleanYoung_64 : decode cX0_cleanYoung 64 = .ok (.getfield 70, 3) := by decide +kernel
theorem dX0_cleanYoung_53 : decode cX0_cleanYoung 53 = .ok (.getfield 70, 3) := by decide +kernel
theorem dX0_cleanYoung_46 : decode cX0_cleanYoung 46 = .ok (.getfield 19, 3) := by decide +kernel
theorem dX0_cleanYoung_42 : decode cX0_cleanYoung 42 = .ok (.getfield 70, 3) := by decide +kernel
theorem dX0_cleanYoung_39 : decode cX0_cleanYoung 39 = .ok (.iload_n 1, 1) := by decide +kernel
theorem dX0_cleanYoung_40 : decode cX0_cleanYoung 40 = .ok (.ireturn, 1) := by decide +kernel
theorem dX0_cleanYoung_36 : decode cX0_cleanYoung 36 = .ok (.if_icmp .le 5, 3) := by decide +kernel
theorem dX0_cleanYoung_33 : decode cX0_cleanYoung 33 = .ok (.getfield 19, 3) := by decide +kernel
theorem dX0_cleanYoung_24 : decode cX0_cleanYoung 24 = .ok (.getfield 28, 3) := by decide +kernel
theorem dX0_cleanYoung_18 : decode cX0_cleanYoung 18 = .ok (.aload_n 0, 1) := by decide +kernel
theorem dX0_cleanYoung_19 : decode cX0_cleanYoung 19 = .ok (.invokevirtual 55, 3) := by decide +kernel
theorem dX0_cleanYoung_22 : decode cX0_cleanYoung 22 = .ok (.istore_n 1, 1) := by decide +kernel
theorem dX0_cleanYoung_15 : decode cX0_cleanYoung 15 = .ok (.if_icmp .le 8, 3) := by decide +kernel
theorem dX0_cleanYoung_12 : decode cX0_cleanYoung 12 = .ok (.getfield 19, 3) := by decide +kernel
theorem dX0_cleanYoung_3 : decode cX0_cleanYoung 3 = .ok (.getfield 28, 3) := by decide +kernel
theorem dX0_cleanAll_0 : decode cX0_cleanAll 0 = .ok (.aload_n 0, 1) := by decide +kernel
theorem dX0_cleanAll_1 : decode cX0_cleanAll 1 = .ok (.invokevirtual 55, 3) := by decide +kernel
theorem dX0_cleanAll_4 : decode cX0_cleanAll 4 = .ok (.istore_n 1, 1) := by decide +kernel
theorem dX0_cleanAll_5 : decode cX0_cleanAll 5 = .ok (.iload_n 1, 1) := by decide +kernel
theorem dX0_cleanAll_6 : decode cX0_cleanAll 6 = .ok (.aload_n 0, 1) := by decide +kernel
theorem dX0_cleanAll_7 : decode cX0_cleanAll 7 = .ok (.invokevirtual 51, 3) := by decide +kernel
theorem dX0_cleanAll_10 : decode cX0_cleanAll 10 = .ok (.iadd, 1) := by decide +kernel
theorem dX0_cleanAll_11 : decode cX0_cleanAll 11 = .ok (.ireturn, 1) := by decide +kernel
theorem dX0_findRoom_0 : decode cX0_findRoom 0 = .ok (.iload_n 1, 1) := by decide +kernel
theorem dX0_findRoom_1 : decode cX0_findRoom 1 = .ok (.aload_n 0, 1) := by decide +kernel
theorem dX0_findRoom_5 : decode cX0_findRoom 5 = .ok (.iconst 2, 1) := by decide +kernel
theorem dX0_findRoom_6 : decode cX0_findRoom 6 = .ok (.idiv, 1) := by decide +kernel
theorem dX0_findRoom_16 : decode cX0_findRoom 16 = .ok (.aload_n 0, 1) := by decide +kernel
theorem dX0_findRoom_17 : decode cX0_findRoom 17 = .ok (.iload_n 1, 1) := by decide +kernel
theorem dX0_findRoom_18 : decode cX0_findRoom 18 = .ok (.invokevirtual 47, 3) := by decide +kernel
theorem dX0_hasYoungRoom_0 : decode cX0_hasYoungRoom 0 = .ok (.aload_n 0, 1) := by decide +kernel
theorem dX0_hasYoungRoom_4 : decode cX0_hasYoungRoom 4 = .ok (.iload_n 1, 1) := by decide +kernel
theorem dX0_hasYoungRoom_5 : decode cX0_hasYoungRoom 5 = .ok (.iadd, 1) := by decide +kernel
theorem dX0_hasYoungRoom_6 : decode cX0_hasYoungRoom 6 = .ok (.aload_n 0, 1) := by decide +kernel
theorem dX0_hasYoungRoom_10 : decode cX0_hasYoungRoom 10 = .ok (.aload_n 0, 1) := by decide +kernel
theorem dX0_hasYoungRoom_14 : decode cX0_hasYoungRoom 14 = .ok (.iadd, 1) := by decide +kernel
theorem dX0_hasYoungRoom_22 : decode cX0_hasYoungRoom 22 = .ok (.iconst 0, 1) := by decide +kernel
theorem dX0_findRoom_21 : decode cX0_findRoom 21 = .ok (.ifCond .ne 8, 3) := by decide +kernel
theorem dX0_findRoom_24 : decode cX0_findRoom 24 = .ok (.aload_n 0, 1) := by decide +kernel
theorem dX0_findRoom_25 : decode cX0_findRoom 25 = .ok (.invokevirtual 51, 3) := by decide +kernel
theorem dX0_findRoom_28 : decode cX0_findRoom 28 = .ok (.pop, 1) := by decide +kernel
theorem dX0_findRoom_29 : decode cX0_findRoom 29 = .ok (.aload_n 0, 1) := by decide +kernel
theorem dX0_findRoom_30 : decode cX0_findRoom 30 = .ok (.iload_n 1, 1) := by decide +kernel
theorem dX0_findRoom_31 : decode cX0_findRoom 31 = .ok (.invokevirtual 47, 3) := by decide +kernel
theorem dX0_findRoom_34 : decode cX0_findRoom 34 = .ok (.ifCond .ne 13, 3) := by decide +kernel
theorem dX0_findRoom_37 : decode cX0_findRoom 37 = .ok (.aload_n 0, 1) := by decide +kernel
theorem dX0_findRoom_38 : decode cX0_findRoom 38 = .ok (.invokevirtual 55, 3) := by decide +kernel
theorem dX0_findRoom_41 : decode cX0_findRoom 41 = .ok (.pop, 1) := by decide +kernel
theorem dX0_findRoom_42 : decode cX0_findRoom 42 = .ok (.aload_n 0, 1) := by decide +kernel
theorem dX0_findRoom_43 : decode cX0_findRoom 43 = .ok (.invokevirtual 51, 3) := by decide +kernel
theorem dX0_findRoom_46 : decode cX0_findRoom 46 = .ok (.pop, 1) := by decide +kernel
theorem dX0_findRoom_47 : decode cX0_findRoom 47 = .ok (.aload_n 0, 1) := by decide +kernel
theorem dX0_findRoom_48 : decode cX0_findRoom 48 = .ok (.iload_n 1, 1) := by decide +kernel
theorem dX0_findRoom_49 : decode cX0_findRoom 49 = .ok (.invokevirtual 47, 3) := by decide +kernel
theorem dX0_findRoom_52 : decode cX0_findRoom 52 = .ok (.ifCond .eq 10, 3) := by decide +kernel
theorem dX0_findRoom_62 : decode cX0_findRoom 62 = .ok (.iconst (-1), 1) := by decide +kernel
theorem dX0_findRoom_63 : decode cX0_findRoom 63 = .ok (.ireturn, 1) := by decide +kernel
theorem dX0_hasYoungRoom_23 : decode cX0_hasYoungRoom 23 = .ok (.ireturn, 1) := by decide +kernel
theorem dX0_hasYoungRoom_18 : decode cX0_hasYoungRoom 18 = .ok (.iconst 1, 1) := by decide +kernel
theorem dX0_hasYoungRoom_19 : decode cX0_hasYoungRoom 19 = .ok (.goto 4, 3) := by decide +kernel
theorem dX0_findRoom_55 : decode cX0_findRoom 55 = .ok (.aload_n 0, 1) := by decide +kernel
theorem dX0_findRoom_59 : decode cX0_findRoom 59 = .ok (.goto 4, 3) := by decide +kernel
theorem dX0_findRoom_56 : decode cX0_findRoom 56 = .ok (.getfield 34, 3) := by decide +kernel
theorem dX0_hasYoungRoom_15 : decode cX0_hasYoungRoom 15 = .ok (.if_icmp .gt 7, 3) := by decide +kernel
theorem dX0_hasYoungRoom_11 : decode cX0_hasYoungRoom 11 = .ok (.getfield 15, 3) := by decide +kernel
theorem dX0_hasYoungRoom_7 : decode cX0_hasYoungRoom 7 = .ok (.getfield 31, 3) := by decide +kernel
theorem dX0_hasYoungRoom_1 : decode cX0_hasYoungRoom 1 = .ok (.getfield 34, 3) := by decide +kernel
theorem dX0_findRoom_10 : decode cX0_findRoom 10 = .ok (.aload_n 0, 1) := by decide +kernel
theorem dX0_findRoom_11 : decode cX0_findRoom 11 = .ok (.iload_n 1, 1) := by decide +kernel
theorem dX0_findRoom_12 : decode cX0_findRoom 12 = .ok (.invokevirtual 43, 3) := by decide +kernel
theorem dX0_findRoom_15 : decode cX0_findRoom 15 = .ok (.ireturn, 1) := by decide +kernel
theorem dX0_findRoom_7 : decode cX0_findRoom 7 = .ok (.if_icmp .le 9, 3) := by decide +kernel
theorem dX0_findRoom_2 : decode cX0_findRoom 2 = .ok (.getfield 15, 3) := by decide +kernel

