/-! instructions, decoded, of the reference -/
theorem dX12_four_0 : decode cX12_four 0 = .ok (.bipush 24, 2) := by decide +kernel
theorem dX12_four_2 : decode cX12_four 2 = .ok (.istore_n 2, 1) := by decide +kernel
theorem dX12_four_3 : decode cX12_four 3 = .ok (.iload_n 2, 1) := by decide +kernel
theorem dX12_four_36 : decode cX12_four 36 = .ok (.return_, 1) := by decide +kernel
theorem dX12_four_7 : decode cX12_four 7 = .ok (.aload_n 0, 1) := by decide +kernel
theorem dX12_four_11 : decode cX12_four 11 = .ok (.aload_n 0, 1) := by decide +kernel
theorem dX12_four_15 : decode cX12_four 15 = .ok (.iload_n 1, 1) := by decide +kernel
theorem dX12_four_16 : decode cX12_four 16 = .ok (.iload_n 2, 1) := by decide +kernel
theorem dX12_four_17 : decode cX12_four 17 = .ok (.ishr, 1) := by decide +kernel
theorem dX12_four_18 : decode cX12_four 18 = .ok (.i2b, 1) := by decide +kernel
theorem dX12_four_20 : decode cX12_four 20 = .ok (.aload_n 0, 1) := by decide +kernel
theorem dX12_four_21 : decode cX12_four 21 = .ok (.dup, 1) := by decide +kernel
theorem dX12_four_25 : decode cX12_four 25 = .ok (.iconst 1, 1) := by decide +kernel
theorem dX12_four_26 : decode cX12_four 26 = .ok (.iadd, 1) := by decide +kernel
theorem dX12_four_30 : decode cX12_four 30 = .ok (.iinc 2 (-8), 3) := by decide +kernel
theorem dX12_four_33 : decode cX12_four 33 = .ok (.goto (-30), 3) := by decide +kernel
theorem dX12_four_27 : decode cX12_four 27 = .ok (.putfield 107, 3) := by decide +kernel
theorem dX12_four_22 : decode cX12_four 22 = .ok (.getfield 107, 3) := by decide +kernel
theorem dX12_four_19 : decode cX12_four 19 = .ok (.bastore, 1) := by decide +kernel
theorem dX12_four_12 : decode cX12_four 12 = .ok (.getfield 107, 3) := by decide +kernel
theorem dX12_four_8 : decode cX12_four 8 = .ok (.getfield 13, 3) := by decide +kernel
theorem dX12_four_4 : decode cX12_four 4 = .ok (.ifCond .lt 32, 3) := by decide +kernel
theorem dX12_token_0 : decode cX12_token 0 = .ok (.aload_n 0, 1) := by decide +kernel
theorem dX12_token_4 : decode cX12_token 4 = .ok (.aload_n 0, 1) := by decide +kernel
theorem dX12_token_38 : decode cX12_token 38 = .ok (.aload_n 0, 1) := by decide +kernel
theorem dX12_token_39 : decode cX12_token 39 = .ok (.aload_n 0, 1) := by decide +kernel
theorem dX12_token_43 : decode cX12_token 43 = .ok (.putfield 127, 3) := by decide +kernel
theorem dX12_token_40 : decode cX12_token 40 = .ok (.getfield 121, 3) := by decide +kernel
theorem dX12_token_11 : decode cX12_token 11 = .ok (.aload_n 0, 1) := by decide +kernel
theorem dX12_token_15 : decode cX12_token 15 = .ok (.aload_n 0, 1) := by decide +kernel
theorem dX12_token_20 : decode cX12_token 20 = .ok (.bipush 32, 2) := by decide +kernel
theorem dX12_token_25 : decode cX12_token 25 = .ok (.aload_n 0, 1) := by decide +kernel
theorem dX12_token_26 : decode cX12_token 26 = .ok (.dup, 1) := by decide +kernel
theorem dX12_token_30 : decode cX12_token 30 = .ok (.iconst 1, 1) := by decide +kernel
theorem dX12_token_31 : decode cX12_token 31 = .ok (.iadd, 1) := by decide +kernel
theorem dX12_token_35 : decode cX12_token 35 = .ok (.goto (-35), 3) := by decide +kernel
theorem dX12_token_32 : decode cX12_token 32 = .ok (.putfield 121, 3) := by decide +kernel
theorem dX12_token_27 : decode cX12_token 27 = .ok (.getfield 121, 3) := by decide +kernel
theorem dX12_token_22 : decode cX12_token 22 = .ok (.if_icmp .ne 16, 3) := by decide +kernel
theorem dX12_token_19 : decode cX12_token 19 = .ok (.baload, 1) := by decide +kernel
theorem dX12_token_16 : decode cX12_token 16 = .ok (.getfield 121, 3) := by decide +kernel
theorem dX12_token_12 : decode cX12_token 12 = .ok (.getfield 17, 3) := by decide +kernel
theorem dX12_token_8 : decode cX12_token 8 = .ok (.if_icmp .ge 30, 3) := by decide +kernel
theorem dX12_token_5 : decode cX12_token 5 = .ok (.getfield 124, 3) := by decide +kernel
theorem dX12_token_1 : decode cX12_token 1 = .ok (.getfield 121, 3) := by decide +kernel
theorem dX12_token_46 : decode cX12_token 46 = .ok (.aload_n 0, 1) := by decide +kernel
theorem dX12_token_50 : decode cX12_token 50 = .ok (.aload_n 0, 1) := by decide +kernel
theorem dX12_token_84 : decode cX12_token 84 = .ok (.aload_n 0, 1) := by decide +kernel
theorem dX12_token_85 : decode cX12_token 85 = .ok (.aload_n 0, 1) := by decide +kernel
theorem dX12_token_89 : decode cX12_token 89 = .ok (.aload_n 0, 1) := by decide +kernel
theorem dX12_token_93 : decode cX12_token 93 = .ok (.isub, 1) := by decide +kernel
theorem dX12_token_97 : decode cX12_token 97 = .ok (.aload_n 0, 1) := by decide +kernel
theorem dX12_token_108 : decode cX12_token 108 = .ok (.iconst 0, 1) := by decide +kernel
theorem dX12_token_109 : decode cX12_token 109 = .ok (.ireturn, 1) := by decide +kernel
theorem dX12_token_104 : decode cX12_token 104 = .ok (.iconst 1, 1) := by decide +kernel
theorem dX12_token_105 : decode cX12_token 105 = .ok (.goto 4, 3) := by decide +kernel
theorem dX12_token_101 : decode cX12_token 101 = .ok (.ifCond .le 7, 3) := by decide +kernel
theorem dX12_token_98 : decode cX12_token 98 = .ok (.getfield 130, 3) := by decide +kernel
theorem dX12_token_94 : decode cX12_token 94 = .ok (.putfield 130, 3) := by decide +kernel
theorem dX12_token_90 : decode cX12_token 90 = .ok (.getfield 127, 3) := by decide +kernel
theorem dX12_token_86 : decode cX12_token 86 = .ok (.getfield 121, 3) := by decide +kernel
theorem dX12_token_57 : decode cX12_token 57 = .ok (.aload_n 0, 1) := by decide +kernel
theorem dX12_token_61 : decode cX12_token 61 = .ok (.aload_n 0, 1) := by decide +kernel
theorem dX12_token_66 : decode cX12_token 66 = .ok (.bipush 32, 2) := by decide +kernel
theorem dX12_token_71 : decode cX12_token 71 = .ok (.aload_n 0, 1) := by decide +kernel
theorem dX12_token_72 : decode cX12_token 72 = .ok (.dup, 1) := by decide +kernel
theorem dX12_token_76 : decode cX12_token 76 = .ok (.iconst 1, 1) := by decide +kernel
theorem dX12_token_77 : decode cX12_token 77 = .ok (.iadd, 1) := by decide +kernel
theorem dX12_token_81 : decode cX12_token 81 = .ok (.goto (-35), 3) := by decide +kernel
theorem dX12_token_78 : decode cX12_token 78 = .ok (.putfield 121, 3) := by decide +kernel
theorem dX12_token_73 : decode cX12_token 73 = .ok (.getfield 121, 3) := by decide +kernel
theorem dX12_token_68 : decode cX12_token 68 = .ok (.if_icmp .eq 16, 3) := by decide +kernel
theorem dX12_token_65 : decode cX12_token 65 = .ok (.baload, 1) := by decide +kernel
theorem dX12_token_62 : decode cX12_token 62 = .ok (.getfield 121, 3) := by decide +kernel
theorem dX12_token_58 : decode cX12_token 58 = .ok (.getfield 17, 3) := by decide +kernel
theorem dX12_token_54 : decode cX12_token 54 = .ok (.if_icmp .ge 30, 3) := by decide +kernel
theorem dX12_token_51 : decode cX12_token 51 = .ok (.getfield 124, 3) := by decide +kernel
theorem dX12_token_47 : decode cX12_token 47 = .ok (.getfield 121, 3) := by decide +kernel
theorem dX12_is_0 : decode cX12_is 0 = .ok (.iload 5, 2) := by decide +kernel
theorem dX12_is_9 : decode cX12_is 9 = .ok (.iload 6, 2) := by decide +kernel
theorem dX12_is_18 : decode cX12_is 18 = .ok (.iload 7, 2) := by decide +kernel
theorem dX12_is_28 : decode cX12_is 28 = .ok (.bipush 7, 2) := by decide +kernel
theorem dX12_is_30 : decode cX12_is 30 = .ok (.istore 8, 2) := by decide +kernel
theorem dX12_is_32 : decode cX12_is 32 = .ok (.aload_n 0, 1) := by decide +kernel
theorem dX12_is_36 : decode cX12_is 36 = .ok (.iload 8, 2) := by decide +kernel
theorem dX12_is_43 : decode cX12_is 43 = .ok (.aload_n 0, 1) := by decide +kernel
theorem dX12_is_44 : decode cX12_is 44 = .ok (.iconst 0, 1) := by decide +kernel
theorem dX12_is_45 : decode cX12_is 45 = .ok (.iload_n 1, 1) := by decide +kernel
theorem dX12_is_46 : decode cX12_is 46 = .ok (.invokevirtual 136, 3) := by decide +kernel
theorem dX12_byteIs_0 : decode cX12_byteIs 0 = .ok (.aload_n 0, 1) := by decide +kernel
theorem dX12_byteIs_4 : decode cX12_byteIs 4 = .ok (.aload_n 0, 1) := by decide +kernel
theorem dX12_byteIs_8 : decode cX12_byteIs 8 = .ok (.iload_n 1, 1) := by decide +kernel
theorem dX12_byteIs_9 : decode cX12_byteIs 9 = .ok (.iadd, 1) := by decide +kernel
theorem dX12_byteIs_11 : decode cX12_byteIs 11 = .ok (.iload_n 2, 1) := by decide +kernel
theorem dX12_byteIs_19 : decode cX12_byteIs 19 = .ok (.iconst 0, 1) := by decide +kernel
theorem dX12_is_49 : decode cX12_is 49 = .ok (.ifCond .eq 86, 3) := by decide +kernel
theorem dX12_is_135 : decode cX12_is 135 = .ok (.iconst 0, 1) := by decide +kernel
theorem dX12_is_136 : decode cX12_is 136 = .ok (.ireturn, 1) := by decide +kernel
theorem dX12_byteIs_20 : decode cX12_byteIs 20 = .ok (.ireturn, 1) := by decide +kernel
theorem dX12_byteIs_15 : decode cX12_byteIs 15 = .ok (.iconst 1, 1) := by decide +kernel
theorem dX12_byteIs_16 : decode cX12_byteIs 16 = .ok (.goto 4, 3) := by decide +kernel
theorem dX12_is_52 : decode cX12_is 52 = .ok (.aload_n 0, 1) := by decide +kernel
theorem dX12_is_53 : decode cX12_is 53 = .ok (.iconst 1, 1) := by decide +kernel
theorem dX12_is_54 : decode cX12_is 54 = .ok (.iload_n 2, 1) := by decide +kernel
theorem dX12_is_55 : decode cX12_is 55 = .ok (.invokevirtual 136, 3) := by decide +kernel
theorem dX12_is_58 : decode cX12_is 58 = .ok (.ifCond .eq 77, 3) := by decide +kernel
theorem dX12_is_61 : decode cX12_is 61 = .ok (.aload_n 0, 1) := by decide +kernel
theorem dX12_is_62 : decode cX12_is 62 = .ok (.iconst 2, 1) := by decide +kernel
theorem dX12_is_63 : decode cX12_is 63 = .ok (.iload_n 3, 1) := by decide +kernel
theorem dX12_is_64 : decode cX12_is 64 = .ok (.invokevirtual 136, 3) := by decide +kernel
theorem dX12_is_67 : decode cX12_is 67 = .ok (.ifCond .eq 68, 3) := by decide +kernel
theorem dX12_is_70 : decode cX12_is 70 = .ok (.aload_n 0, 1) := by decide +kernel
theorem dX12_is_71 : decode cX12_is 71 = .ok (.iconst 3, 1) := by decide +kernel
theorem dX12_is_72 : decode cX12_is 72 = .ok (.iload 4, 2) := by decide +kernel
theorem dX12_is_74 : decode cX12_is 74 = .ok (.invokevirtual 136, 3) := by decide +kernel
theorem dX12_is_77 : decode cX12_is 77 = .ok (.ifCond .eq 58, 3) := by decide +kernel
theorem dX12_is_80 : decode cX12_is 80 = .ok (.iload 8, 2) := by decide +kernel
theorem dX12_is_82 : decode cX12_is 82 = .ok (.iconst 5, 1) := by decide +kernel
theorem dX12_is_83 : decode cX12_is 83 = .ok (.if_icmp .lt 13, 3) := by decide +kernel
theorem dX12_is_86 : decode cX12_is 86 = .ok (.aload_n 0, 1) := by decide +kernel
theorem dX12_is_87 : decode cX12_is 87 = .ok (.iconst 4, 1) := by decide +kernel
theorem dX12_is_88 : decode cX12_is 88 = .ok (.iload 5, 2) := by decide +kernel
theorem dX12_is_90 : decode cX12_is 90 = .ok (.invokevirtual 136, 3) := by decide +kernel
theorem dX12_is_93 : decode cX12_is 93 = .ok (.ifCond .eq 42, 3) := by decide +kernel
theorem dX12_is_96 : decode cX12_is 96 = .ok (.iload 8, 2) := by decide +kernel
theorem dX12_is_98 : decode cX12_is 98 = .ok (.bipush 6, 2) := by decide +kernel
theorem dX12_is_100 : decode cX12_is 100 = .ok (.if_icmp .lt 13, 3) := by decide +kernel
theorem dX12_is_103 : decode cX12_is 103 = .ok (.aload_n 0, 1) := by decide +kernel
theorem dX12_is_104 : decode cX12_is 104 = .ok (.iconst 5, 1) := by decide +kernel
theorem dX12_is_105 : decode cX12_is 105 = .ok (.iload 6, 2) := by decide +kernel
theorem dX12_is_107 : decode cX12_is 107 = .ok (.invokevirtual 136, 3) := by decide +kernel
theorem dX12_is_110 : decode cX12_is 110 = .ok (.ifCond .eq 25, 3) := by decide +kernel
theorem dX12_is_113 : decode cX12_is 113 = .ok (.iload 8, 2) := by decide +kernel
theorem dX12_is_115 : decode cX12_is 115 = .ok (.bipush 7, 2) := by decide +kernel
theorem dX12_is_117 : decode cX12_is 117 = .ok (.if_icmp .lt 14, 3) := by decide +kernel
theorem dX12_is_120 : decode cX12_is 120 = .ok (.aload_n 0, 1) := by decide +kernel
theorem dX12_is_121 : decode cX12_is 121 = .ok (.bipush 6, 2) := by decide +kernel
theorem dX12_is_123 : decode cX12_is 123 = .ok (.iload 7, 2) := by decide +kernel
theorem dX12_is_125 : decode cX12_is 125 = .ok (.invokevirtual 136, 3) := by decide +kernel
theorem dX12_is_128 : decode cX12_is 128 = .ok (.ifCond .eq 7, 3) := by decide +kernel
theorem dX12_is_131 : decode cX12_is 131 = .ok (.iconst 1, 1) := by decide +kernel
theorem dX12_is_132 : decode cX12_is 132 = .ok (.goto 4, 3) := by decide +kernel
theorem dX12_byteIs_12 : decode cX12_byteIs 12 = .ok (.if_icmp .ne 7, 3) := by decide +kernel
theorem dX12_byteIs_10 : decode cX12_byteIs 10 = .ok (.baload, 1) := by decide +kernel
theorem dX12_byteIs_5 : decode cX12_byteIs 5 = .ok (.getfield 127, 3) := by decide +kernel
theorem dX12_byteIs_1 : decode cX12_byteIs 1 = .ok (.getfield 17, 3) := by decide +kernel
theorem dX12_is_41 : decode cX12_is 41 = .ok (.iconst 0, 1) := by decide +kernel
theorem dX12_is_42 : decode cX12_is 42 = .ok (.ireturn, 1) := by decide +kernel
theorem dX12_is_38 : decode cX12_is 38 = .ok (.if_icmp .eq 5, 3) := by decide +kernel
theorem dX12_is_33 : decode cX12_is 33 = .ok (.getfield 130, 3) := by decide +kernel
theorem dX12_is_23 : decode cX12_is 23 = .ok (.bipush 6, 2) := by decide +kernel
theorem dX12_is_25 : decode cX12_is 25 = .ok (.goto 5, 3) := by decide +kernel
theorem dX12_is_20 : decode cX12_is 20 = .ok (.ifCond .ne 8, 3) := by decide +kernel
theorem dX12_is_14 : decode cX12_is 14 = .ok (.iconst 5, 1) := by decide +kernel
theorem dX12_is_15 : decode cX12_is 15 = .ok (.goto 15, 3) := by decide +kernel
theorem dX12_is_11 : decode cX12_is 11 = .ok (.ifCond .ne 7, 3) := by decide +kernel
theorem dX12_is_5 : decode cX12_is 5 = .ok (.iconst 4, 1) := by decide +kernel
theorem dX12_is_6 : decode cX12_is 6 = .ok (.goto 24, 3) := by decide +kernel
theorem dX12_is_2 : decode cX12_is 2 = .ok (.ifCond .ne 7, 3) := by decide +kernel
theorem dX12_number_0 : decode cX12_number 0 = .ok (.aload_n 0, 1) := by decide +kernel
theorem dX12_number_1 : decode cX12_number 1 = .ok (.invokevirtual 140, 3) := by decide +kernel
theorem dX12_number_16 : decode cX12_number 16 = .ok (.aload_n 0, 1) := by decide +kernel
theorem dX12_number_20 : decode cX12_number 20 = .ok (.iconst 5, 1) := by decide +kernel
theorem dX12_number_28 : decode cX12_number 28 = .ok (.iconst 0, 1) := by decide +kernel
theorem dX12_number_29 : decode cX12_number 29 = .ok (.istore_n 3, 1) := by decide +kernel
theorem dX12_number_30 : decode cX12_number 30 = .ok (.iconst 0, 1) := by decide +kernel
theorem dX12_number_31 : decode cX12_number 31 = .ok (.istore 4, 2) := by decide +kernel
theorem dX12_number_33 : decode cX12_number 33 = .ok (.iconst 0, 1) := by decide +kernel
theorem dX12_number_34 : decode cX12_number 34 = .ok (.istore 5, 2) := by decide +kernel
theorem dX12_number_24 : decode cX12_number 24 = .ok (.iconst 1, 1) := by decide +kernel
theorem dX12_number_25 : decode cX12_number 25 = .ok (.goto 4, 3) := by decide +kernel
theorem dX12_number_21 : decode cX12_number 21 = .ok (.if_icmp .gt 7, 3) := by decide +kernel
theorem dX12_number_17 : decode cX12_number 17 = .ok (.getfield 130, 3) := by decide +kernel
theorem dX12_number_7 : decode cX12_number 7 = .ok (.aload_n 0, 1) := by decide +kernel
theorem dX12_number_8 : decode cX12_number 8 = .ok (.aload_n 0, 1) := by decide +kernel
theorem dX12_number_12 : decode cX12_number 12 = .ok (.invokevirtual 144, 3) := by decide +kernel
theorem dX12_wrong_0 : decode cX12_wrong 0 = .ok (.aload_n 0, 1) := by decide +kernel
theorem dX12_wrong_1 : decode cX12_wrong 1 = .ok (.iload_n 1, 1) := by decide +kernel
theorem dX12_wrong_5 : decode cX12_wrong 5 = .ok (.iconst 0, 1) := by decide +kernel
theorem dX12_number_15 : decode cX12_number 15 = .ok (.ireturn, 1) := by decide +kernel
theorem dX12_wrong_6 : decode cX12_wrong 6 = .ok (.ireturn, 1) := by decide +kernel
theorem dX12_wrong_2 : decode cX12_wrong 2 = .ok (.putfield 133, 3) := by decide +kernel
theorem dX12_number_9 : decode cX12_number 9 = .ok (.getfield 124, 3) := by decide +kernel
theorem dX12_number_4 : decode cX12_number 4 = .ok (.ifCond .ne 12, 3) := by decide +kernel
theorem dX12_number_36 : decode cX12_number 36 = .ok (.iload 5, 2) := by decide +kernel
theorem dX12_number_38 : decode cX12_number 38 = .ok (.aload_n 0, 1) := by decide +kernel
theorem dX12_number_102 : decode cX12_number 102 = .ok (.aload_n 0, 1) := by decide +kernel
theorem dX12_number_103 : decode cX12_number 103 = .ok (.iload 4, 2) := by decide +kernel
theorem dX12_number_108 : decode cX12_number 108 = .ok (.iload_n 3, 1) := by decide +kernel
theorem dX12_number_124 : decode cX12_number 124 = .ok (.aload_n 0, 1) := by decide +kernel
theorem dX12_number_125 : decode cX12_number 125 = .ok (.aload_n 0, 1) := by decide +kernel
theorem dX12_number_129 : decode cX12_number 129 = .ok (.invokevirtual 144, 3) := by decide +kernel
theorem dX12_number_132 : decode cX12_number 132 = .ok (.ifCond .eq 7, 3) := by decide +kernel
theorem dX12_number_139 : decode cX12_number 139 = .ok (.iconst 0, 1) := by decide +kernel
theorem dX12_number_140 : decode cX12_number 140 = .ok (.ireturn, 1) := by decide +kernel
theorem dX12_number_126 : decode cX12_number 126 = .ok (.getfield 127, 3) := by decide +kernel
theorem dX12_number_112 : decode cX12_number 112 = .ok (.iload 4, 2) := by decide +kernel
theorem dX12_number_114 : decode cX12_number 114 = .ok (.iload_n 1, 1) := by decide +kernel
theorem dX12_number_118 : decode cX12_number 118 = .ok (.iload 4, 2) := by decide +kernel
theorem dX12_number_120 : decode cX12_number 120 = .ok (.iload_n 2, 1) := by decide +kernel
theorem dX12_number_135 : decode cX12_number 135 = .ok (.iconst 1, 1) := by decide +kernel
theorem dX12_number_136 : decode cX12_number 136 = .ok (.goto 4, 3) := by decide +kernel
theorem dX12_number_121 : decode cX12_number 121 = .ok (.if_icmp .le 14, 3) := by decide +kernel
theorem dX12_number_115 : decode cX12_number 115 = .ok (.if_icmp .lt 9, 3) := by decide +kernel
theorem dX12_number_109 : decode cX12_number 109 = .ok (.ifCond .eq 15, 3) := by decide +kernel
theorem dX12_number_105 : decode cX12_number 105 = .ok (.putfield 147, 3) := by decide +kernel
theorem dX12_number_45 : decode cX12_number 45 = .ok (.iload_n 3, 1) := by decide +kernel
theorem dX12_number_49 : decode cX12_number 49 = .ok (.aload_n 0, 1) := by decide +kernel
theorem dX12_number_53 : decode cX12_number 53 = .ok (.aload_n 0, 1) := by decide +kernel
theorem dX12_number_57 : decode cX12_number 57 = .ok (.iload 5, 2) := by decide +kernel
theorem dX12_number_59 : decode cX12_number 59 = .ok (.iadd, 1) := by decide +kernel
theorem dX12_number_61 : decode cX12_number 61 = .ok (.istore 6, 2) := by decide +kernel
theorem dX12_number_63 : decode cX12_number 63 = .ok (.iload 6, 2) := by decide +kernel
theorem dX12_number_65 : decode cX12_number 65 = .ok (.bipush 48, 2) := by decide +kernel
theorem dX12_number_81 : decode cX12_number 81 = .ok (.iconst 0, 1) := by decide +kernel
theorem dX12_number_82 : decode cX12_number 82 = .ok (.istore_n 3, 1) := by decide +kernel
theorem dX12_number_83 : decode cX12_number 83 = .ok (.bipush 10, 2) := by decide +kernel
theorem dX12_number_85 : decode cX12_number 85 = .ok (.iload 4, 2) := by decide +kernel
theorem dX12_number_87 : decode cX12_number 87 = .ok (.imul, 1) := by decide +kernel
theorem dX12_number_88 : decode cX12_number 88 = .ok (.iload 6, 2) := by decide +kernel
theorem dX12_number_90 : decode cX12_number 90 = .ok (.iadd, 1) := by decide +kernel
theorem dX12_number_91 : decode cX12_number 91 = .ok (.bipush 48, 2) := by decide +kernel
theorem dX12_number_93 : decode cX12_number 93 = .ok (.isub, 1) := by decide +kernel
theorem dX12_number_94 : decode cX12_number 94 = .ok (.istore 4, 2) := by decide +kernel
theorem dX12_number_96 : decode cX12_number 96 = .ok (.iinc 5 1, 3) := by decide +kernel
theorem dX12_number_99 : decode cX12_number 99 = .ok (.goto (-63), 3) := by decide +kernel
theorem dX12_number_70 : decode cX12_number 70 = .ok (.iload 6, 2) := by decide +kernel
theorem dX12_number_72 : decode cX12_number 72 = .ok (.bipush 57, 2) := by decide +kernel
theorem dX12_number_77 : decode cX12_number 77 = .ok (.iconst 1, 1) := by decide +kernel
theorem dX12_number_78 : decode cX12_number 78 = .ok (.goto 4, 3) := by decide +kernel
theorem dX12_number_74 : decode cX12_number 74 = .ok (.if_icmp .gt 7, 3) := by decide +kernel
theorem dX12_number_67 : decode cX12_number 67 = .ok (.if_icmp .lt 14, 3) := by decide +kernel
theorem dX12_number_60 : decode cX12_number 60 = .ok (.baload, 1) := by decide +kernel
theorem dX12_number_54 : decode cX12_number 54 = .ok (.getfield 127, 3) := by decide +kernel
theorem dX12_number_50 : decode cX12_number 50 = .ok (.getfield 17, 3) := by decide +kernel
theorem dX12_number_46 : decode cX12_number 46 = .ok (.ifCond .eq 56, 3) := by decide +kernel
theorem dX12_number_42 : decode cX12_number 42 = .ok (.if_icmp .ge 60, 3) := by decide +kernel
theorem dX12_number_39 : decode cX12_number 39 = .ok (.getfield 130, 3) := by decide +kernel
theorem dX12_placeOf_0 : decode cX12_placeOf 0 = .ok (.iconst 0, 1) := by decide +kernel
theorem dX12_placeOf_1 : decode cX12_placeOf 1 = .ok (.istore_n 2, 1) := by decide +kernel
theorem dX12_placeOf_2 : decode cX12_placeOf 2 = .ok (.iload_n 2, 1) := by decide +kernel
theorem dX12_placeOf_3 : decode cX12_placeOf 3 = .ok (.sipush 3100, 3) := by decide +kernel
theorem dX12_placeOf_36 : decode cX12_placeOf 36 = .ok (.iconst (-1), 1) := by decide +kernel
theorem dX12_placeOf_37 : decode cX12_placeOf 37 = .ok (.ireturn, 1) := by decide +kernel
theorem dX12_placeOf_9 : decode cX12_placeOf 9 = .ok (.aload_n 0, 1) := by decide +kernel
theorem dX12_placeOf_13 : decode cX12_placeOf 13 = .ok (.iload_n 2, 1) := by decide +kernel
theorem dX12_placeOf_30 : decode cX12_placeOf 30 = .ok (.iinc 2 1, 3) := by decide +kernel
theorem dX12_placeOf_33 : decode cX12_placeOf 33 = .ok (.goto (-31), 3) := by decide +kernel
theorem dX12_placeOf_18 : decode cX12_placeOf 18 = .ok (.aload_n 0, 1) := by decide +kernel
theorem dX12_placeOf_22 : decode cX12_placeOf 22 = .ok (.iload_n 2, 1) := by decide +kernel
theorem dX12_placeOf_24 : decode cX12_placeOf 24 = .ok (.iload_n 1, 1) := by decide +kernel
theorem dX12_placeOf_28 : decode cX12_placeOf 28 = .ok (.iload_n 2, 1) := by decide +kernel
theorem dX12_placeOf_29 : decode cX12_placeOf 29 = .ok (.ireturn, 1) := by decide +kernel
theorem dX12_placeOf_25 : decode cX12_placeOf 25 = .ok (.if_icmp .ne 5, 3) := by decide +kernel
theorem dX12_placeOf_23 : decode cX12_placeOf 23 = .ok (.iaload, 1) := by decide +kernel
theorem dX12_placeOf_19 : decode cX12_placeOf 19 = .ok (.getfield 31, 3) := by decide +kernel
theorem dX12_placeOf_15 : decode cX12_placeOf 15 = .ok (.ifCond .eq 15, 3) := by decide +kernel
theorem dX12_placeOf_14 : decode cX12_placeOf 14 = .ok (.baload, 1) := by decide +kernel
theorem dX12_placeOf_10 : decode cX12_placeOf 10 = .ok (.getfield 27, 3) := by decide +kernel
theorem dX12_placeOf_6 : decode cX12_placeOf 6 = .ok (.if_icmp .ge 30, 3) := by decide +kernel
theorem dX12_keepNone_0 : decode cX12_keepNone 0 = .ok (.iconst 0, 1) := by decide +kernel
theorem dX12_keepNone_1 : decode cX12_keepNone 1 = .ok (.istore_n 1, 1) := by decide +kernel
theorem dX12_keepNone_2 : decode cX12_keepNone 2 = .ok (.iload_n 1, 1) := by decide +kernel
theorem dX12_keepNone_3 : decode cX12_keepNone 3 = .ok (.sipush 3100, 3) := by decide +kernel
theorem dX12_keepNone_22 : decode cX12_keepNone 22 = .ok (.return_, 1) := by decide +kernel
theorem dX12_keepNone_9 : decode cX12_keepNone 9 = .ok (.aload_n 0, 1) := by decide +kernel
theorem dX12_keepNone_13 : decode cX12_keepNone 13 = .ok (.iload_n 1, 1) := by decide +kernel
theorem dX12_keepNone_14 : decode cX12_keepNone 14 = .ok (.iconst 0, 1) := by decide +kernel
theorem dX12_keepNone_16 : decode cX12_keepNone 16 = .ok (.iinc 1 1, 3) := by decide +kernel
theorem dX12_keepNone_19 : decode cX12_keepNone 19 = .ok (.goto (-17), 3) := by decide +kernel
theorem dX12_keepNone_15 : decode cX12_keepNone 15 = .ok (.bastore, 1) := by decide +kernel
theorem dX12_keepNone_10 : decode cX12_keepNone 10 = .ok (.getfield 62, 3) := by decide +kernel
theorem dX12_keepNone_6 : decode cX12_keepNone 6 = .ok (.if_icmp .ge 16, 3) := by decide +kernel
theorem dX12_blockFrom_0 : decode cX12_blockFrom 0 = .ok (.iload_n 1, 1) := by decide +kernel
theorem dX12_blockFrom_1 : decode cX12_blockFrom 1 = .ok (.istore_n 3, 1) := by decide +kernel
theorem dX12_blockFrom_2 : decode cX12_blockFrom 2 = .ok (.iload_n 3, 1) := by decide +kernel
theorem dX12_blockFrom_3 : decode cX12_blockFrom 3 = .ok (.iload_n 2, 1) := by decide +kernel
theorem dX12_blockFrom_32 : decode cX12_blockFrom 32 = .ok (.iload_n 3, 1) := by decide +kernel
theorem dX12_blockFrom_33 : decode cX12_blockFrom 33 = .ok (.iload_n 2, 1) := by decide +kernel
theorem dX12_blockFrom_39 : decode cX12_blockFrom 39 = .ok (.iload_n 3, 1) := by decide +kernel
theorem dX12_blockFrom_40 : decode cX12_blockFrom 40 = .ok (.istore 4, 2) := by decide +kernel
theorem dX12_blockFrom_37 : decode cX12_blockFrom 37 = .ok (.iconst (-1), 1) := by decide +kernel
theorem dX12_blockFrom_38 : decode cX12_blockFrom 38 = .ok (.ireturn, 1) := by decide +kernel
theorem dX12_blockFrom_34 : decode cX12_blockFrom 34 = .ok (.if_icmp .lt 5, 3) := by decide +kernel
theorem dX12_blockFrom_7 : decode cX12_blockFrom 7 = .ok (.aload_n 0, 1) := by decide +kernel
theorem dX12_blockFrom_11 : decode cX12_blockFrom 11 = .ok (.iload_n 3, 1) := by decide +kernel
theorem dX12_blockFrom_16 : decode cX12_blockFrom 16 = .ok (.iload_n 3, 1) := by decide +kernel
theorem dX12_blockFrom_17 : decode cX12_blockFrom 17 = .ok (.aload_n 0, 1) := by decide +kernel
theorem dX12_blockFrom_18 : decode cX12_blockFrom 18 = .ok (.aload_n 0, 1) := by decide +kernel
theorem dX12_blockFrom_22 : decode cX12_blockFrom 22 = .ok (.iload_n 3, 1) := by decide +kernel
theorem dX12_blockFrom_24 : decode cX12_blockFrom 24 = .ok (.invokevirtual 327, 3) := by decide +kernel
theorem dX12_sizeOf_0 : decode cX12_sizeOf 0 = .ok (.aload_n 0, 1) := by decide +kernel
theorem dX12_sizeOf_4 : decode cX12_sizeOf 4 = .ok (.iload_n 1, 1) := by decide +kernel
theorem dX12_sizeOf_6 : decode cX12_sizeOf 6 = .ok (.iconst 1, 1) := by decide +kernel
theorem dX12_sizeOf_7 : decode cX12_sizeOf 7 = .ok (.iadd, 1) := by decide +kernel
theorem dX12_blockFrom_27 : decode cX12_blockFrom 27 = .ok (.iadd, 1) := by decide +kernel
theorem dX12_blockFrom_28 : decode cX12_blockFrom 28 = .ok (.istore_n 3, 1) := by decide +kernel
theorem dX12_blockFrom_29 : decode cX12_blockFrom 29 = .ok (.goto (-27), 3) := by decide +kernel
theorem dX12_sizeOf_8 : decode cX12_sizeOf 8 = .ok (.ireturn, 1) := by decide +kernel
theorem dX12_sizeOf_5 : decode cX12_sizeOf 5 = .ok (.iaload, 1) := by decide +kernel
theorem dX12_sizeOf_1 : decode cX12_sizeOf 1 = .ok (.getfield 37, 3) := by decide +kernel
theorem dX12_blockFrom_23 : decode cX12_blockFrom 23 = .ok (.iaload, 1) := by decide +kernel
theorem dX12_blockFrom_19 : decode cX12_blockFrom 19 = .ok (.getfield 65, 3) := by decide +kernel
theorem dX12_blockFrom_13 : decode cX12_blockFrom 13 = .ok (.ifCond .lt 19, 3) := by decide +kernel
theorem dX12_blockFrom_12 : decode cX12_blockFrom 12 = .ok (.iaload, 1) := by decide +kernel
theorem dX12_blockFrom_8 : decode cX12_blockFrom 8 = .ok (.getfield 65, 3) := by decide +kernel
theorem dX12_blockFrom_4 : decode cX12_blockFrom 4 = .ok (.if_icmp .ge 28, 3) := by decide +kernel
theorem dX12_blockFrom_42 : decode cX12_blockFrom 42 = .ok (.iload 4, 2) := by decide +kernel
theorem dX12_blockFrom_44 : decode cX12_blockFrom 44 = .ok (.iload_n 2, 1) := by decide +kernel
theorem dX12_blockFrom_64 : decode cX12_blockFrom 64 = .ok (.aload_n 0, 1) := by decide +kernel
theorem dX12_blockFrom_65 : decode cX12_blockFrom 65 = .ok (.iload 4, 2) := by decide +kernel
theorem dX12_blockFrom_67 : decode cX12_blockFrom 67 = .ok (.iload_n 3, 1) := by decide +kernel
theorem dX12_blockFrom_68 : decode cX12_blockFrom 68 = .ok (.isub, 1) := by decide +kernel
theorem dX12_blockFrom_72 : decode cX12_blockFrom 72 = .ok (.iload_n 3, 1) := by decide +kernel
theorem dX12_blockFrom_73 : decode cX12_blockFrom 73 = .ok (.ireturn, 1) := by decide +kernel
theorem dX12_blockFrom_69 : decode cX12_blockFrom 69 = .ok (.putfield 420, 3) := by decide +kernel
theorem dX12_blockFrom_48 : decode cX12_blockFrom 48 = .ok (.aload_n 0, 1) := by decide +kernel
theorem dX12_blockFrom_52 : decode cX12_blockFrom 52 = .ok (.iload 4, 2) := by decide +kernel
theorem dX12_blockFrom_58 : decode cX12_blockFrom 58 = .ok (.iinc 4 1, 3) := by decide +kernel
theorem dX12_blockFrom_61 : decode cX12_blockFrom 61 = .ok (.goto (-19), 3) := by decide +kernel
theorem dX12_blockFrom_55 : decode cX12_blockFrom 55 = .ok (.ifCond .ge 9, 3) := by decide +kernel
theorem dX12_blockFrom_54 : decode cX12_blockFrom 54 = .ok (.iaload, 1) := by decide +kernel
theorem dX12_blockFrom_49 : decode cX12_blockFrom 49 = .ok (.getfield 65, 3) := by decide +kernel
theorem dX12_blockFrom_45 : decode cX12_blockFrom 45 = .ok (.if_icmp .ge 19, 3) := by decide +kernel
theorem dX12_firstFit_0 : decode cX12_firstFit 0 = .ok (.aload_n 0, 1) := by decide +kernel
theorem dX12_firstFit_1 : decode cX12_firstFit 1 = .ok (.iload_n 2, 1) := by decide +kernel
theorem dX12_firstFit_2 : decode cX12_firstFit 2 = .ok (.iload_n 3, 1) := by decide +kernel
theorem dX12_firstFit_3 : decode cX12_firstFit 3 = .ok (.invokevirtual 423, 3) := by decide +kernel
theorem dX12_firstFit_6 : decode cX12_firstFit 6 = .ok (.istore 4, 2) := by decide +kernel
theorem dX12_firstFit_8 : decode cX12_firstFit 8 = .ok (.iload 4, 2) := by decide +kernel
theorem dX12_firstFit_51 : decode cX12_firstFit 51 = .ok (.iconst (-1), 1) := by decide +kernel
theorem dX12_firstFit_52 : decode cX12_firstFit 52 = .ok (.ireturn, 1) := by decide +kernel
theorem dX12_firstFit_13 : decode cX12_firstFit 13 = .ok (.aload_n 0, 1) := by decide +kernel
theorem dX12_firstFit_14 : decode cX12_firstFit 14 = .ok (.dup, 1) := by decide +kernel
theorem dX12_firstFit_18 : decode cX12_firstFit 18 = .ok (.iconst 1, 1) := by decide +kernel
theorem dX12_firstFit_19 : decode cX12_firstFit 19 = .ok (.iadd, 1) := by decide +kernel
theorem dX12_firstFit_23 : decode cX12_firstFit 23 = .ok (.aload_n 0, 1) := by decide +kernel
theorem dX12_firstFit_27 : decode cX12_firstFit 27 = .ok (.iload_n 1, 1) := by decide +kernel
theorem dX12_firstFit_34 : decode cX12_firstFit 34 = .ok (.aload_n 0, 1) := by decide +kernel
theorem dX12_firstFit_35 : decode cX12_firstFit 35 = .ok (.iload 4, 2) := by decide +kernel
theorem dX12_firstFit_37 : decode cX12_firstFit 37 = .ok (.aload_n 0, 1) := by decide +kernel
theorem dX12_firstFit_41 : decode cX12_firstFit 41 = .ok (.iadd, 1) := by decide +kernel
theorem dX12_firstFit_42 : decode cX12_firstFit 42 = .ok (.iload_n 3, 1) := by decide +kernel
theorem dX12_firstFit_43 : decode cX12_firstFit 43 = .ok (.invokevirtual 423, 3) := by decide +kernel
theorem dX12_firstFit_46 : decode cX12_firstFit 46 = .ok (.istore 4, 2) := by decide +kernel
theorem dX12_firstFit_48 : decode cX12_firstFit 48 = .ok (.goto (-40), 3) := by decide +kernel
theorem dX12_firstFit_38 : decode cX12_firstFit 38 = .ok (.getfield 420, 3) := by decide +kernel
theorem dX12_firstFit_31 : decode cX12_firstFit 31 = .ok (.iload 4, 2) := by decide +kernel
theorem dX12_firstFit_33 : decode cX12_firstFit 33 = .ok (.ireturn, 1) := by decide +kernel
theorem dX12_firstFit_28 : decode cX12_firstFit 28 = .ok (.if_icmp .lt 6, 3) := by decide +kernel
theorem dX12_firstFit_24 : decode cX12_firstFit 24 = .ok (.getfield 420, 3) := by decide +kernel
theorem dX12_firstFit_20 : decode cX12_firstFit 20 = .ok (.putfield 258, 3) := by decide +kernel
theorem dX12_firstFit_15 : decode cX12_firstFit 15 = .ok (.getfield 258, 3) := by decide +kernel
theorem dX12_firstFit_10 : decode cX12_firstFit 10 = .ok (.ifCond .lt 41, 3) := by decide +kernel
theorem dX12_firstFitAhead_0 : decode cX12_firstFitAhead 0 = .ok (.aload_n 0, 1) := by decide +kernel
theorem dX12_firstFitAhead_1 : decode cX12_firstFitAhead 1 = .ok (.iconst 0, 1) := by decide +kernel
theorem dX12_firstFitAhead_2 : decode cX12_firstFitAhead 2 = .ok (.aload_n 0, 1) := by decide +kernel
theorem dX12_firstFitAhead_6 : decode cX12_firstFitAhead 6 = .ok (.invokevirtual 423, 3) := by decide +kernel
theorem dX12_firstFitAhead_9 : decode cX12_firstFitAhead 9 = .ok (.istore_n 3, 1) := by decide +kernel
theorem dX12_firstFitAhead_3 : decode cX12_firstFitAhead 3 = .ok (.getfield 202, 3) := by decide +kernel
theorem dX12_firstFitAhead_10 : decode cX12_firstFitAhead 10 = .ok (.iload_n 3, 1) := by decide +kernel
theorem dX12_firstFitAhead_57 : decode cX12_firstFitAhead 57 = .ok (.iconst (-1), 1) := by decide +kernel
theorem dX12_firstFitAhead_58 : decode cX12_firstFitAhead 58 = .ok (.ireturn, 1) := by decide +kernel
theorem dX12_firstFitAhead_14 : decode cX12_firstFitAhead 14 = .ok (.iload_n 3, 1) := by decide +kernel
theorem dX12_firstFitAhead_15 : decode cX12_firstFitAhead 15 = .ok (.iload_n 2, 1) := by decide +kernel
theorem dX12_firstFitAhead_19 : decode cX12_firstFitAhead 19 = .ok (.aload_n 0, 1) := by decide +kernel
theorem dX12_firstFitAhead_20 : decode cX12_firstFitAhead 20 = .ok (.dup, 1) := by decide +kernel
theorem dX12_firstFitAhead_24 : decode cX12_firstFitAhead 24 = .ok (.iconst 1, 1) := by decide +kernel
theorem dX12_firstFitAhead_25 : decode cX12_firstFitAhead 25 = .ok (.iadd, 1) := by decide +kernel
theorem dX12_firstFitAhead_29 : decode cX12_firstFitAhead 29 = .ok (.aload_n 0, 1) := by decide +kernel
theorem dX12_firstFitAhead_33 : decode cX12_firstFitAhead 33 = .ok (.iload_n 1, 1) := by decide +kernel
theorem dX12_firstFitAhead_39 : decode cX12_firstFitAhead 39 = .ok (.aload_n 0, 1) := by decide +kernel
theorem dX12_firstFitAhead_40 : decode cX12_firstFitAhead 40 = .ok (.iload_n 3, 1) := by decide +kernel
theorem dX12_firstFitAhead_41 : decode cX12_firstFitAhead 41 = .ok (.aload_n 0, 1) := by decide +kernel
theorem dX12_firstFitAhead_45 : decode cX12_firstFitAhead 45 = .ok (.iadd, 1) := by decide +kernel
theorem dX12_firstFitAhead_46 : decode cX12_firstFitAhead 46 = .ok (.aload_n 0, 1) := by decide +kernel
theorem dX12_firstFitAhead_50 : decode cX12_firstFitAhead 50 = .ok (.invokevirtual 423, 3) := by decide +kernel
theorem dX12_firstFitAhead_53 : decode cX12_firstFitAhead 53 = .ok (.istore_n 3, 1) := by decide +kernel
theorem dX12_firstFitAhead_54 : decode cX12_firstFitAhead 54 = .ok (.goto (-44), 3) := by decide +kernel
theorem dX12_firstFitAhead_47 : decode cX12_firstFitAhead 47 = .ok (.getfield 202, 3) := by decide +kernel
theorem dX12_firstFitAhead_42 : decode cX12_firstFitAhead 42 = .ok (.getfield 420, 3) := by decide +kernel
theorem dX12_firstFitAhead_37 : decode cX12_firstFitAhead 37 = .ok (.iload_n 3, 1) := by decide +kernel
theorem dX12_firstFitAhead_38 : decode cX12_firstFitAhead 38 = .ok (.ireturn, 1) := by decide +kernel
theorem dX12_firstFitAhead_34 : decode cX12_firstFitAhead 34 = .ok (.if_icmp .lt 5, 3) := by decide +kernel
theorem dX12_firstFitAhead_30 : decode cX12_firstFitAhead 30 = .ok (.getfield 420, 3) := by decide +kernel
theorem dX12_firstFitAhead_26 : decode cX12_firstFitAhead 26 = .ok (.putfield 258, 3) := by decide +kernel
theorem dX12_firstFitAhead_21 : decode cX12_firstFitAhead 21 = .ok (.getfield 258, 3) := by decide +kernel
theorem dX12_firstFitAhead_16 : decode cX12_firstFitAhead 16 = .ok (.if_icmp .ge 41, 3) := by decide +kernel
theorem dX12_firstFitAhead_11 : decode cX12_firstFitAhead 11 = .ok (.ifCond .lt 46, 3) := by decide +kernel
theorem dX12_startOf_0 : decode cX12_startOf 0 = .ok (.iconst 0, 1) := by decide +kernel
theorem dX12_startOf_1 : decode cX12_startOf 1 = .ok (.istore_n 2, 1) := by decide +kernel
theorem dX12_startOf_2 : decode cX12_startOf 2 = .ok (.iload_n 2, 1) := by decide +kernel
theorem dX12_startOf_3 : decode cX12_startOf 3 = .ok (.iload_n 1, 1) := by decide +kernel
theorem dX12_startOf_38 : decode cX12_startOf 38 = .ok (.iload_n 2, 1) := by decide +kernel
theorem dX12_startOf_39 : decode cX12_startOf 39 = .ok (.ireturn, 1) := by decide +kernel
theorem dX12_startOf_7 : decode cX12_startOf 7 = .ok (.aload_n 0, 1) := by decide +kernel
theorem dX12_startOf_11 : decode cX12_startOf 11 = .ok (.iload_n 2, 1) := by decide +kernel
theorem dX12_startOf_31 : decode cX12_startOf 31 = .ok (.iload_n 2, 1) := by decide +kernel
theorem dX12_startOf_32 : decode cX12_startOf 32 = .ok (.iconst 1, 1) := by decide +kernel
theorem dX12_startOf_33 : decode cX12_startOf 33 = .ok (.iadd, 1) := by decide +kernel
theorem dX12_startOf_34 : decode cX12_startOf 34 = .ok (.istore_n 2, 1) := by decide +kernel
theorem dX12_startOf_35 : decode cX12_startOf 35 = .ok (.goto (-33), 3) := by decide +kernel
theorem dX12_startOf_16 : decode cX12_startOf 16 = .ok (.iload_n 2, 1) := by decide +kernel
theorem dX12_startOf_17 : decode cX12_startOf 17 = .ok (.aload_n 0, 1) := by decide +kernel
theorem dX12_startOf_18 : decode cX12_startOf 18 = .ok (.aload_n 0, 1) := by decide +kernel
theorem dX12_startOf_22 : decode cX12_startOf 22 = .ok (.iload_n 2, 1) := by decide +kernel
theorem dX12_startOf_24 : decode cX12_startOf 24 = .ok (.invokevirtual 327, 3) := by decide +kernel
theorem dX12_startOf_27 : decode cX12_startOf 27 = .ok (.iadd, 1) := by decide +kernel
theorem dX12_startOf_28 : decode cX12_startOf 28 = .ok (.goto 6, 3) := by decide +kernel
theorem dX12_startOf_23 : decode cX12_startOf 23 = .ok (.iaload, 1) := by decide +kernel
theorem dX12_startOf_19 : decode cX12_startOf 19 = .ok (.getfield 65, 3) := by decide +kernel
theorem dX12_startOf_13 : decode cX12_startOf 13 = .ok (.ifCond .lt 18, 3) := by decide +kernel
theorem dX12_startOf_12 : decode cX12_startOf 12 = .ok (.iaload, 1) := by decide +kernel
theorem dX12_startOf_8 : decode cX12_startOf 8 = .ok (.getfield 65, 3) := by decide +kernel
theorem dX12_startOf_4 : decode cX12_startOf 4 = .ok (.if_icmp .ge 34, 3) := by decide +kernel
theorem dX12_find_0 : decode cX12_find 0 = .ok (.aload_n 0, 1) := by decide +kernel
theorem dX12_find_18 : decode cX12_find 18 = .ok (.aload_n 0, 1) := by decide +kernel
theorem dX12_find_22 : decode cX12_find 22 = .ok (.iconst 1, 1) := by decide +kernel
theorem dX12_find_61 : decode cX12_find 61 = .ok (.iconst (-1), 1) := by decide +kernel
theorem dX12_find_62 : decode cX12_find 62 = .ok (.istore_n 2, 1) := by decide +kernel
theorem dX12_find_63 : decode cX12_find 63 = .ok (.iconst 0, 1) := by decide +kernel
theorem dX12_find_64 : decode cX12_find 64 = .ok (.istore_n 3, 1) := by decide +kernel
theorem dX12_find_65 : decode cX12_find 65 = .ok (.aload_n 0, 1) := by decide +kernel
theorem dX12_find_66 : decode cX12_find 66 = .ok (.iconst 0, 1) := by decide +kernel
theorem dX12_find_67 : decode cX12_find 67 = .ok (.aload_n 0, 1) := by decide +kernel
theorem dX12_find_71 : decode cX12_find 71 = .ok (.invokevirtual 423, 3) := by decide +kernel
theorem dX12_find_74 : decode cX12_find 74 = .ok (.istore 4, 2) := by decide +kernel
theorem dX12_find_68 : decode cX12_find 68 = .ok (.getfield 202, 3) := by decide +kernel
theorem dX12_find_26 : decode cX12_find 26 = .ok (.aload_n 0, 1) := by decide +kernel
theorem dX12_find_27 : decode cX12_find 27 = .ok (.aload_n 0, 1) := by decide +kernel
theorem dX12_find_31 : decode cX12_find 31 = .ok (.invokevirtual 430, 3) := by decide +kernel
theorem dX12_find_34 : decode cX12_find 34 = .ok (.istore_n 2, 1) := by decide +kernel
theorem dX12_find_35 : decode cX12_find 35 = .ok (.aload_n 0, 1) := by decide +kernel
theorem dX12_find_36 : decode cX12_find 36 = .ok (.iload_n 1, 1) := by decide +kernel
theorem dX12_find_37 : decode cX12_find 37 = .ok (.iload_n 2, 1) := by decide +kernel
theorem dX12_find_38 : decode cX12_find 38 = .ok (.aload_n 0, 1) := by decide +kernel
theorem dX12_find_42 : decode cX12_find 42 = .ok (.invokevirtual 426, 3) := by decide +kernel
theorem dX12_find_45 : decode cX12_find 45 = .ok (.istore_n 3, 1) := by decide +kernel
theorem dX12_find_46 : decode cX12_find 46 = .ok (.iload_n 3, 1) := by decide +kernel
theorem dX12_find_54 : decode cX12_find 54 = .ok (.aload_n 0, 1) := by decide +kernel
theorem dX12_find_55 : decode cX12_find 55 = .ok (.iload_n 1, 1) := by decide +kernel
theorem dX12_find_56 : decode cX12_find 56 = .ok (.iload_n 2, 1) := by decide +kernel
theorem dX12_find_57 : decode cX12_find 57 = .ok (.invokevirtual 433, 3) := by decide +kernel
theorem dX12_find_60 : decode cX12_find 60 = .ok (.ireturn, 1) := by decide +kernel
theorem dX12_find_50 : decode cX12_find 50 = .ok (.iload_n 3, 1) := by decide +kernel
theorem dX12_find_51 : decode cX12_find 51 = .ok (.goto 9, 3) := by decide +kernel
theorem dX12_find_47 : decode cX12_find 47 = .ok (.ifCond .lt 7, 3) := by decide +kernel
theorem dX12_find_39 : decode cX12_find 39 = .ok (.getfield 202, 3) := by decide +kernel
theorem dX12_find_28 : decode cX12_find 28 = .ok (.getfield 282, 3) := by decide +kernel
theorem dX12_find_23 : decode cX12_find 23 = .ok (.if_icmp .ne 38, 3) := by decide +kernel
theorem dX12_find_19 : decode cX12_find 19 = .ok (.getfield 205, 3) := by decide +kernel
theorem dX12_find_7 : decode cX12_find 7 = .ok (.aload_n 0, 1) := by decide +kernel
theorem dX12_find_8 : decode cX12_find 8 = .ok (.iload_n 1, 1) := by decide +kernel
theorem dX12_find_9 : decode cX12_find 9 = .ok (.iconst 0, 1) := by decide +kernel
theorem dX12_find_10 : decode cX12_find 10 = .ok (.aload_n 0, 1) := by decide +kernel
theorem dX12_find_14 : decode cX12_find 14 = .ok (.invokevirtual 426, 3) := by decide +kernel
theorem dX12_find_17 : decode cX12_find 17 = .ok (.ireturn, 1) := by decide +kernel
theorem dX12_find_11 : decode cX12_find 11 = .ok (.getfield 202, 3) := by decide +kernel
theorem dX12_find_4 : decode cX12_find 4 = .ok (.ifCond .ne 14, 3) := by decide +kernel
theorem dX12_find_1 : decode cX12_find 1 = .ok (.getfield 205, 3) := by decide +kernel
theorem dX12_find_76 : decode cX12_find 76 = .ok (.iload 4, 2) := by decide +kernel
theorem dX12_find_161 : decode cX12_find 161 = .ok (.iload_n 2, 1) := by decide +kernel
theorem dX12_find_162 : decode cX12_find 162 = .ok (.ireturn, 1) := by decide +kernel
theorem dX12_find_81 : decode cX12_find 81 = .ok (.aload_n 0, 1) := by decide +kernel
theorem dX12_find_82 : decode cX12_find 82 = .ok (.dup, 1) := by decide +kernel
theorem dX12_find_86 : decode cX12_find 86 = .ok (.iconst 1, 1) := by decide +kernel
theorem dX12_find_87 : decode cX12_find 87 = .ok (.iadd, 1) := by decide +kernel
theorem dX12_find_91 : decode cX12_find 91 = .ok (.aload_n 0, 1) := by decide +kernel
theorem dX12_find_95 : decode cX12_find 95 = .ok (.iload_n 1, 1) := by decide +kernel
theorem dX12_find_141 : decode cX12_find 141 = .ok (.aload_n 0, 1) := by decide +kernel
theorem dX12_find_142 : decode cX12_find 142 = .ok (.iload 4, 2) := by decide +kernel
theorem dX12_find_144 : decode cX12_find 144 = .ok (.aload_n 0, 1) := by decide +kernel
theorem dX12_find_148 : decode cX12_find 148 = .ok (.iadd, 1) := by decide +kernel
theorem dX12_find_149 : decode cX12_find 149 = .ok (.aload_n 0, 1) := by decide +kernel
theorem dX12_find_153 : decode cX12_find 153 = .ok (.invokevirtual 423, 3) := by decide +kernel
theorem dX12_find_156 : decode cX12_find 156 = .ok (.istore 4, 2) := by decide +kernel
theorem dX12_find_158 : decode cX12_find 158 = .ok (.goto (-82), 3) := by decide +kernel
theorem dX12_find_150 : decode cX12_find 150 = .ok (.getfield 202, 3) := by decide +kernel
theorem dX12_find_145 : decode cX12_find 145 = .ok (.getfield 420, 3) := by decide +kernel
theorem dX12_find_99 : decode cX12_find 99 = .ok (.iload_n 2, 1) := by decide +kernel
theorem dX12_find_133 : decode cX12_find 133 = .ok (.iload 4, 2) := by decide +kernel
theorem dX12_find_135 : decode cX12_find 135 = .ok (.istore_n 2, 1) := by decide +kernel
theorem dX12_find_136 : decode cX12_find 136 = .ok (.aload_n 0, 1) := by decide +kernel
theorem dX12_find_140 : decode cX12_find 140 = .ok (.istore_n 3, 1) := by decide +kernel
theorem dX12_find_137 : decode cX12_find 137 = .ok (.getfield 420, 3) := by decide +kernel
theorem dX12_find_103 : decode cX12_find 103 = .ok (.aload_n 0, 1) := by decide +kernel
theorem dX12_find_107 : decode cX12_find 107 = .ok (.iconst 2, 1) := by decide +kernel
theorem dX12_find_122 : decode cX12_find 122 = .ok (.aload_n 0, 1) := by decide +kernel
theorem dX12_find_126 : decode cX12_find 126 = .ok (.iload_n 3, 1) := by decide +kernel
theorem dX12_find_130 : decode cX12_find 130 = .ok (.goto 11, 3) := by decide +kernel
theorem dX12_find_127 : decode cX12_find 127 = .ok (.if_icmp .gt 6, 3) := by decide +kernel
theorem dX12_find_123 : decode cX12_find 123 = .ok (.getfield 420, 3) := by decide +kernel
theorem dX12_find_111 : decode cX12_find 111 = .ok (.aload_n 0, 1) := by decide +kernel
theorem dX12_find_115 : decode cX12_find 115 = .ok (.iload_n 3, 1) := by decide +kernel
theorem dX12_find_119 : decode cX12_find 119 = .ok (.goto 22, 3) := by decide +kernel
theorem dX12_find_116 : decode cX12_find 116 = .ok (.if_icmp .lt 17, 3) := by decide +kernel
theorem dX12_find_112 : decode cX12_find 112 = .ok (.getfield 420, 3) := by decide +kernel
theorem dX12_find_108 : decode cX12_find 108 = .ok (.if_icmp .ne 14, 3) := by decide +kernel
theorem dX12_find_104 : decode cX12_find 104 = .ok (.getfield 205, 3) := by decide +kernel
theorem dX12_find_100 : decode cX12_find 100 = .ok (.ifCond .lt 33, 3) := by decide +kernel
theorem dX12_find_96 : decode cX12_find 96 = .ok (.if_icmp .lt 45, 3) := by decide +kernel
theorem dX12_find_92 : decode cX12_find 92 = .ok (.getfield 420, 3) := by decide +kernel
theorem dX12_find_88 : decode cX12_find 88 = .ok (.putfield 258, 3) := by decide +kernel
theorem dX12_find_83 : decode cX12_find 83 = .ok (.getfield 258, 3) := by decide +kernel
theorem dX12_find_78 : decode cX12_find 78 = .ok (.ifCond .lt 83, 3) := by decide +kernel
theorem dX12_reference_0 : decode cX12_reference 0 = .ok (.aload_n 0, 1) := by decide +kernel
theorem dX12_reference_1 : decode cX12_reference 1 = .ok (.iload_n 1, 1) := by decide +kernel
theorem dX12_reference_2 : decode cX12_reference 2 = .ok (.iload_n 2, 1) := by decide +kernel
theorem dX12_reference_3 : decode cX12_reference 3 = .ok (.invokevirtual 288, 3) := by decide +kernel
theorem dX12_isReference_0 : decode cX12_isReference 0 = .ok (.aload_n 0, 1) := by decide +kernel
theorem dX12_isReference_4 : decode cX12_isReference 4 = .ok (.iload_n 1, 1) := by decide +kernel
theorem dX12_isReference_6 : decode cX12_isReference 6 = .ok (.bipush 16, 2) := by decide +kernel
theorem dX12_isReference_41 : decode cX12_isReference 41 = .ok (.iconst 1, 1) := by decide +kernel
theorem dX12_isReference_42 : decode cX12_isReference 42 = .ok (.goto 4, 3) := by decide +kernel
theorem dX12_reference_6 : decode cX12_reference 6 = .ok (.ifCond .eq 17, 3) := by decide +kernel
theorem dX12_reference_9 : decode cX12_reference 9 = .ok (.aload_n 0, 1) := by decide +kernel
theorem dX12_reference_13 : decode cX12_reference 13 = .ok (.iload_n 1, 1) := by decide +kernel
theorem dX12_reference_14 : decode cX12_reference 14 = .ok (.bipush 60, 2) := by decide +kernel
theorem dX12_reference_16 : decode cX12_reference 16 = .ok (.imul, 1) := by decide +kernel
theorem dX12_reference_17 : decode cX12_reference 17 = .ok (.iload_n 2, 1) := by decide +kernel
theorem dX12_reference_18 : decode cX12_reference 18 = .ok (.iadd, 1) := by decide +kernel
theorem dX12_reference_20 : decode cX12_reference 20 = .ok (.goto 4, 3) := by decide +kernel
theorem dX12_reference_24 : decode cX12_reference 24 = .ok (.ireturn, 1) := by decide +kernel
theorem dX12_reference_19 : decode cX12_reference 19 = .ok (.iaload, 1) := by decide +kernel
theorem dX12_reference_10 : decode cX12_reference 10 = .ok (.getfield 56, 3) := by decide +kernel
theorem dX12_isReference_46 : decode cX12_isReference 46 = .ok (.ireturn, 1) := by decide +kernel
theorem dX12_isReference_11 : decode cX12_isReference 11 = .ok (.aload_n 0, 1) := by decide +kernel
theorem dX12_isReference_15 : decode cX12_isReference 15 = .ok (.iload_n 1, 1) := by decide +kernel
theorem dX12_isReference_17 : decode cX12_isReference 17 = .ok (.bipush 16, 2) := by decide +kernel
theorem dX12_isReference_45 : decode cX12_isReference 45 = .ok (.iconst 0, 1) := by decide +kernel
theorem dX12_reference_23 : decode cX12_reference 23 = .ok (.iconst (-1), 1) := by decide +kernel
theorem dX12_isReference_22 : decode cX12_isReference 22 = .ok (.aload_n 0, 1) := by decide +kernel
theorem dX12_isReference_26 : decode cX12_isReference 26 = .ok (.aload_n 0, 1) := by decide +kernel
theorem dX12_isReference_30 : decode cX12_isReference 30 = .ok (.iload_n 1, 1) := by decide +kernel
theorem dX12_isReference_33 : decode cX12_isReference 33 = .ok (.iload_n 2, 1) := by decide +kernel
theorem dX12_isReference_34 : decode cX12_isReference 34 = .ok (.ishr, 1) := by decide +kernel
theorem dX12_isReference_35 : decode cX12_isReference 35 = .ok (.iconst 1, 1) := by decide +kernel
theorem dX12_isReference_36 : decode cX12_isReference 36 = .ok (.iand, 1) := by decide +kernel
theorem dX12_isReference_37 : decode cX12_isReference 37 = .ok (.iconst 1, 1) := by decide +kernel
theorem dX12_isReference_38 : decode cX12_isReference 38 = .ok (.if_icmp .ne 7, 3) := by decide +kernel
theorem dX12_isReference_32 : decode cX12_isReference 32 = .ok (.iaload, 1) := by decide +kernel
theorem dX12_isReference_31 : decode cX12_isReference 31 = .ok (.iaload, 1) := by decide +kernel
theorem dX12_isReference_27 : decode cX12_isReference 27 = .ok (.getfield 34, 3) := by decide +kernel
theorem dX12_isReference_23 : decode cX12_isReference 23 = .ok (.getfield 24, 3) := by decide +kernel
theorem dX12_isReference_19 : decode cX12_isReference 19 = .ok (.if_icmp .ge 26, 3) := by decide +kernel
theorem dX12_isReference_16 : decode cX12_isReference 16 = .ok (.iaload, 1) := by decide +kernel
theorem dX12_isReference_12 : decode cX12_isReference 12 = .ok (.getfield 34, 3) := by decide +kernel
theorem dX12_isReference_8 : decode cX12_isReference 8 = .ok (.if_icmp .eq 33, 3) := by decide +kernel
theorem dX12_isReference_5 : decode cX12_isReference 5 = .ok (.iaload, 1) := by decide +kernel
theorem dX12_isReference_1 : decode cX12_isReference 1 = .ok (.getfield 34, 3) := by decide +kernel
theorem dX12_keepAll_0 : decode cX12_keepAll 0 = .ok (.aload_n 0, 1) := by decide +kernel
theorem dX12_keepAll_58 : decode cX12_keepAll 58 = .ok (.return_, 1) := by decide +kernel
theorem dX12_keepAll_7 : decode cX12_keepAll 7 = .ok (.aload_n 0, 1) := by decide +kernel
theorem dX12_keepAll_8 : decode cX12_keepAll 8 = .ok (.dup, 1) := by decide +kernel
theorem dX12_keepAll_12 : decode cX12_keepAll 12 = .ok (.iconst 1, 1) := by decide +kernel
theorem dX12_keepAll_13 : decode cX12_keepAll 13 = .ok (.isub, 1) := by decide +kernel
theorem dX12_keepAll_17 : decode cX12_keepAll 17 = .ok (.aload_n 0, 1) := by decide +kernel
theorem dX12_keepAll_21 : decode cX12_keepAll 21 = .ok (.aload_n 0, 1) := by decide +kernel
theorem dX12_keepAll_26 : decode cX12_keepAll 26 = .ok (.istore_n 1, 1) := by decide +kernel
theorem dX12_keepAll_27 : decode cX12_keepAll 27 = .ok (.iconst 0, 1) := by decide +kernel
theorem dX12_keepAll_28 : decode cX12_keepAll 28 = .ok (.istore_n 2, 1) := by decide +kernel
theorem dX12_keepAll_25 : decode cX12_keepAll 25 = .ok (.iaload, 1) := by decide +kernel
theorem dX12_keepAll_22 : decode cX12_keepAll 22 = .ok (.getfield 291, 3) := by decide +kernel
theorem dX12_keepAll_18 : decode cX12_keepAll 18 = .ok (.getfield 86, 3) := by decide +kernel
theorem dX12_keepAll_14 : decode cX12_keepAll 14 = .ok (.putfield 291, 3) := by decide +kernel
theorem dX12_keepAll_9 : decode cX12_keepAll 9 = .ok (.getfield 291, 3) := by decide +kernel
theorem dX12_keepAll_4 : decode cX12_keepAll 4 = .ok (.ifCond .le 54, 3) := by decide +kernel
theorem dX12_keepAll_1 : decode cX12_keepAll 1 = .ok (.getfield 291, 3) := by decide +kernel
theorem dX12_keepAll_29 : decode cX12_keepAll 29 = .ok (.iload_n 2, 1) := by decide +kernel
theorem dX12_keepAll_30 : decode cX12_keepAll 30 = .ok (.aload_n 0, 1) := by decide +kernel
theorem dX12_keepAll_34 : decode cX12_keepAll 34 = .ok (.iload_n 1, 1) := by decide +kernel
theorem dX12_keepAll_55 : decode cX12_keepAll 55 = .ok (.goto (-55), 3) := by decide +kernel
theorem dX12_keepAll_39 : decode cX12_keepAll 39 = .ok (.aload_n 0, 1) := by decide +kernel
theorem dX12_keepAll_40 : decode cX12_keepAll 40 = .ok (.aload_n 0, 1) := by decide +kernel
theorem dX12_keepAll_41 : decode cX12_keepAll 41 = .ok (.iload_n 1, 1) := by decide +kernel
theorem dX12_keepAll_42 : decode cX12_keepAll 42 = .ok (.iload_n 2, 1) := by decide +kernel
theorem dX12_keepAll_43 : decode cX12_keepAll 43 = .ok (.invokevirtual 294, 3) := by decide +kernel
theorem dX12_keepAll_46 : decode cX12_keepAll 46 = .ok (.invokevirtual 298, 3) := by decide +kernel
theorem dX12_keep_0 : decode cX12_keep 0 = .ok (.iload_n 1, 1) := by decide +kernel
theorem dX12_keepAll_49 : decode cX12_keepAll 49 = .ok (.iinc 2 1, 3) := by decide +kernel
theorem dX12_keepAll_52 : decode cX12_keepAll 52 = .ok (.goto (-23), 3) := by decide +kernel
theorem dX12_keep_13 : decode cX12_keep 13 = .ok (.return_, 1) := by decide +kernel
theorem dX12_keep_4 : decode cX12_keep 4 = .ok (.aload_n 0, 1) := by decide +kernel
theorem dX12_keep_8 : decode cX12_keep 8 = .ok (.iload_n 1, 1) := by decide +kernel
theorem dX12_keep_14 : decode cX12_keep 14 = .ok (.aload_n 0, 1) := by decide +kernel
theorem dX12_keep_18 : decode cX12_keep 18 = .ok (.iload_n 1, 1) := by decide +kernel
theorem dX12_keep_19 : decode cX12_keep 19 = .ok (.iconst 1, 1) := by decide +kernel
theorem dX12_keep_21 : decode cX12_keep 21 = .ok (.aload_n 0, 1) := by decide +kernel
theorem dX12_keep_25 : decode cX12_keep 25 = .ok (.aload_n 0, 1) := by decide +kernel
theorem dX12_keep_29 : decode cX12_keep 29 = .ok (.iload_n 1, 1) := by decide +kernel
theorem dX12_keep_31 : decode cX12_keep 31 = .ok (.aload_n 0, 1) := by decide +kernel
theorem dX12_keep_32 : decode cX12_keep 32 = .ok (.dup, 1) := by decide +kernel
theorem dX12_keep_36 : decode cX12_keep 36 = .ok (.iconst 1, 1) := by decide +kernel
theorem dX12_keep_37 : decode cX12_keep 37 = .ok (.iadd, 1) := by decide +kernel
theorem dX12_keep_41 : decode cX12_keep 41 = .ok (.return_, 1) := by decide +kernel
theorem dX12_keep_38 : decode cX12_keep 38 = .ok (.putfield 291, 3) := by decide +kernel
theorem dX12_keep_33 : decode cX12_keep 33 = .ok (.getfield 291, 3) := by decide +kernel
theorem dX12_keep_30 : decode cX12_keep 30 = .ok (.iastore, 1) := by decide +kernel
theorem dX12_keep_26 : decode cX12_keep 26 = .ok (.getfield 291, 3) := by decide +kernel
theorem dX12_keep_22 : decode cX12_keep 22 = .ok (.getfield 86, 3) := by decide +kernel
theorem dX12_keep_20 : decode cX12_keep 20 = .ok (.bastore, 1) := by decide +kernel
theorem dX12_keep_15 : decode cX12_keep 15 = .ok (.getfield 62, 3) := by decide +kernel
theorem dX12_keep_10 : decode cX12_keep 10 = .ok (.ifCond .eq 4, 3) := by decide +kernel
theorem dX12_keep_9 : decode cX12_keep 9 = .ok (.baload, 1) := by decide +kernel
theorem dX12_keep_5 : decode cX12_keep 5 = .ok (.getfield 62, 3) := by decide +kernel
theorem dX12_keep_1 : decode cX12_keep 1 = .ok (.ifCond .lt 12, 3) := by decide +kernel
theorem dX12_keepAll_36 : decode cX12_keepAll 36 = .ok (.if_icmp .ge 19, 3) := by decide +kernel
theorem dX12_keepAll_35 : decode cX12_keepAll 35 = .ok (.iaload, 1) := by decide +kernel
theorem dX12_keepAll_31 : decode cX12_keepAll 31 = .ok (.getfield 37, 3) := by decide +kernel
theorem dX12_keepReached_0 : decode cX12_keepReached 0 = .ok (.aload_n 0, 1) := by decide +kernel
theorem dX12_keepReached_1 : decode cX12_keepReached 1 = .ok (.invokevirtual 301, 3) := by decide +kernel
theorem dX12_keepReached_4 : decode cX12_keepReached 4 = .ok (.aload_n 0, 1) := by decide +kernel
theorem dX12_keepReached_5 : decode cX12_keepReached 5 = .ok (.iconst 0, 1) := by decide +kernel
theorem dX12_keepReached_9 : decode cX12_keepReached 9 = .ok (.iconst 0, 1) := by decide +kernel
theorem dX12_keepReached_10 : decode cX12_keepReached 10 = .ok (.istore_n 1, 1) := by decide +kernel
theorem dX12_keepReached_6 : decode cX12_keepReached 6 = .ok (.putfield 291, 3) := by decide +kernel
theorem dX12_keepReached_11 : decode cX12_keepReached 11 = .ok (.iload_n 1, 1) := by decide +kernel
theorem dX12_keepReached_12 : decode cX12_keepReached 12 = .ok (.bipush 16, 2) := by decide +kernel
theorem dX12_keepReached_33 : decode cX12_keepReached 33 = .ok (.iconst 0, 1) := by decide +kernel
theorem dX12_keepReached_34 : decode cX12_keepReached 34 = .ok (.istore_n 1, 1) := by decide +kernel
theorem dX12_keepReached_17 : decode cX12_keepReached 17 = .ok (.aload_n 0, 1) := by decide +kernel
theorem dX12_keepReached_18 : decode cX12_keepReached 18 = .ok (.aload_n 0, 1) := by decide +kernel
theorem dX12_keepReached_22 : decode cX12_keepReached 22 = .ok (.iload_n 1, 1) := by decide +kernel
theorem dX12_keepReached_24 : decode cX12_keepReached 24 = .ok (.invokevirtual 298, 3) := by decide +kernel
theorem dX12_keepReached_27 : decode cX12_keepReached 27 = .ok (.iinc 1 1, 3) := by decide +kernel
theorem dX12_keepReached_30 : decode cX12_keepReached 30 = .ok (.goto (-19), 3) := by decide +kernel
theorem dX12_keepReached_23 : decode cX12_keepReached 23 = .ok (.iaload, 1) := by decide +kernel
theorem dX12_keepReached_19 : decode cX12_keepReached 19 = .ok (.getfield 68, 3) := by decide +kernel
theorem dX12_keepReached_14 : decode cX12_keepReached 14 = .ok (.if_icmp .ge 19, 3) := by decide +kernel
theorem dX12_keepReached_35 : decode cX12_keepReached 35 = .ok (.iload_n 1, 1) := by decide +kernel
theorem dX12_keepReached_36 : decode cX12_keepReached 36 = .ok (.aload_n 0, 1) := by decide +kernel
theorem dX12_keepReached_59 : decode cX12_keepReached 59 = .ok (.iconst 0, 1) := by decide +kernel
theorem dX12_keepReached_60 : decode cX12_keepReached 60 = .ok (.istore_n 1, 1) := by decide +kernel
theorem dX12_keepReached_43 : decode cX12_keepReached 43 = .ok (.aload_n 0, 1) := by decide +kernel
theorem dX12_keepReached_44 : decode cX12_keepReached 44 = .ok (.aload_n 0, 1) := by decide +kernel
theorem dX12_keepReached_48 : decode cX12_keepReached 48 = .ok (.iload_n 1, 1) := by decide +kernel
theorem dX12_keepReached_50 : decode cX12_keepReached 50 = .ok (.invokevirtual 298, 3) := by decide +kernel
theorem dX12_keepReached_53 : decode cX12_keepReached 53 = .ok (.iinc 1 1, 3) := by decide +kernel
theorem dX12_keepReached_56 : decode cX12_keepReached 56 = .ok (.goto (-21), 3) := by decide +kernel
theorem dX12_keepReached_49 : decode cX12_keepReached 49 = .ok (.iaload, 1) := by decide +kernel
theorem dX12_keepReached_45 : decode cX12_keepReached 45 = .ok (.getfield 74, 3) := by decide +kernel
theorem dX12_keepReached_40 : decode cX12_keepReached 40 = .ok (.if_icmp .ge 19, 3) := by decide +kernel
theorem dX12_keepReached_37 : decode cX12_keepReached 37 = .ok (.getfield 261, 3) := by decide +kernel
theorem dX12_keepReached_61 : decode cX12_keepReached 61 = .ok (.iload_n 1, 1) := by decide +kernel
theorem dX12_keepReached_62 : decode cX12_keepReached 62 = .ok (.sipush 3100, 3) := by decide +kernel
theorem dX12_keepReached_97 : decode cX12_keepReached 97 = .ok (.aload_n 0, 1) := by decide +kernel
theorem dX12_keepReached_98 : decode cX12_keepReached 98 = .ok (.invokevirtual 304, 3) := by decide +kernel
theorem dX12_keepReached_101 : decode cX12_keepReached 101 = .ok (.return_, 1) := by decide +kernel
theorem dX12_keepReached_68 : decode cX12_keepReached 68 = .ok (.aload_n 0, 1) := by decide +kernel
theorem dX12_keepReached_72 : decode cX12_keepReached 72 = .ok (.iload_n 1, 1) := by decide +kernel
theorem dX12_keepReached_91 : decode cX12_keepReached 91 = .ok (.iinc 1 1, 3) := by decide +kernel
theorem dX12_keepReached_94 : decode cX12_keepReached 94 = .ok (.goto (-33), 3) := by decide +kernel
theorem dX12_keepReached_77 : decode cX12_keepReached 77 = .ok (.aload_n 0, 1) := by decide +kernel
theorem dX12_keepReached_81 : decode cX12_keepReached 81 = .ok (.iload_n 1, 1) := by decide +kernel
theorem dX12_keepReached_86 : decode cX12_keepReached 86 = .ok (.aload_n 0, 1) := by decide +kernel
theorem dX12_keepReached_87 : decode cX12_keepReached 87 = .ok (.iload_n 1, 1) := by decide +kernel
theorem dX12_keepReached_88 : decode cX12_keepReached 88 = .ok (.invokevirtual 298, 3) := by decide +kernel
theorem dX12_keepReached_83 : decode cX12_keepReached 83 = .ok (.ifCond .le 8, 3) := by decide +kernel
theorem dX12_keepReached_82 : decode cX12_keepReached 82 = .ok (.iaload, 1) := by decide +kernel
theorem dX12_keepReached_78 : decode cX12_keepReached 78 = .ok (.getfield 52, 3) := by decide +kernel
theorem dX12_keepReached_74 : decode cX12_keepReached 74 = .ok (.ifCond .eq 17, 3) := by decide +kernel
theorem dX12_keepReached_73 : decode cX12_keepReached 73 = .ok (.baload, 1) := by decide +kernel
theorem dX12_keepReached_69 : decode cX12_keepReached 69 = .ok (.getfield 27, 3) := by decide +kernel
theorem dX12_keepReached_65 : decode cX12_keepReached 65 = .ok (.if_icmp .ge 32, 3) := by decide +kernel
theorem dX12_wisher_0 : decode cX12_wisher 0 = .ok (.iconst (-1), 1) := by decide +kernel
theorem dX12_wisher_1 : decode cX12_wisher 1 = .ok (.istore_n 3, 1) := by decide +kernel
theorem dX12_wisher_2 : decode cX12_wisher 2 = .ok (.iconst 0, 1) := by decide +kernel
theorem dX12_wisher_3 : decode cX12_wisher 3 = .ok (.istore 4, 2) := by decide +kernel
theorem dX12_wisher_5 : decode cX12_wisher 5 = .ok (.iload 4, 2) := by decide +kernel
theorem dX12_wisher_7 : decode cX12_wisher 7 = .ok (.sipush 3100, 3) := by decide +kernel
theorem dX12_wisher_99 : decode cX12_wisher 99 = .ok (.iload_n 3, 1) := by decide +kernel
theorem dX12_wisher_100 : decode cX12_wisher 100 = .ok (.ireturn, 1) := by decide +kernel
theorem dX12_wisher_13 : decode cX12_wisher 13 = .ok (.aload_n 0, 1) := by decide +kernel
theorem dX12_wisher_17 : decode cX12_wisher 17 = .ok (.iload 4, 2) := by decide +kernel
theorem dX12_wisher_93 : decode cX12_wisher 93 = .ok (.iinc 4 1, 3) := by decide +kernel
theorem dX12_wisher_96 : decode cX12_wisher 96 = .ok (.goto (-91), 3) := by decide +kernel
theorem dX12_wisher_23 : decode cX12_wisher 23 = .ok (.aload_n 0, 1) := by decide +kernel
theorem dX12_wisher_27 : decode cX12_wisher 27 = .ok (.iload 4, 2) := by decide +kernel
theorem dX12_wisher_33 : decode cX12_wisher 33 = .ok (.aload_n 0, 1) := by decide +kernel
theorem dX12_wisher_37 : decode cX12_wisher 37 = .ok (.iload 4, 2) := by decide +kernel
theorem dX12_wisher_43 : decode cX12_wisher 43 = .ok (.aload_n 0, 1) := by decide +kernel
theorem dX12_wisher_47 : decode cX12_wisher 47 = .ok (.iload 4, 2) := by decide +kernel
theorem dX12_wisher_50 : decode cX12_wisher 50 = .ok (.iload_n 1, 1) := by decide +kernel
theorem dX12_wisher_54 : decode cX12_wisher 54 = .ok (.iload_n 2, 1) := by decide +kernel
theorem dX12_wisher_70 : decode cX12_wisher 70 = .ok (.iload_n 3, 1) := by decide +kernel
theorem dX12_wisher_90 : decode cX12_wisher 90 = .ok (.iload 4, 2) := by decide +kernel
theorem dX12_wisher_92 : decode cX12_wisher 92 = .ok (.istore_n 3, 1) := by decide +kernel
theorem dX12_wisher_74 : decode cX12_wisher 74 = .ok (.aload_n 0, 1) := by decide +kernel
theorem dX12_wisher_78 : decode cX12_wisher 78 = .ok (.iload 4, 2) := by decide +kernel
theorem dX12_wisher_81 : decode cX12_wisher 81 = .ok (.aload_n 0, 1) := by decide +kernel
theorem dX12_wisher_85 : decode cX12_wisher 85 = .ok (.iload_n 3, 1) := by decide +kernel
theorem dX12_wisher_87 : decode cX12_wisher 87 = .ok (.if_icmp .ge 6, 3) := by decide +kernel
theorem dX12_wisher_86 : decode cX12_wisher 86 = .ok (.iaload, 1) := by decide +kernel
theorem dX12_wisher_82 : decode cX12_wisher 82 = .ok (.getfield 31, 3) := by decide +kernel
theorem dX12_wisher_80 : decode cX12_wisher 80 = .ok (.iaload, 1) := by decide +kernel
theorem dX12_wisher_75 : decode cX12_wisher 75 = .ok (.getfield 31, 3) := by decide +kernel
theorem dX12_wisher_71 : decode cX12_wisher 71 = .ok (.ifCond .lt 19, 3) := by decide +kernel
theorem dX12_wisher_58 : decode cX12_wisher 58 = .ok (.aload_n 0, 1) := by decide +kernel
theorem dX12_wisher_59 : decode cX12_wisher 59 = .ok (.iload 4, 2) := by decide +kernel
theorem dX12_wisher_61 : decode cX12_wisher 61 = .ok (.invokevirtual 314, 3) := by decide +kernel
theorem dX12_isOld_0 : decode cX12_isOld 0 = .ok (.aload_n 0, 1) := by decide +kernel
theorem dX12_isOld_4 : decode cX12_isOld 4 = .ok (.iload_n 1, 1) := by decide +kernel
theorem dX12_isOld_6 : decode cX12_isOld 6 = .ok (.aload_n 0, 1) := by decide +kernel
theorem dX12_isOld_17 : decode cX12_isOld 17 = .ok (.iconst 0, 1) := by decide +kernel
theorem dX12_wisher_64 : decode cX12_wisher 64 = .ok (.ifCond .eq 6, 3) := by decide +kernel
theorem dX12_isOld_18 : decode cX12_isOld 18 = .ok (.ireturn, 1) := by decide +kernel
theorem dX12_isOld_13 : decode cX12_isOld 13 = .ok (.iconst 1, 1) := by decide +kernel
theorem dX12_isOld_14 : decode cX12_isOld 14 = .ok (.goto 4, 3) := by decide +kernel
theorem dX12_wisher_67 : decode cX12_wisher 67 = .ok (.goto 26, 3) := by decide +kernel
theorem dX12_isOld_10 : decode cX12_isOld 10 = .ok (.if_icmp .ge 7, 3) := by decide +kernel
theorem dX12_isOld_7 : decode cX12_isOld 7 = .ok (.getfield 210, 3) := by decide +kernel
theorem dX12_isOld_5 : decode cX12_isOld 5 = .ok (.iaload, 1) := by decide +kernel
theorem dX12_isOld_1 : decode cX12_isOld 1 = .ok (.getfield 40, 3) := by decide +kernel
theorem dX12_wisher_55 : decode cX12_wisher 55 = .ok (.ifCond .eq 15, 3) := by decide +kernel
theorem dX12_wisher_51 : decode cX12_wisher 51 = .ok (.if_icmp .le 42, 3) := by decide +kernel
theorem dX12_wisher_49 : decode cX12_wisher 49 = .ok (.iaload, 1) := by decide +kernel
theorem dX12_wisher_44 : decode cX12_wisher 44 = .ok (.getfield 31, 3) := by decide +kernel
theorem dX12_wisher_40 : decode cX12_wisher 40 = .ok (.ifCond .eq 53, 3) := by decide +kernel
theorem dX12_wisher_39 : decode cX12_wisher 39 = .ok (.baload, 1) := by decide +kernel
theorem dX12_wisher_34 : decode cX12_wisher 34 = .ok (.getfield 59, 3) := by decide +kernel
theorem dX12_wisher_30 : decode cX12_wisher 30 = .ok (.ifCond .ne 63, 3) := by decide +kernel
theorem dX12_wisher_29 : decode cX12_wisher 29 = .ok (.baload, 1) := by decide +kernel
theorem dX12_wisher_24 : decode cX12_wisher 24 = .ok (.getfield 62, 3) := by decide +kernel
theorem dX12_wisher_20 : decode cX12_wisher 20 = .ok (.ifCond .eq 73, 3) := by decide +kernel
theorem dX12_wisher_19 : decode cX12_wisher 19 = .ok (.baload, 1) := by decide +kernel
theorem dX12_wisher_14 : decode cX12_wisher 14 = .ok (.getfield 27, 3) := by decide +kernel
theorem dX12_wisher_10 : decode cX12_wisher 10 = .ok (.if_icmp .ge 89, 3) := by decide +kernel
theorem dX12_unweak_0 : decode cX12_unweak 0 = .ok (.iconst 0, 1) := by decide +kernel
theorem dX12_unweak_1 : decode cX12_unweak 1 = .ok (.istore_n 2, 1) := by decide +kernel
theorem dX12_unweak_2 : decode cX12_unweak 2 = .ok (.iload_n 2, 1) := by decide +kernel
theorem dX12_unweak_3 : decode cX12_unweak 3 = .ok (.bipush 16, 2) := by decide +kernel
theorem dX12_unweak_31 : decode cX12_unweak 31 = .ok (.return_, 1) := by decide +kernel
theorem dX12_unweak_8 : decode cX12_unweak 8 = .ok (.aload_n 0, 1) := by decide +kernel
theorem dX12_unweak_12 : decode cX12_unweak 12 = .ok (.iload_n 2, 1) := by decide +kernel
theorem dX12_unweak_14 : decode cX12_unweak 14 = .ok (.iload_n 1, 1) := by decide +kernel
theorem dX12_unweak_25 : decode cX12_unweak 25 = .ok (.iinc 2 1, 3) := by decide +kernel
theorem dX12_unweak_28 : decode cX12_unweak 28 = .ok (.goto (-26), 3) := by decide +kernel
theorem dX12_unweak_18 : decode cX12_unweak 18 = .ok (.aload_n 0, 1) := by decide +kernel
theorem dX12_unweak_22 : decode cX12_unweak 22 = .ok (.iload_n 2, 1) := by decide +kernel
theorem dX12_unweak_23 : decode cX12_unweak 23 = .ok (.iconst (-1), 1) := by decide +kernel
theorem dX12_unweak_24 : decode cX12_unweak 24 = .ok (.iastore, 1) := by decide +kernel
theorem dX12_unweak_19 : decode cX12_unweak 19 = .ok (.getfield 71, 3) := by decide +kernel
theorem dX12_unweak_15 : decode cX12_unweak 15 = .ok (.if_icmp .ne 10, 3) := by decide +kernel
theorem dX12_unweak_13 : decode cX12_unweak 13 = .ok (.iaload, 1) := by decide +kernel
theorem dX12_unweak_9 : decode cX12_unweak 9 = .ok (.getfield 71, 3) := by decide +kernel
theorem dX12_unweak_5 : decode cX12_unweak 5 = .ok (.if_icmp .ge 26, 3) := by decide +kernel
theorem dX12_unweakRest_0 : decode cX12_unweakRest 0 = .ok (.iconst 0, 1) := by decide +kernel
theorem dX12_unweakRest_1 : decode cX12_unweakRest 1 = .ok (.istore_n 1, 1) := by decide +kernel
theorem dX12_unweakRest_2 : decode cX12_unweakRest 2 = .ok (.iload_n 1, 1) := by decide +kernel
theorem dX12_unweakRest_3 : decode cX12_unweakRest 3 = .ok (.bipush 16, 2) := by decide +kernel
theorem dX12_unweakRest_44 : decode cX12_unweakRest 44 = .ok (.return_, 1) := by decide +kernel
theorem dX12_unweakRest_8 : decode cX12_unweakRest 8 = .ok (.aload_n 0, 1) := by decide +kernel
theorem dX12_unweakRest_12 : decode cX12_unweakRest 12 = .ok (.iload_n 1, 1) := by decide +kernel
theorem dX12_unweakRest_38 : decode cX12_unweakRest 38 = .ok (.iinc 1 1, 3) := by decide +kernel
theorem dX12_unweakRest_41 : decode cX12_unweakRest 41 = .ok (.goto (-39), 3) := by decide +kernel
theorem dX12_unweakRest_17 : decode cX12_unweakRest 17 = .ok (.aload_n 0, 1) := by decide +kernel
theorem dX12_unweakRest_21 : decode cX12_unweakRest 21 = .ok (.aload_n 0, 1) := by decide +kernel
theorem dX12_unweakRest_25 : decode cX12_unweakRest 25 = .ok (.iload_n 1, 1) := by decide +kernel
theorem dX12_unweakRest_31 : decode cX12_unweakRest 31 = .ok (.aload_n 0, 1) := by decide +kernel
theorem dX12_unweakRest_35 : decode cX12_unweakRest 35 = .ok (.iload_n 1, 1) := by decide +kernel
theorem dX12_unweakRest_36 : decode cX12_unweakRest 36 = .ok (.iconst (-1), 1) := by decide +kernel
theorem dX12_unweakRest_37 : decode cX12_unweakRest 37 = .ok (.iastore, 1) := by decide +kernel
theorem dX12_unweakRest_32 : decode cX12_unweakRest 32 = .ok (.getfield 71, 3) := by decide +kernel
theorem dX12_unweakRest_28 : decode cX12_unweakRest 28 = .ok (.ifCond .ne 10, 3) := by decide +kernel
theorem dX12_unweakRest_27 : decode cX12_unweakRest 27 = .ok (.baload, 1) := by decide +kernel
theorem dX12_unweakRest_26 : decode cX12_unweakRest 26 = .ok (.iaload, 1) := by decide +kernel
theorem dX12_unweakRest_22 : decode cX12_unweakRest 22 = .ok (.getfield 71, 3) := by decide +kernel
theorem dX12_unweakRest_18 : decode cX12_unweakRest 18 = .ok (.getfield 62, 3) := by decide +kernel
theorem dX12_unweakRest_14 : decode cX12_unweakRest 14 = .ok (.ifCond .lt 24, 3) := by decide +kernel
theorem dX12_unweakRest_13 : decode cX12_unweakRest 13 = .ok (.iaload, 1) := by decide +kernel
theorem dX12_unweakRest_9 : decode cX12_unweakRest 9 = .ok (.getfield 71, 3) := by decide +kernel
theorem dX12_unweakRest_5 : decode cX12_unweakRest 5 = .ok (.if_icmp .ge 39, 3) := by decide +kernel
theorem dX12_toWishes_0 : decode cX12_toWishes 0 = .ok (.aload_n 0, 1) := by decide +kernel
theorem dX12_toWishes_1 : decode cX12_toWishes 1 = .ok (.iload_n 1, 1) := by decide +kernel
theorem dX12_toWishes_2 : decode cX12_toWishes 2 = .ok (.invokevirtual 317, 3) := by decide +kernel
theorem dX12_toWishes_5 : decode cX12_toWishes 5 = .ok (.aload_n 0, 1) := by decide +kernel
theorem dX12_toWishes_9 : decode cX12_toWishes 9 = .ok (.iload_n 1, 1) := by decide +kernel
theorem dX12_toWishes_10 : decode cX12_toWishes 10 = .ok (.iconst 0, 1) := by decide +kernel
theorem dX12_toWishes_12 : decode cX12_toWishes 12 = .ok (.aload_n 0, 1) := by decide +kernel
theorem dX12_toWishes_16 : decode cX12_toWishes 16 = .ok (.aload_n 0, 1) := by decide +kernel
theorem dX12_toWishes_20 : decode cX12_toWishes 20 = .ok (.iload_n 1, 1) := by decide +kernel
theorem dX12_toWishes_22 : decode cX12_toWishes 22 = .ok (.aload_n 0, 1) := by decide +kernel
theorem dX12_toWishes_23 : decode cX12_toWishes 23 = .ok (.dup, 1) := by decide +kernel
theorem dX12_toWishes_27 : decode cX12_toWishes 27 = .ok (.iconst 1, 1) := by decide +kernel
theorem dX12_toWishes_28 : decode cX12_toWishes 28 = .ok (.iadd, 1) := by decide +kernel
theorem dX12_toWishes_32 : decode cX12_toWishes 32 = .ok (.aload_n 0, 1) := by decide +kernel
theorem dX12_toWishes_36 : decode cX12_toWishes 36 = .ok (.iconst 4, 1) := by decide +kernel
theorem dX12_toWishes_50 : decode cX12_toWishes 50 = .ok (.return_, 1) := by decide +kernel
theorem dX12_toWishes_40 : decode cX12_toWishes 40 = .ok (.aload_n 0, 1) := by decide +kernel
theorem dX12_toWishes_44 : decode cX12_toWishes 44 = .ok (.iload_n 1, 1) := by decide +kernel
theorem dX12_toWishes_45 : decode cX12_toWishes 45 = .ok (.dup2, 1) := by decide +kernel
theorem dX12_toWishes_47 : decode cX12_toWishes 47 = .ok (.iconst 1, 1) := by decide +kernel
theorem dX12_toWishes_48 : decode cX12_toWishes 48 = .ok (.iadd, 1) := by decide +kernel
theorem dX12_toWishes_49 : decode cX12_toWishes 49 = .ok (.iastore, 1) := by decide +kernel
theorem dX12_toWishes_46 : decode cX12_toWishes 46 = .ok (.iaload, 1) := by decide +kernel
theorem dX12_toWishes_41 : decode cX12_toWishes 41 = .ok (.getfield 46, 3) := by decide +kernel
theorem dX12_toWishes_37 : decode cX12_toWishes 37 = .ok (.if_icmp .ne 13, 3) := by decide +kernel
theorem dX12_toWishes_33 : decode cX12_toWishes 33 = .ok (.getfield 199, 3) := by decide +kernel
theorem dX12_toWishes_29 : decode cX12_toWishes 29 = .ok (.putfield 261, 3) := by decide +kernel
theorem dX12_toWishes_24 : decode cX12_toWishes 24 = .ok (.getfield 261, 3) := by decide +kernel
theorem dX12_toWishes_21 : decode cX12_toWishes 21 = .ok (.iastore, 1) := by decide +kernel
theorem dX12_toWishes_17 : decode cX12_toWishes 17 = .ok (.getfield 261, 3) := by decide +kernel
theorem dX12_toWishes_13 : decode cX12_toWishes 13 = .ok (.getfield 74, 3) := by decide +kernel
theorem dX12_toWishes_11 : decode cX12_toWishes 11 = .ok (.bastore, 1) := by decide +kernel
theorem dX12_toWishes_6 : decode cX12_toWishes 6 = .ok (.getfield 59, 3) := by decide +kernel
theorem dX12_grantAll_0 : decode cX12_grantAll 0 = .ok (.iconst (-1), 1) := by decide +kernel
theorem dX12_grantAll_1 : decode cX12_grantAll 1 = .ok (.istore_n 1, 1) := by decide +kernel
theorem dX12_grantAll_2 : decode cX12_grantAll 2 = .ok (.aload_n 0, 1) := by decide +kernel
theorem dX12_grantAll_3 : decode cX12_grantAll 3 = .ok (.iload_n 1, 1) := by decide +kernel
theorem dX12_grantAll_4 : decode cX12_grantAll 4 = .ok (.iconst 0, 1) := by decide +kernel
theorem dX12_grantAll_5 : decode cX12_grantAll 5 = .ok (.invokevirtual 320, 3) := by decide +kernel
theorem dX12_grantAll_8 : decode cX12_grantAll 8 = .ok (.istore_n 2, 1) := by decide +kernel
theorem dX12_grantAll_9 : decode cX12_grantAll 9 = .ok (.iload_n 2, 1) := by decide +kernel
theorem dX12_grantAll_44 : decode cX12_grantAll 44 = .ok (.return_, 1) := by decide +kernel
theorem dX12_grantAll_13 : decode cX12_grantAll 13 = .ok (.aload_n 0, 1) := by decide +kernel
theorem dX12_grantAll_17 : decode cX12_grantAll 17 = .ok (.iload_n 2, 1) := by decide +kernel
theorem dX12_grantAll_19 : decode cX12_grantAll 19 = .ok (.istore_n 1, 1) := by decide +kernel
theorem dX12_grantAll_20 : decode cX12_grantAll 20 = .ok (.aload_n 0, 1) := by decide +kernel
theorem dX12_grantAll_21 : decode cX12_grantAll 21 = .ok (.iload_n 2, 1) := by decide +kernel
theorem dX12_grantAll_22 : decode cX12_grantAll 22 = .ok (.invokevirtual 324, 3) := by decide +kernel
theorem dX12_grantAll_25 : decode cX12_grantAll 25 = .ok (.aload_n 0, 1) := by decide +kernel
theorem dX12_grantAll_26 : decode cX12_grantAll 26 = .ok (.iload_n 2, 1) := by decide +kernel
theorem dX12_grantAll_27 : decode cX12_grantAll 27 = .ok (.invokevirtual 298, 3) := by decide +kernel
theorem dX12_grantAll_30 : decode cX12_grantAll 30 = .ok (.aload_n 0, 1) := by decide +kernel
theorem dX12_grantAll_31 : decode cX12_grantAll 31 = .ok (.invokevirtual 304, 3) := by decide +kernel
theorem dX12_grantAll_34 : decode cX12_grantAll 34 = .ok (.aload_n 0, 1) := by decide +kernel
theorem dX12_grantAll_35 : decode cX12_grantAll 35 = .ok (.iload_n 1, 1) := by decide +kernel
theorem dX12_grantAll_36 : decode cX12_grantAll 36 = .ok (.iconst 0, 1) := by decide +kernel
theorem dX12_grantAll_37 : decode cX12_grantAll 37 = .ok (.invokevirtual 320, 3) := by decide +kernel
theorem dX12_grantAll_40 : decode cX12_grantAll 40 = .ok (.istore_n 2, 1) := by decide +kernel
theorem dX12_grantAll_41 : decode cX12_grantAll 41 = .ok (.goto (-32), 3) := by decide +kernel
theorem dX12_grantAll_18 : decode cX12_grantAll 18 = .ok (.iaload, 1) := by decide +kernel
theorem dX12_grantAll_14 : decode cX12_grantAll 14 = .ok (.getfield 31, 3) := by decide +kernel
theorem dX12_grantAll_10 : decode cX12_grantAll 10 = .ok (.ifCond .lt 34, 3) := by decide +kernel
theorem dX12_removeRest_0 : decode cX12_removeRest 0 = .ok (.iconst 0, 1) := by decide +kernel
theorem dX12_removeRest_1 : decode cX12_removeRest 1 = .ok (.istore_n 1, 1) := by decide +kernel
theorem dX12_removeRest_2 : decode cX12_removeRest 2 = .ok (.iconst 0, 1) := by decide +kernel
theorem dX12_removeRest_3 : decode cX12_removeRest 3 = .ok (.istore_n 2, 1) := by decide +kernel
theorem dX12_removeRest_4 : decode cX12_removeRest 4 = .ok (.iload_n 2, 1) := by decide +kernel
theorem dX12_removeRest_5 : decode cX12_removeRest 5 = .ok (.sipush 3100, 3) := by decide +kernel
theorem dX12_removeRest_87 : decode cX12_removeRest 87 = .ok (.iload_n 1, 1) := by decide +kernel
theorem dX12_removeRest_88 : decode cX12_removeRest 88 = .ok (.ireturn, 1) := by decide +kernel
theorem dX12_removeRest_11 : decode cX12_removeRest 11 = .ok (.aload_n 0, 1) := by decide +kernel
theorem dX12_removeRest_15 : decode cX12_removeRest 15 = .ok (.iload_n 2, 1) := by decide +kernel
theorem dX12_removeRest_81 : decode cX12_removeRest 81 = .ok (.iinc 2 1, 3) := by decide +kernel
theorem dX12_removeRest_84 : decode cX12_removeRest 84 = .ok (.goto (-80), 3) := by decide +kernel
theorem dX12_removeRest_20 : decode cX12_removeRest 20 = .ok (.aload_n 0, 1) := by decide +kernel
theorem dX12_removeRest_24 : decode cX12_removeRest 24 = .ok (.iload_n 2, 1) := by decide +kernel
theorem dX12_removeRest_32 : decode cX12_removeRest 32 = .ok (.iload_n 1, 1) := by decide +kernel
theorem dX12_removeRest_33 : decode cX12_removeRest 33 = .ok (.aload_n 0, 1) := by decide +kernel
theorem dX12_removeRest_34 : decode cX12_removeRest 34 = .ok (.iload_n 2, 1) := by decide +kernel
theorem dX12_removeRest_35 : decode cX12_removeRest 35 = .ok (.invokevirtual 327, 3) := by decide +kernel
theorem dX12_removeRest_38 : decode cX12_removeRest 38 = .ok (.iadd, 1) := by decide +kernel
theorem dX12_removeRest_39 : decode cX12_removeRest 39 = .ok (.istore_n 1, 1) := by decide +kernel
theorem dX12_removeRest_40 : decode cX12_removeRest 40 = .ok (.aload_n 0, 1) := by decide +kernel
theorem dX12_removeRest_44 : decode cX12_removeRest 44 = .ok (.iconst 4, 1) := by decide +kernel
theorem dX12_removeRest_76 : decode cX12_removeRest 76 = .ok (.aload_n 0, 1) := by decide +kernel
theorem dX12_removeRest_77 : decode cX12_removeRest 77 = .ok (.iload_n 2, 1) := by decide +kernel
theorem dX12_removeRest_78 : decode cX12_removeRest 78 = .ok (.invokevirtual 333, 3) := by decide +kernel
theorem dX12_remove_0 : decode cX12_remove 0 = .ok (.aload_n 0, 1) := by decide +kernel
theorem dX12_remove_4 : decode cX12_remove 4 = .ok (.iload_n 1, 1) := by decide +kernel
theorem dX12_remove_5 : decode cX12_remove 5 = .ok (.iconst 0, 1) := by decide +kernel
theorem dX12_remove_7 : decode cX12_remove 7 = .ok (.aload_n 0, 1) := by decide +kernel
theorem dX12_remove_11 : decode cX12_remove 11 = .ok (.aload_n 0, 1) := by decide +kernel
theorem dX12_remove_15 : decode cX12_remove 15 = .ok (.iload_n 1, 1) := by decide +kernel
theorem dX12_remove_17 : decode cX12_remove 17 = .ok (.iconst (-1), 1) := by decide +kernel
theorem dX12_remove_19 : decode cX12_remove 19 = .ok (.aload_n 0, 1) := by decide +kernel
theorem dX12_remove_20 : decode cX12_remove 20 = .ok (.dup, 1) := by decide +kernel
theorem dX12_remove_24 : decode cX12_remove 24 = .ok (.iconst 1, 1) := by decide +kernel
theorem dX12_remove_25 : decode cX12_remove 25 = .ok (.isub, 1) := by decide +kernel
theorem dX12_remove_29 : decode cX12_remove 29 = .ok (.aload_n 0, 1) := by decide +kernel
theorem dX12_remove_30 : decode cX12_remove 30 = .ok (.dup, 1) := by decide +kernel
theorem dX12_remove_34 : decode cX12_remove 34 = .ok (.aload_n 0, 1) := by decide +kernel
theorem dX12_remove_35 : decode cX12_remove 35 = .ok (.iload_n 1, 1) := by decide +kernel
theorem dX12_remove_36 : decode cX12_remove 36 = .ok (.invokevirtual 327, 3) := by decide +kernel
theorem dX12_remove_39 : decode cX12_remove 39 = .ok (.isub, 1) := by decide +kernel
theorem dX12_remove_43 : decode cX12_remove 43 = .ok (.aload_n 0, 1) := by decide +kernel
theorem dX12_remove_44 : decode cX12_remove 44 = .ok (.dup, 1) := by decide +kernel
theorem dX12_remove_48 : decode cX12_remove 48 = .ok (.aload_n 0, 1) := by decide +kernel
theorem dX12_remove_49 : decode cX12_remove 49 = .ok (.iload_n 1, 1) := by decide +kernel
theorem dX12_remove_50 : decode cX12_remove 50 = .ok (.invokevirtual 327, 3) := by decide +kernel
theorem dX12_remove_53 : decode cX12_remove 53 = .ok (.iadd, 1) := by decide +kernel
theorem dX12_remove_57 : decode cX12_remove 57 = .ok (.return_, 1) := by decide +kernel
theorem dX12_remove_54 : decode cX12_remove 54 = .ok (.putfield 255, 3) := by decide +kernel
theorem dX12_remove_45 : decode cX12_remove 45 = .ok (.getfield 255, 3) := by decide +kernel
theorem dX12_remove_40 : decode cX12_remove 40 = .ok (.putfield 243, 3) := by decide +kernel
theorem dX12_remove_31 : decode cX12_remove 31 = .ok (.getfield 243, 3) := by decide +kernel
theorem dX12_remove_26 : decode cX12_remove 26 = .ok (.putfield 240, 3) := by decide +kernel
theorem dX12_remove_21 : decode cX12_remove 21 = .ok (.getfield 240, 3) := by decide +kernel
theorem dX12_remove_18 : decode cX12_remove 18 = .ok (.iastore, 1) := by decide +kernel
theorem dX12_remove_16 : decode cX12_remove 16 = .ok (.iaload, 1) := by decide +kernel
theorem dX12_remove_12 : decode cX12_remove 12 = .ok (.getfield 40, 3) := by decide +kernel
theorem dX12_remove_8 : decode cX12_remove 8 = .ok (.getfield 65, 3) := by decide +kernel
theorem dX12_remove_6 : decode cX12_remove 6 = .ok (.bastore, 1) := by decide +kernel
theorem dX12_remove_1 : decode cX12_remove 1 = .ok (.getfield 27, 3) := by decide +kernel
theorem dX12_removeRest_48 : decode cX12_removeRest 48 = .ok (.iconst 0, 1) := by decide +kernel
theorem dX12_removeRest_49 : decode cX12_removeRest 49 = .ok (.istore_n 3, 1) := by decide +kernel
theorem dX12_removeRest_45 : decode cX12_removeRest 45 = .ok (.if_icmp .ne 31, 3) := by decide +kernel
theorem dX12_removeRest_41 : decode cX12_removeRest 41 = .ok (.getfield 199, 3) := by decide +kernel
theorem dX12_removeRest_29 : decode cX12_removeRest 29 = .ok (.goto 52, 3) := by decide +kernel
