/-! instructions, decoded, of the reference -/
theorem dX12_removeRest_26 : decode cX12_removeRest 26 = .ok (.ifCond .eq 6, 3) := by decide +kernel
theorem dX12_removeRest_25 : decode cX12_removeRest 25 = .ok (.baload, 1) := by decide +kernel
theorem dX12_removeRest_21 : decode cX12_removeRest 21 = .ok (.getfield 62, 3) := by decide +kernel
theorem dX12_removeRest_17 : decode cX12_removeRest 17 = .ok (.ifCond .eq 64, 3) := by decide +kernel
theorem dX12_removeRest_16 : decode cX12_removeRest 16 = .ok (.baload, 1) := by decide +kernel
theorem dX12_removeRest_12 : decode cX12_removeRest 12 = .ok (.getfield 27, 3) := by decide +kernel
theorem dX12_removeRest_8 : decode cX12_removeRest 8 = .ok (.if_icmp .ge 79, 3) := by decide +kernel
theorem dX12_removeRest_50 : decode cX12_removeRest 50 = .ok (.iload_n 3, 1) := by decide +kernel
theorem dX12_removeRest_51 : decode cX12_removeRest 51 = .ok (.aload_n 0, 1) := by decide +kernel
theorem dX12_removeRest_55 : decode cX12_removeRest 55 = .ok (.iload_n 2, 1) := by decide +kernel
theorem dX12_removeRest_60 : decode cX12_removeRest 60 = .ok (.aload_n 0, 1) := by decide +kernel
theorem dX12_removeRest_61 : decode cX12_removeRest 61 = .ok (.aload_n 0, 1) := by decide +kernel
theorem dX12_removeRest_62 : decode cX12_removeRest 62 = .ok (.iload_n 2, 1) := by decide +kernel
theorem dX12_removeRest_63 : decode cX12_removeRest 63 = .ok (.iload_n 3, 1) := by decide +kernel
theorem dX12_removeRest_64 : decode cX12_removeRest 64 = .ok (.invokevirtual 294, 3) := by decide +kernel
theorem dX12_removeRest_67 : decode cX12_removeRest 67 = .ok (.invokevirtual 330, 3) := by decide +kernel
theorem dX12_uncountKept_0 : decode cX12_uncountKept 0 = .ok (.iload_n 1, 1) := by decide +kernel
theorem dX12_removeRest_70 : decode cX12_removeRest 70 = .ok (.iinc 3 1, 3) := by decide +kernel
theorem dX12_removeRest_73 : decode cX12_removeRest 73 = .ok (.goto (-23), 3) := by decide +kernel
theorem dX12_uncountKept_23 : decode cX12_uncountKept 23 = .ok (.return_, 1) := by decide +kernel
theorem dX12_uncountKept_4 : decode cX12_uncountKept 4 = .ok (.aload_n 0, 1) := by decide +kernel
theorem dX12_uncountKept_8 : decode cX12_uncountKept 8 = .ok (.iload_n 1, 1) := by decide +kernel
theorem dX12_uncountKept_13 : decode cX12_uncountKept 13 = .ok (.aload_n 0, 1) := by decide +kernel
theorem dX12_uncountKept_17 : decode cX12_uncountKept 17 = .ok (.iload_n 1, 1) := by decide +kernel
theorem dX12_uncountKept_18 : decode cX12_uncountKept 18 = .ok (.dup2, 1) := by decide +kernel
theorem dX12_uncountKept_20 : decode cX12_uncountKept 20 = .ok (.iconst 1, 1) := by decide +kernel
theorem dX12_uncountKept_21 : decode cX12_uncountKept 21 = .ok (.isub, 1) := by decide +kernel
theorem dX12_uncountKept_22 : decode cX12_uncountKept 22 = .ok (.iastore, 1) := by decide +kernel
theorem dX12_uncountKept_19 : decode cX12_uncountKept 19 = .ok (.iaload, 1) := by decide +kernel
theorem dX12_uncountKept_14 : decode cX12_uncountKept 14 = .ok (.getfield 46, 3) := by decide +kernel
theorem dX12_uncountKept_10 : decode cX12_uncountKept 10 = .ok (.ifCond .eq 13, 3) := by decide +kernel
theorem dX12_uncountKept_9 : decode cX12_uncountKept 9 = .ok (.baload, 1) := by decide +kernel
theorem dX12_uncountKept_5 : decode cX12_uncountKept 5 = .ok (.getfield 62, 3) := by decide +kernel
theorem dX12_uncountKept_1 : decode cX12_uncountKept 1 = .ok (.ifCond .lt 22, 3) := by decide +kernel
theorem dX12_removeRest_57 : decode cX12_removeRest 57 = .ok (.if_icmp .ge 19, 3) := by decide +kernel
theorem dX12_removeRest_56 : decode cX12_removeRest 56 = .ok (.iaload, 1) := by decide +kernel
theorem dX12_removeRest_52 : decode cX12_removeRest 52 = .ok (.getfield 37, 3) := by decide +kernel
theorem dX12_sweep_0 : decode cX12_sweep 0 = .ok (.aload_n 0, 1) := by decide +kernel
theorem dX12_sweep_1 : decode cX12_sweep 1 = .ok (.dup, 1) := by decide +kernel
theorem dX12_sweep_5 : decode cX12_sweep 5 = .ok (.iconst 1, 1) := by decide +kernel
theorem dX12_sweep_6 : decode cX12_sweep 6 = .ok (.iadd, 1) := by decide +kernel
theorem dX12_sweep_10 : decode cX12_sweep 10 = .ok (.aload_n 0, 1) := by decide +kernel
theorem dX12_sweep_11 : decode cX12_sweep 11 = .ok (.invokevirtual 311, 3) := by decide +kernel
theorem dX12_sweep_14 : decode cX12_sweep 14 = .ok (.aload_n 0, 1) := by decide +kernel
theorem dX12_sweep_15 : decode cX12_sweep 15 = .ok (.invokevirtual 336, 3) := by decide +kernel
theorem dX12_sweep_18 : decode cX12_sweep 18 = .ok (.aload_n 0, 1) := by decide +kernel
theorem dX12_sweep_19 : decode cX12_sweep 19 = .ok (.invokevirtual 339, 3) := by decide +kernel
theorem dX12_sweep_22 : decode cX12_sweep 22 = .ok (.aload_n 0, 1) := by decide +kernel
theorem dX12_sweep_23 : decode cX12_sweep 23 = .ok (.invokevirtual 342, 3) := by decide +kernel
theorem dX12_sweep_26 : decode cX12_sweep 26 = .ok (.ireturn, 1) := by decide +kernel
theorem dX12_sweep_7 : decode cX12_sweep 7 = .ok (.putfield 249, 3) := by decide +kernel
theorem dX12_sweep_2 : decode cX12_sweep 2 = .ok (.getfield 249, 3) := by decide +kernel
theorem dX12_greyRoots_0 : decode cX12_greyRoots 0 = .ok (.iconst 0, 1) := by decide +kernel
theorem dX12_greyRoots_1 : decode cX12_greyRoots 1 = .ok (.istore_n 1, 1) := by decide +kernel
theorem dX12_greyRoots_2 : decode cX12_greyRoots 2 = .ok (.iload_n 1, 1) := by decide +kernel
theorem dX12_greyRoots_3 : decode cX12_greyRoots 3 = .ok (.bipush 16, 2) := by decide +kernel
theorem dX12_greyRoots_24 : decode cX12_greyRoots 24 = .ok (.iconst 0, 1) := by decide +kernel
theorem dX12_greyRoots_25 : decode cX12_greyRoots 25 = .ok (.istore_n 1, 1) := by decide +kernel
theorem dX12_greyRoots_8 : decode cX12_greyRoots 8 = .ok (.aload_n 0, 1) := by decide +kernel
theorem dX12_greyRoots_9 : decode cX12_greyRoots 9 = .ok (.aload_n 0, 1) := by decide +kernel
theorem dX12_greyRoots_13 : decode cX12_greyRoots 13 = .ok (.iload_n 1, 1) := by decide +kernel
theorem dX12_greyRoots_15 : decode cX12_greyRoots 15 = .ok (.invokevirtual 396, 3) := by decide +kernel
theorem dX12_toGrey_0 : decode cX12_toGrey 0 = .ok (.iload_n 1, 1) := by decide +kernel
theorem dX12_greyRoots_18 : decode cX12_greyRoots 18 = .ok (.iinc 1 1, 3) := by decide +kernel
theorem dX12_greyRoots_21 : decode cX12_greyRoots 21 = .ok (.goto (-19), 3) := by decide +kernel
theorem dX12_toGrey_13 : decode cX12_toGrey 13 = .ok (.return_, 1) := by decide +kernel
theorem dX12_toGrey_4 : decode cX12_toGrey 4 = .ok (.aload_n 0, 1) := by decide +kernel
theorem dX12_toGrey_8 : decode cX12_toGrey 8 = .ok (.iload_n 1, 1) := by decide +kernel
theorem dX12_toGrey_14 : decode cX12_toGrey 14 = .ok (.aload_n 0, 1) := by decide +kernel
theorem dX12_toGrey_18 : decode cX12_toGrey 18 = .ok (.iload_n 1, 1) := by decide +kernel
theorem dX12_toGrey_19 : decode cX12_toGrey 19 = .ok (.iconst 1, 1) := by decide +kernel
theorem dX12_toGrey_21 : decode cX12_toGrey 21 = .ok (.aload_n 0, 1) := by decide +kernel
theorem dX12_toGrey_25 : decode cX12_toGrey 25 = .ok (.aload_n 0, 1) := by decide +kernel
theorem dX12_toGrey_29 : decode cX12_toGrey 29 = .ok (.iload_n 1, 1) := by decide +kernel
theorem dX12_toGrey_31 : decode cX12_toGrey 31 = .ok (.aload_n 0, 1) := by decide +kernel
theorem dX12_toGrey_32 : decode cX12_toGrey 32 = .ok (.dup, 1) := by decide +kernel
theorem dX12_toGrey_36 : decode cX12_toGrey 36 = .ok (.iconst 1, 1) := by decide +kernel
theorem dX12_toGrey_37 : decode cX12_toGrey 37 = .ok (.iadd, 1) := by decide +kernel
theorem dX12_toGrey_41 : decode cX12_toGrey 41 = .ok (.return_, 1) := by decide +kernel
theorem dX12_toGrey_38 : decode cX12_toGrey 38 = .ok (.putfield 264, 3) := by decide +kernel
theorem dX12_toGrey_33 : decode cX12_toGrey 33 = .ok (.getfield 264, 3) := by decide +kernel
theorem dX12_toGrey_30 : decode cX12_toGrey 30 = .ok (.iastore, 1) := by decide +kernel
theorem dX12_toGrey_26 : decode cX12_toGrey 26 = .ok (.getfield 264, 3) := by decide +kernel
theorem dX12_toGrey_22 : decode cX12_toGrey 22 = .ok (.getfield 77, 3) := by decide +kernel
theorem dX12_toGrey_20 : decode cX12_toGrey 20 = .ok (.iastore, 1) := by decide +kernel
theorem dX12_toGrey_15 : decode cX12_toGrey 15 = .ok (.getfield 49, 3) := by decide +kernel
theorem dX12_toGrey_10 : decode cX12_toGrey 10 = .ok (.ifCond .eq 4, 3) := by decide +kernel
theorem dX12_toGrey_9 : decode cX12_toGrey 9 = .ok (.iaload, 1) := by decide +kernel
theorem dX12_toGrey_5 : decode cX12_toGrey 5 = .ok (.getfield 49, 3) := by decide +kernel
theorem dX12_toGrey_1 : decode cX12_toGrey 1 = .ok (.ifCond .lt 12, 3) := by decide +kernel
theorem dX12_greyRoots_14 : decode cX12_greyRoots 14 = .ok (.iaload, 1) := by decide +kernel
theorem dX12_greyRoots_10 : decode cX12_greyRoots 10 = .ok (.getfield 68, 3) := by decide +kernel
theorem dX12_greyRoots_5 : decode cX12_greyRoots 5 = .ok (.if_icmp .ge 19, 3) := by decide +kernel
theorem dX12_greyRoots_26 : decode cX12_greyRoots 26 = .ok (.iload_n 1, 1) := by decide +kernel
theorem dX12_greyRoots_27 : decode cX12_greyRoots 27 = .ok (.aload_n 0, 1) := by decide +kernel
theorem dX12_greyRoots_50 : decode cX12_greyRoots 50 = .ok (.iconst (-1), 1) := by decide +kernel
theorem dX12_greyRoots_51 : decode cX12_greyRoots 51 = .ok (.istore_n 1, 1) := by decide +kernel
theorem dX12_greyRoots_34 : decode cX12_greyRoots 34 = .ok (.aload_n 0, 1) := by decide +kernel
theorem dX12_greyRoots_35 : decode cX12_greyRoots 35 = .ok (.aload_n 0, 1) := by decide +kernel
theorem dX12_greyRoots_39 : decode cX12_greyRoots 39 = .ok (.iload_n 1, 1) := by decide +kernel
theorem dX12_greyRoots_41 : decode cX12_greyRoots 41 = .ok (.invokevirtual 396, 3) := by decide +kernel
theorem dX12_greyRoots_44 : decode cX12_greyRoots 44 = .ok (.iinc 1 1, 3) := by decide +kernel
theorem dX12_greyRoots_47 : decode cX12_greyRoots 47 = .ok (.goto (-21), 3) := by decide +kernel
theorem dX12_greyRoots_40 : decode cX12_greyRoots 40 = .ok (.iaload, 1) := by decide +kernel
theorem dX12_greyRoots_36 : decode cX12_greyRoots 36 = .ok (.getfield 74, 3) := by decide +kernel
theorem dX12_greyRoots_31 : decode cX12_greyRoots 31 = .ok (.if_icmp .ge 19, 3) := by decide +kernel
theorem dX12_greyRoots_28 : decode cX12_greyRoots 28 = .ok (.getfield 261, 3) := by decide +kernel
theorem dX12_greyRoots_52 : decode cX12_greyRoots 52 = .ok (.iload_n 1, 1) := by decide +kernel
theorem dX12_greyRoots_53 : decode cX12_greyRoots 53 = .ok (.bipush (-2), 2) := by decide +kernel
theorem dX12_greyRoots_149 : decode cX12_greyRoots 149 = .ok (.return_, 1) := by decide +kernel
theorem dX12_greyRoots_58 : decode cX12_greyRoots 58 = .ok (.iconst (-1), 1) := by decide +kernel
theorem dX12_greyRoots_59 : decode cX12_greyRoots 59 = .ok (.istore_n 2, 1) := by decide +kernel
theorem dX12_greyRoots_60 : decode cX12_greyRoots 60 = .ok (.iconst 0, 1) := by decide +kernel
theorem dX12_greyRoots_61 : decode cX12_greyRoots 61 = .ok (.istore_n 3, 1) := by decide +kernel
theorem dX12_greyRoots_55 : decode cX12_greyRoots 55 = .ok (.if_icmp .eq 94, 3) := by decide +kernel
theorem dX12_greyRoots_62 : decode cX12_greyRoots 62 = .ok (.iload_n 3, 1) := by decide +kernel
theorem dX12_greyRoots_63 : decode cX12_greyRoots 63 = .ok (.sipush 3100, 3) := by decide +kernel
theorem dX12_greyRoots_124 : decode cX12_greyRoots 124 = .ok (.iload_n 2, 1) := by decide +kernel
theorem dX12_greyRoots_134 : decode cX12_greyRoots 134 = .ok (.aload_n 0, 1) := by decide +kernel
theorem dX12_greyRoots_135 : decode cX12_greyRoots 135 = .ok (.iload_n 2, 1) := by decide +kernel
theorem dX12_greyRoots_136 : decode cX12_greyRoots 136 = .ok (.invokevirtual 396, 3) := by decide +kernel
theorem dX12_greyRoots_139 : decode cX12_greyRoots 139 = .ok (.aload_n 0, 1) := by decide +kernel
theorem dX12_greyRoots_143 : decode cX12_greyRoots 143 = .ok (.iload_n 2, 1) := by decide +kernel
theorem dX12_greyRoots_145 : decode cX12_greyRoots 145 = .ok (.istore_n 1, 1) := by decide +kernel
theorem dX12_greyRoots_146 : decode cX12_greyRoots 146 = .ok (.goto (-94), 3) := by decide +kernel
theorem dX12_greyRoots_144 : decode cX12_greyRoots 144 = .ok (.iaload, 1) := by decide +kernel
theorem dX12_greyRoots_140 : decode cX12_greyRoots 140 = .ok (.getfield 31, 3) := by decide +kernel
theorem dX12_greyRoots_128 : decode cX12_greyRoots 128 = .ok (.bipush (-2), 2) := by decide +kernel
theorem dX12_greyRoots_130 : decode cX12_greyRoots 130 = .ok (.istore_n 1, 1) := by decide +kernel
theorem dX12_greyRoots_131 : decode cX12_greyRoots 131 = .ok (.goto 15, 3) := by decide +kernel
theorem dX12_greyRoots_125 : decode cX12_greyRoots 125 = .ok (.ifCond .ge 9, 3) := by decide +kernel
theorem dX12_greyRoots_69 : decode cX12_greyRoots 69 = .ok (.aload_n 0, 1) := by decide +kernel
theorem dX12_greyRoots_73 : decode cX12_greyRoots 73 = .ok (.iload_n 3, 1) := by decide +kernel
theorem dX12_greyRoots_118 : decode cX12_greyRoots 118 = .ok (.iinc 3 1, 3) := by decide +kernel
theorem dX12_greyRoots_121 : decode cX12_greyRoots 121 = .ok (.goto (-59), 3) := by decide +kernel
theorem dX12_greyRoots_78 : decode cX12_greyRoots 78 = .ok (.aload_n 0, 1) := by decide +kernel
theorem dX12_greyRoots_82 : decode cX12_greyRoots 82 = .ok (.iload_n 3, 1) := by decide +kernel
theorem dX12_greyRoots_87 : decode cX12_greyRoots 87 = .ok (.aload_n 0, 1) := by decide +kernel
theorem dX12_greyRoots_91 : decode cX12_greyRoots 91 = .ok (.iload_n 3, 1) := by decide +kernel
theorem dX12_greyRoots_93 : decode cX12_greyRoots 93 = .ok (.iload_n 1, 1) := by decide +kernel
theorem dX12_greyRoots_97 : decode cX12_greyRoots 97 = .ok (.iload_n 2, 1) := by decide +kernel
theorem dX12_greyRoots_116 : decode cX12_greyRoots 116 = .ok (.iload_n 3, 1) := by decide +kernel
theorem dX12_greyRoots_117 : decode cX12_greyRoots 117 = .ok (.istore_n 2, 1) := by decide +kernel
theorem dX12_greyRoots_101 : decode cX12_greyRoots 101 = .ok (.aload_n 0, 1) := by decide +kernel
theorem dX12_greyRoots_105 : decode cX12_greyRoots 105 = .ok (.iload_n 3, 1) := by decide +kernel
theorem dX12_greyRoots_107 : decode cX12_greyRoots 107 = .ok (.aload_n 0, 1) := by decide +kernel
theorem dX12_greyRoots_111 : decode cX12_greyRoots 111 = .ok (.iload_n 2, 1) := by decide +kernel
theorem dX12_greyRoots_113 : decode cX12_greyRoots 113 = .ok (.if_icmp .ge 5, 3) := by decide +kernel
theorem dX12_greyRoots_112 : decode cX12_greyRoots 112 = .ok (.iaload, 1) := by decide +kernel
theorem dX12_greyRoots_108 : decode cX12_greyRoots 108 = .ok (.getfield 31, 3) := by decide +kernel
theorem dX12_greyRoots_106 : decode cX12_greyRoots 106 = .ok (.iaload, 1) := by decide +kernel
theorem dX12_greyRoots_102 : decode cX12_greyRoots 102 = .ok (.getfield 31, 3) := by decide +kernel
theorem dX12_greyRoots_98 : decode cX12_greyRoots 98 = .ok (.ifCond .lt 18, 3) := by decide +kernel
theorem dX12_greyRoots_94 : decode cX12_greyRoots 94 = .ok (.if_icmp .le 24, 3) := by decide +kernel
theorem dX12_greyRoots_92 : decode cX12_greyRoots 92 = .ok (.iaload, 1) := by decide +kernel
theorem dX12_greyRoots_88 : decode cX12_greyRoots 88 = .ok (.getfield 31, 3) := by decide +kernel
theorem dX12_greyRoots_84 : decode cX12_greyRoots 84 = .ok (.ifCond .le 34, 3) := by decide +kernel
theorem dX12_greyRoots_83 : decode cX12_greyRoots 83 = .ok (.iaload, 1) := by decide +kernel
theorem dX12_greyRoots_79 : decode cX12_greyRoots 79 = .ok (.getfield 52, 3) := by decide +kernel
theorem dX12_greyRoots_75 : decode cX12_greyRoots 75 = .ok (.ifCond .eq 43, 3) := by decide +kernel
theorem dX12_greyRoots_74 : decode cX12_greyRoots 74 = .ok (.baload, 1) := by decide +kernel
theorem dX12_greyRoots_70 : decode cX12_greyRoots 70 = .ok (.getfield 27, 3) := by decide +kernel
theorem dX12_greyRoots_66 : decode cX12_greyRoots 66 = .ok (.if_icmp .ge 58, 3) := by decide +kernel
theorem dX12_beginMarking_0 : decode cX12_beginMarking 0 = .ok (.aload_n 0, 1) := by decide +kernel
theorem dX12_beginMarking_1 : decode cX12_beginMarking 1 = .ok (.iconst 1, 1) := by decide +kernel
theorem dX12_beginMarking_5 : decode cX12_beginMarking 5 = .ok (.iconst 0, 1) := by decide +kernel
theorem dX12_beginMarking_6 : decode cX12_beginMarking 6 = .ok (.istore_n 1, 1) := by decide +kernel
theorem dX12_beginMarking_2 : decode cX12_beginMarking 2 = .ok (.putfield 270, 3) := by decide +kernel
theorem dX12_beginMarking_7 : decode cX12_beginMarking 7 = .ok (.iload_n 1, 1) := by decide +kernel
theorem dX12_beginMarking_8 : decode cX12_beginMarking 8 = .ok (.sipush 3100, 3) := by decide +kernel
theorem dX12_beginMarking_27 : decode cX12_beginMarking 27 = .ok (.aload_n 0, 1) := by decide +kernel
theorem dX12_beginMarking_28 : decode cX12_beginMarking 28 = .ok (.iconst 0, 1) := by decide +kernel
theorem dX12_beginMarking_32 : decode cX12_beginMarking 32 = .ok (.aload_n 0, 1) := by decide +kernel
theorem dX12_beginMarking_33 : decode cX12_beginMarking 33 = .ok (.iconst 0, 1) := by decide +kernel
theorem dX12_beginMarking_37 : decode cX12_beginMarking 37 = .ok (.aload_n 0, 1) := by decide +kernel
theorem dX12_beginMarking_38 : decode cX12_beginMarking 38 = .ok (.invokevirtual 399, 3) := by decide +kernel
theorem dX12_beginMarking_41 : decode cX12_beginMarking 41 = .ok (.return_, 1) := by decide +kernel
theorem dX12_beginMarking_34 : decode cX12_beginMarking 34 = .ok (.putfield 267, 3) := by decide +kernel
theorem dX12_beginMarking_29 : decode cX12_beginMarking 29 = .ok (.putfield 264, 3) := by decide +kernel
theorem dX12_beginMarking_14 : decode cX12_beginMarking 14 = .ok (.aload_n 0, 1) := by decide +kernel
theorem dX12_beginMarking_18 : decode cX12_beginMarking 18 = .ok (.iload_n 1, 1) := by decide +kernel
theorem dX12_beginMarking_19 : decode cX12_beginMarking 19 = .ok (.iconst 0, 1) := by decide +kernel
theorem dX12_beginMarking_21 : decode cX12_beginMarking 21 = .ok (.iinc 1 1, 3) := by decide +kernel
theorem dX12_beginMarking_24 : decode cX12_beginMarking 24 = .ok (.goto (-17), 3) := by decide +kernel
theorem dX12_beginMarking_20 : decode cX12_beginMarking 20 = .ok (.iastore, 1) := by decide +kernel
theorem dX12_beginMarking_15 : decode cX12_beginMarking 15 = .ok (.getfield 49, 3) := by decide +kernel
theorem dX12_beginMarking_11 : decode cX12_beginMarking 11 = .ok (.if_icmp .ge 16, 3) := by decide +kernel
theorem dX12_steps_0 : decode cX12_steps 0 = .ok (.iconst 0, 1) := by decide +kernel
theorem dX12_steps_1 : decode cX12_steps 1 = .ok (.istore_n 2, 1) := by decide +kernel
theorem dX12_steps_2 : decode cX12_steps 2 = .ok (.iload_n 2, 1) := by decide +kernel
theorem dX12_steps_3 : decode cX12_steps 3 = .ok (.iload_n 1, 1) := by decide +kernel
theorem dX12_steps_82 : decode cX12_steps 82 = .ok (.iload_n 2, 1) := by decide +kernel
theorem dX12_steps_83 : decode cX12_steps 83 = .ok (.ireturn, 1) := by decide +kernel
theorem dX12_steps_7 : decode cX12_steps 7 = .ok (.aload_n 0, 1) := by decide +kernel
theorem dX12_steps_11 : decode cX12_steps 11 = .ok (.aload_n 0, 1) := by decide +kernel
theorem dX12_steps_18 : decode cX12_steps 18 = .ok (.aload_n 0, 1) := by decide +kernel
theorem dX12_steps_22 : decode cX12_steps 22 = .ok (.aload_n 0, 1) := by decide +kernel
theorem dX12_steps_27 : decode cX12_steps 27 = .ok (.istore_n 3, 1) := by decide +kernel
theorem dX12_steps_28 : decode cX12_steps 28 = .ok (.aload_n 0, 1) := by decide +kernel
theorem dX12_steps_29 : decode cX12_steps 29 = .ok (.dup, 1) := by decide +kernel
theorem dX12_steps_33 : decode cX12_steps 33 = .ok (.iconst 1, 1) := by decide +kernel
theorem dX12_steps_34 : decode cX12_steps 34 = .ok (.iadd, 1) := by decide +kernel
theorem dX12_steps_38 : decode cX12_steps 38 = .ok (.aload_n 0, 1) := by decide +kernel
theorem dX12_steps_42 : decode cX12_steps 42 = .ok (.iload_n 3, 1) := by decide +kernel
theorem dX12_steps_43 : decode cX12_steps 43 = .ok (.iconst 2, 1) := by decide +kernel
theorem dX12_steps_45 : decode cX12_steps 45 = .ok (.iconst 0, 1) := by decide +kernel
theorem dX12_steps_46 : decode cX12_steps 46 = .ok (.istore 4, 2) := by decide +kernel
theorem dX12_steps_44 : decode cX12_steps 44 = .ok (.iastore, 1) := by decide +kernel
theorem dX12_steps_39 : decode cX12_steps 39 = .ok (.getfield 49, 3) := by decide +kernel
theorem dX12_steps_35 : decode cX12_steps 35 = .ok (.putfield 267, 3) := by decide +kernel
theorem dX12_steps_30 : decode cX12_steps 30 = .ok (.getfield 267, 3) := by decide +kernel
theorem dX12_steps_26 : decode cX12_steps 26 = .ok (.iaload, 1) := by decide +kernel
theorem dX12_steps_23 : decode cX12_steps 23 = .ok (.getfield 267, 3) := by decide +kernel
theorem dX12_steps_19 : decode cX12_steps 19 = .ok (.getfield 77, 3) := by decide +kernel
theorem dX12_steps_15 : decode cX12_steps 15 = .ok (.if_icmp .ge 67, 3) := by decide +kernel
theorem dX12_steps_12 : decode cX12_steps 12 = .ok (.getfield 264, 3) := by decide +kernel
theorem dX12_steps_8 : decode cX12_steps 8 = .ok (.getfield 267, 3) := by decide +kernel
theorem dX12_steps_4 : decode cX12_steps 4 = .ok (.if_icmp .ge 78, 3) := by decide +kernel
theorem dX12_steps_48 : decode cX12_steps 48 = .ok (.iload 4, 2) := by decide +kernel
theorem dX12_steps_50 : decode cX12_steps 50 = .ok (.aload_n 0, 1) := by decide +kernel
theorem dX12_steps_54 : decode cX12_steps 54 = .ok (.iload_n 3, 1) := by decide +kernel
theorem dX12_steps_76 : decode cX12_steps 76 = .ok (.iinc 2 1, 3) := by decide +kernel
theorem dX12_steps_79 : decode cX12_steps 79 = .ok (.goto (-77), 3) := by decide +kernel
theorem dX12_steps_59 : decode cX12_steps 59 = .ok (.aload_n 0, 1) := by decide +kernel
theorem dX12_steps_60 : decode cX12_steps 60 = .ok (.aload_n 0, 1) := by decide +kernel
theorem dX12_steps_61 : decode cX12_steps 61 = .ok (.iload_n 3, 1) := by decide +kernel
theorem dX12_steps_62 : decode cX12_steps 62 = .ok (.iload 4, 2) := by decide +kernel
theorem dX12_steps_64 : decode cX12_steps 64 = .ok (.invokevirtual 294, 3) := by decide +kernel
theorem dX12_steps_67 : decode cX12_steps 67 = .ok (.invokevirtual 396, 3) := by decide +kernel
theorem dX12_steps_70 : decode cX12_steps 70 = .ok (.iinc 4 1, 3) := by decide +kernel
theorem dX12_steps_73 : decode cX12_steps 73 = .ok (.goto (-25), 3) := by decide +kernel
theorem dX12_steps_56 : decode cX12_steps 56 = .ok (.if_icmp .ge 20, 3) := by decide +kernel
theorem dX12_steps_55 : decode cX12_steps 55 = .ok (.iaload, 1) := by decide +kernel
theorem dX12_steps_51 : decode cX12_steps 51 = .ok (.getfield 37, 3) := by decide +kernel
theorem dX12_lookEmpty_0 : decode cX12_lookEmpty 0 = .ok (.aload_n 0, 1) := by decide +kernel
theorem dX12_lookEmpty_4 : decode cX12_lookEmpty 4 = .ok (.aload_n 0, 1) := by decide +kernel
theorem dX12_lookEmpty_13 : decode cX12_lookEmpty 13 = .ok (.aload_n 0, 1) := by decide +kernel
theorem dX12_lookEmpty_24 : decode cX12_lookEmpty 24 = .ok (.aload_n 0, 1) := by decide +kernel
theorem dX12_lookEmpty_28 : decode cX12_lookEmpty 28 = .ok (.aload_n 0, 1) := by decide +kernel
theorem dX12_lookEmpty_37 : decode cX12_lookEmpty 37 = .ok (.aload_n 0, 1) := by decide +kernel
theorem dX12_lookEmpty_38 : decode cX12_lookEmpty 38 = .ok (.dup, 1) := by decide +kernel
theorem dX12_lookEmpty_42 : decode cX12_lookEmpty 42 = .ok (.iconst 1, 1) := by decide +kernel
theorem dX12_lookEmpty_43 : decode cX12_lookEmpty 43 = .ok (.iadd, 1) := by decide +kernel
theorem dX12_lookEmpty_47 : decode cX12_lookEmpty 47 = .ok (.iconst 0, 1) := by decide +kernel
theorem dX12_lookEmpty_48 : decode cX12_lookEmpty 48 = .ok (.istore_n 1, 1) := by decide +kernel
theorem dX12_lookEmpty_44 : decode cX12_lookEmpty 44 = .ok (.putfield 249, 3) := by decide +kernel
theorem dX12_lookEmpty_39 : decode cX12_lookEmpty 39 = .ok (.getfield 249, 3) := by decide +kernel
theorem dX12_lookEmpty_35 : decode cX12_lookEmpty 35 = .ok (.iconst 0, 1) := by decide +kernel
theorem dX12_lookEmpty_36 : decode cX12_lookEmpty 36 = .ok (.ireturn, 1) := by decide +kernel
theorem dX12_lookEmpty_32 : decode cX12_lookEmpty 32 = .ok (.if_icmp .ge 5, 3) := by decide +kernel
theorem dX12_lookEmpty_29 : decode cX12_lookEmpty 29 = .ok (.getfield 264, 3) := by decide +kernel
theorem dX12_lookEmpty_25 : decode cX12_lookEmpty 25 = .ok (.getfield 267, 3) := by decide +kernel
theorem dX12_lookEmpty_20 : decode cX12_lookEmpty 20 = .ok (.aload_n 0, 1) := by decide +kernel
theorem dX12_lookEmpty_21 : decode cX12_lookEmpty 21 = .ok (.invokevirtual 399, 3) := by decide +kernel
theorem dX12_lookEmpty_17 : decode cX12_lookEmpty 17 = .ok (.ifCond .ne 7, 3) := by decide +kernel
theorem dX12_lookEmpty_14 : decode cX12_lookEmpty 14 = .ok (.getfield 228, 3) := by decide +kernel
theorem dX12_lookEmpty_11 : decode cX12_lookEmpty 11 = .ok (.iconst 0, 1) := by decide +kernel
theorem dX12_lookEmpty_12 : decode cX12_lookEmpty 12 = .ok (.ireturn, 1) := by decide +kernel
theorem dX12_lookEmpty_8 : decode cX12_lookEmpty 8 = .ok (.if_icmp .ge 5, 3) := by decide +kernel
theorem dX12_lookEmpty_5 : decode cX12_lookEmpty 5 = .ok (.getfield 264, 3) := by decide +kernel
theorem dX12_lookEmpty_1 : decode cX12_lookEmpty 1 = .ok (.getfield 267, 3) := by decide +kernel
theorem dX12_lookEmpty_49 : decode cX12_lookEmpty 49 = .ok (.iload_n 1, 1) := by decide +kernel
theorem dX12_lookEmpty_50 : decode cX12_lookEmpty 50 = .ok (.sipush 3100, 3) := by decide +kernel
theorem dX12_lookEmpty_91 : decode cX12_lookEmpty 91 = .ok (.aload_n 0, 1) := by decide +kernel
theorem dX12_lookEmpty_92 : decode cX12_lookEmpty 92 = .ok (.iconst 0, 1) := by decide +kernel
theorem dX12_lookEmpty_96 : decode cX12_lookEmpty 96 = .ok (.aload_n 0, 1) := by decide +kernel
theorem dX12_lookEmpty_97 : decode cX12_lookEmpty 97 = .ok (.invokevirtual 336, 3) := by decide +kernel
theorem dX12_lookEmpty_100 : decode cX12_lookEmpty 100 = .ok (.aload_n 0, 1) := by decide +kernel
theorem dX12_lookEmpty_101 : decode cX12_lookEmpty 101 = .ok (.invokevirtual 339, 3) := by decide +kernel
theorem dX12_lookEmpty_104 : decode cX12_lookEmpty 104 = .ok (.aload_n 0, 1) := by decide +kernel
theorem dX12_lookEmpty_105 : decode cX12_lookEmpty 105 = .ok (.iconst 0, 1) := by decide +kernel
theorem dX12_lookEmpty_109 : decode cX12_lookEmpty 109 = .ok (.aload_n 0, 1) := by decide +kernel
theorem dX12_lookEmpty_110 : decode cX12_lookEmpty 110 = .ok (.invokevirtual 342, 3) := by decide +kernel
theorem dX12_lookEmpty_113 : decode cX12_lookEmpty 113 = .ok (.ireturn, 1) := by decide +kernel
theorem dX12_lookEmpty_106 : decode cX12_lookEmpty 106 = .ok (.putfield 270, 3) := by decide +kernel
theorem dX12_lookEmpty_93 : decode cX12_lookEmpty 93 = .ok (.putfield 291, 3) := by decide +kernel
theorem dX12_lookEmpty_56 : decode cX12_lookEmpty 56 = .ok (.aload_n 0, 1) := by decide +kernel
theorem dX12_lookEmpty_60 : decode cX12_lookEmpty 60 = .ok (.iload_n 1, 1) := by decide +kernel
theorem dX12_lookEmpty_61 : decode cX12_lookEmpty 61 = .ok (.aload_n 0, 1) := by decide +kernel
theorem dX12_lookEmpty_65 : decode cX12_lookEmpty 65 = .ok (.iload_n 1, 1) := by decide +kernel
theorem dX12_lookEmpty_83 : decode cX12_lookEmpty 83 = .ok (.iconst 0, 1) := by decide +kernel
theorem dX12_lookEmpty_85 : decode cX12_lookEmpty 85 = .ok (.iinc 1 1, 3) := by decide +kernel
theorem dX12_lookEmpty_88 : decode cX12_lookEmpty 88 = .ok (.goto (-39), 3) := by decide +kernel
theorem dX12_lookEmpty_84 : decode cX12_lookEmpty 84 = .ok (.bastore, 1) := by decide +kernel
theorem dX12_lookEmpty_70 : decode cX12_lookEmpty 70 = .ok (.aload_n 0, 1) := by decide +kernel
theorem dX12_lookEmpty_74 : decode cX12_lookEmpty 74 = .ok (.iload_n 1, 1) := by decide +kernel
theorem dX12_lookEmpty_79 : decode cX12_lookEmpty 79 = .ok (.iconst 1, 1) := by decide +kernel
theorem dX12_lookEmpty_80 : decode cX12_lookEmpty 80 = .ok (.goto 4, 3) := by decide +kernel
theorem dX12_lookEmpty_76 : decode cX12_lookEmpty 76 = .ok (.ifCond .eq 7, 3) := by decide +kernel
theorem dX12_lookEmpty_75 : decode cX12_lookEmpty 75 = .ok (.iaload, 1) := by decide +kernel
theorem dX12_lookEmpty_71 : decode cX12_lookEmpty 71 = .ok (.getfield 49, 3) := by decide +kernel
theorem dX12_lookEmpty_67 : decode cX12_lookEmpty 67 = .ok (.ifCond .eq 16, 3) := by decide +kernel
theorem dX12_lookEmpty_66 : decode cX12_lookEmpty 66 = .ok (.baload, 1) := by decide +kernel
theorem dX12_lookEmpty_62 : decode cX12_lookEmpty 62 = .ok (.getfield 27, 3) := by decide +kernel
theorem dX12_lookEmpty_57 : decode cX12_lookEmpty 57 = .ok (.getfield 62, 3) := by decide +kernel
theorem dX12_lookEmpty_53 : decode cX12_lookEmpty 53 = .ok (.if_icmp .ge 38, 3) := by decide +kernel
theorem dX12_finish_0 : decode cX12_finish 0 = .ok (.iconst 0, 1) := by decide +kernel
theorem dX12_finish_1 : decode cX12_finish 1 = .ok (.istore_n 1, 1) := by decide +kernel
theorem dX12_finish_2 : decode cX12_finish 2 = .ok (.aload_n 0, 1) := by decide +kernel
theorem dX12_finish_27 : decode cX12_finish 27 = .ok (.iload_n 1, 1) := by decide +kernel
theorem dX12_finish_28 : decode cX12_finish 28 = .ok (.ireturn, 1) := by decide +kernel
theorem dX12_finish_9 : decode cX12_finish 9 = .ok (.aload_n 0, 1) := by decide +kernel
theorem dX12_finish_10 : decode cX12_finish 10 = .ok (.sipush 3100, 3) := by decide +kernel
theorem dX12_finish_13 : decode cX12_finish 13 = .ok (.invokevirtual 402, 3) := by decide +kernel
theorem dX12_finish_16 : decode cX12_finish 16 = .ok (.istore_n 2, 1) := by decide +kernel
theorem dX12_finish_17 : decode cX12_finish 17 = .ok (.iload_n 1, 1) := by decide +kernel
theorem dX12_finish_18 : decode cX12_finish 18 = .ok (.aload_n 0, 1) := by decide +kernel
theorem dX12_finish_19 : decode cX12_finish 19 = .ok (.invokevirtual 405, 3) := by decide +kernel
theorem dX12_finish_22 : decode cX12_finish 22 = .ok (.iadd, 1) := by decide +kernel
theorem dX12_finish_23 : decode cX12_finish 23 = .ok (.istore_n 1, 1) := by decide +kernel
theorem dX12_finish_24 : decode cX12_finish 24 = .ok (.goto (-22), 3) := by decide +kernel
theorem dX12_finish_6 : decode cX12_finish 6 = .ok (.ifCond .eq 21, 3) := by decide +kernel
theorem dX12_finish_3 : decode cX12_finish 3 = .ok (.getfield 270, 3) := by decide +kernel
theorem dX12_whole_0 : decode cX12_whole 0 = .ok (.aload_n 0, 1) := by decide +kernel
theorem dX12_whole_1 : decode cX12_whole 1 = .ok (.invokevirtual 408, 3) := by decide +kernel
theorem dX12_whole_4 : decode cX12_whole 4 = .ok (.aload_n 0, 1) := by decide +kernel
theorem dX12_whole_5 : decode cX12_whole 5 = .ok (.invokevirtual 411, 3) := by decide +kernel
theorem dX12_whole_8 : decode cX12_whole 8 = .ok (.ireturn, 1) := by decide +kernel
theorem dX12_findInSteps_0 : decode cX12_findInSteps 0 = .ok (.aload_n 0, 1) := by decide +kernel
theorem dX12_findInSteps_24 : decode cX12_findInSteps 24 = .ok (.aload_n 0, 1) := by decide +kernel
theorem dX12_findInSteps_45 : decode cX12_findInSteps 45 = .ok (.aload_n 0, 1) := by decide +kernel
theorem dX12_findInSteps_46 : decode cX12_findInSteps 46 = .ok (.iload_n 1, 1) := by decide +kernel
theorem dX12_findInSteps_47 : decode cX12_findInSteps 47 = .ok (.invokevirtual 436, 3) := by decide +kernel
theorem dX12_findInSteps_50 : decode cX12_findInSteps 50 = .ok (.istore_n 2, 1) := by decide +kernel
theorem dX12_findInSteps_51 : decode cX12_findInSteps 51 = .ok (.iload_n 2, 1) := by decide +kernel
theorem dX12_findInSteps_57 : decode cX12_findInSteps 57 = .ok (.aload_n 0, 1) := by decide +kernel
theorem dX12_findInSteps_68 : decode cX12_findInSteps 68 = .ok (.iconst 0, 1) := by decide +kernel
theorem dX12_findInSteps_69 : decode cX12_findInSteps 69 = .ok (.istore_n 3, 1) := by decide +kernel
theorem dX12_findInSteps_70 : decode cX12_findInSteps 70 = .ok (.iload_n 3, 1) := by decide +kernel
theorem dX12_findInSteps_71 : decode cX12_findInSteps 71 = .ok (.ifCond .eq 10, 3) := by decide +kernel
theorem dX12_findInSteps_81 : decode cX12_findInSteps 81 = .ok (.aload_n 0, 1) := by decide +kernel
theorem dX12_findInSteps_82 : decode cX12_findInSteps 82 = .ok (.invokevirtual 411, 3) := by decide +kernel
theorem dX12_findInSteps_85 : decode cX12_findInSteps 85 = .ok (.istore 4, 2) := by decide +kernel
theorem dX12_findInSteps_87 : decode cX12_findInSteps 87 = .ok (.aload_n 0, 1) := by decide +kernel
theorem dX12_findInSteps_88 : decode cX12_findInSteps 88 = .ok (.iload_n 1, 1) := by decide +kernel
theorem dX12_findInSteps_89 : decode cX12_findInSteps 89 = .ok (.invokevirtual 436, 3) := by decide +kernel
theorem dX12_findInSteps_92 : decode cX12_findInSteps 92 = .ok (.istore_n 2, 1) := by decide +kernel
theorem dX12_findInSteps_93 : decode cX12_findInSteps 93 = .ok (.iload_n 2, 1) := by decide +kernel
theorem dX12_findInSteps_101 : decode cX12_findInSteps 101 = .ok (.iload_n 2, 1) := by decide +kernel
theorem dX12_findInSteps_102 : decode cX12_findInSteps 102 = .ok (.ireturn, 1) := by decide +kernel
theorem dX12_findInSteps_97 : decode cX12_findInSteps 97 = .ok (.iload_n 3, 1) := by decide +kernel
theorem dX12_findInSteps_98 : decode cX12_findInSteps 98 = .ok (.ifCond .eq 5, 3) := by decide +kernel
theorem dX12_findInSteps_103 : decode cX12_findInSteps 103 = .ok (.aload_n 0, 1) := by decide +kernel
theorem dX12_findInSteps_104 : decode cX12_findInSteps 104 = .ok (.invokevirtual 442, 3) := by decide +kernel
theorem dX12_findInSteps_107 : decode cX12_findInSteps 107 = .ok (.istore 4, 2) := by decide +kernel
theorem dX12_findInSteps_109 : decode cX12_findInSteps 109 = .ok (.aload_n 0, 1) := by decide +kernel
theorem dX12_findInSteps_110 : decode cX12_findInSteps 110 = .ok (.iload_n 1, 1) := by decide +kernel
theorem dX12_findInSteps_111 : decode cX12_findInSteps 111 = .ok (.invokevirtual 436, 3) := by decide +kernel
theorem dX12_findInSteps_114 : decode cX12_findInSteps 114 = .ok (.ireturn, 1) := by decide +kernel
theorem dX12_findInSteps_94 : decode cX12_findInSteps 94 = .ok (.ifCond .ge 7, 3) := by decide +kernel
theorem dX12_findInSteps_64 : decode cX12_findInSteps 64 = .ok (.iconst 1, 1) := by decide +kernel
theorem dX12_findInSteps_65 : decode cX12_findInSteps 65 = .ok (.goto 4, 3) := by decide +kernel
theorem dX12_findInSteps_74 : decode cX12_findInSteps 74 = .ok (.aload_n 0, 1) := by decide +kernel
theorem dX12_findInSteps_75 : decode cX12_findInSteps 75 = .ok (.invokevirtual 442, 3) := by decide +kernel
theorem dX12_findInSteps_78 : decode cX12_findInSteps 78 = .ok (.goto 7, 3) := by decide +kernel
theorem dX12_findInSteps_61 : decode cX12_findInSteps 61 = .ok (.ifCond .ne 7, 3) := by decide +kernel
theorem dX12_findInSteps_58 : decode cX12_findInSteps 58 = .ok (.getfield 270, 3) := by decide +kernel
theorem dX12_findInSteps_55 : decode cX12_findInSteps 55 = .ok (.iload_n 2, 1) := by decide +kernel
theorem dX12_findInSteps_56 : decode cX12_findInSteps 56 = .ok (.ireturn, 1) := by decide +kernel
theorem dX12_findInSteps_52 : decode cX12_findInSteps 52 = .ok (.ifCond .lt 5, 3) := by decide +kernel
theorem dX12_findInSteps_31 : decode cX12_findInSteps 31 = .ok (.aload_n 0, 1) := by decide +kernel
theorem dX12_findInSteps_32 : decode cX12_findInSteps 32 = .ok (.aload_n 0, 1) := by decide +kernel
theorem dX12_findInSteps_36 : decode cX12_findInSteps 36 = .ok (.invokevirtual 402, 3) := by decide +kernel
theorem dX12_findInSteps_39 : decode cX12_findInSteps 39 = .ok (.istore_n 2, 1) := by decide +kernel
theorem dX12_findInSteps_40 : decode cX12_findInSteps 40 = .ok (.aload_n 0, 1) := by decide +kernel
theorem dX12_findInSteps_41 : decode cX12_findInSteps 41 = .ok (.invokevirtual 405, 3) := by decide +kernel
theorem dX12_findInSteps_44 : decode cX12_findInSteps 44 = .ok (.istore_n 3, 1) := by decide +kernel
theorem dX12_findInSteps_33 : decode cX12_findInSteps 33 = .ok (.getfield 219, 3) := by decide +kernel
theorem dX12_findInSteps_28 : decode cX12_findInSteps 28 = .ok (.ifCond .eq 17, 3) := by decide +kernel
theorem dX12_findInSteps_25 : decode cX12_findInSteps 25 = .ok (.getfield 270, 3) := by decide +kernel
theorem dX12_findInSteps_7 : decode cX12_findInSteps 7 = .ok (.aload_n 0, 1) := by decide +kernel
theorem dX12_findInSteps_8 : decode cX12_findInSteps 8 = .ok (.invokevirtual 439, 3) := by decide +kernel
theorem dX12_freeWords_0 : decode cX12_freeWords 0 = .ok (.aload_n 0, 1) := by decide +kernel
theorem dX12_freeWords_4 : decode cX12_freeWords 4 = .ok (.aload_n 0, 1) := by decide +kernel
theorem dX12_freeWords_8 : decode cX12_freeWords 8 = .ok (.isub, 1) := by decide +kernel
theorem dX12_findInSteps_11 : decode cX12_findInSteps 11 = .ok (.iconst 4, 1) := by decide +kernel
theorem dX12_findInSteps_12 : decode cX12_findInSteps 12 = .ok (.imul, 1) := by decide +kernel
theorem dX12_findInSteps_13 : decode cX12_findInSteps 13 = .ok (.aload_n 0, 1) := by decide +kernel
theorem dX12_findInSteps_20 : decode cX12_findInSteps 20 = .ok (.aload_n 0, 1) := by decide +kernel
theorem dX12_findInSteps_21 : decode cX12_findInSteps 21 = .ok (.invokevirtual 408, 3) := by decide +kernel
theorem dX12_findInSteps_17 : decode cX12_findInSteps 17 = .ok (.if_icmp .ge 7, 3) := by decide +kernel
theorem dX12_findInSteps_14 : decode cX12_findInSteps 14 = .ok (.getfield 202, 3) := by decide +kernel
theorem dX12_freeWords_9 : decode cX12_freeWords 9 = .ok (.ireturn, 1) := by decide +kernel
theorem dX12_freeWords_5 : decode cX12_freeWords 5 = .ok (.getfield 243, 3) := by decide +kernel
theorem dX12_freeWords_1 : decode cX12_freeWords 1 = .ok (.getfield 202, 3) := by decide +kernel
theorem dX12_findInSteps_4 : decode cX12_findInSteps 4 = .ok (.ifCond .ne 20, 3) := by decide +kernel
theorem dX12_findInSteps_1 : decode cX12_findInSteps 1 = .ok (.getfield 270, 3) := by decide +kernel
theorem dX12_findByForm_0 : decode cX12_findByForm 0 = .ok (.aload_n 0, 1) := by decide +kernel
theorem dX12_findByForm_1 : decode cX12_findByForm 1 = .ok (.iload_n 1, 1) := by decide +kernel
theorem dX12_findByForm_2 : decode cX12_findByForm 2 = .ok (.invokevirtual 436, 3) := by decide +kernel
theorem dX12_findByForm_5 : decode cX12_findByForm 5 = .ok (.istore_n 2, 1) := by decide +kernel
theorem dX12_findByForm_6 : decode cX12_findByForm 6 = .ok (.iload_n 2, 1) := by decide +kernel
theorem dX12_findByForm_12 : decode cX12_findByForm 12 = .ok (.aload_n 0, 1) := by decide +kernel
theorem dX12_findByForm_13 : decode cX12_findByForm 13 = .ok (.invokevirtual 346, 3) := by decide +kernel
theorem dX12_findByForm_16 : decode cX12_findByForm 16 = .ok (.istore_n 3, 1) := by decide +kernel
theorem dX12_findByForm_17 : decode cX12_findByForm 17 = .ok (.aload_n 0, 1) := by decide +kernel
theorem dX12_findByForm_18 : decode cX12_findByForm 18 = .ok (.iload_n 1, 1) := by decide +kernel
theorem dX12_findByForm_19 : decode cX12_findByForm 19 = .ok (.invokevirtual 436, 3) := by decide +kernel
theorem dX12_findByForm_22 : decode cX12_findByForm 22 = .ok (.ireturn, 1) := by decide +kernel
theorem dX12_findByForm_10 : decode cX12_findByForm 10 = .ok (.iload_n 2, 1) := by decide +kernel
theorem dX12_findByForm_11 : decode cX12_findByForm 11 = .ok (.ireturn, 1) := by decide +kernel
theorem dX12_findByForm_7 : decode cX12_findByForm 7 = .ok (.ifCond .lt 5, 3) := by decide +kernel
theorem dX12_fall_0 : decode cX12_fall 0 = .ok (.aload_n 0, 1) := by decide +kernel
theorem dX12_fall_4 : decode cX12_fall 4 = .ok (.iload_n 1, 1) := by decide +kernel
theorem dX12_fall_5 : decode cX12_fall 5 = .ok (.dup2, 1) := by decide +kernel
theorem dX12_fall_7 : decode cX12_fall 7 = .ok (.iconst 1, 1) := by decide +kernel
theorem dX12_fall_8 : decode cX12_fall 8 = .ok (.isub, 1) := by decide +kernel
theorem dX12_fall_10 : decode cX12_fall 10 = .ok (.aload_n 0, 1) := by decide +kernel
theorem dX12_fall_14 : decode cX12_fall 14 = .ok (.iload_n 1, 1) := by decide +kernel
theorem dX12_fall_28 : decode cX12_fall 28 = .ok (.return_, 1) := by decide +kernel
theorem dX12_fall_19 : decode cX12_fall 19 = .ok (.aload_n 0, 1) := by decide +kernel
theorem dX12_fall_23 : decode cX12_fall 23 = .ok (.iload_n 1, 1) := by decide +kernel
theorem dX12_fall_29 : decode cX12_fall 29 = .ok (.aload_n 0, 1) := by decide +kernel
theorem dX12_fall_33 : decode cX12_fall 33 = .ok (.iload_n 1, 1) := by decide +kernel
theorem dX12_fall_44 : decode cX12_fall 44 = .ok (.aload_n 0, 1) := by decide +kernel
theorem dX12_fall_45 : decode cX12_fall 45 = .ok (.iload_n 1, 1) := by decide +kernel
theorem dX12_fall_46 : decode cX12_fall 46 = .ok (.invokevirtual 317, 3) := by decide +kernel
theorem dX12_fall_49 : decode cX12_fall 49 = .ok (.aload_n 0, 1) := by decide +kernel
theorem dX12_fall_50 : decode cX12_fall 50 = .ok (.iload_n 1, 1) := by decide +kernel
theorem dX12_fall_51 : decode cX12_fall 51 = .ok (.invokevirtual 333, 3) := by decide +kernel
theorem dX12_fall_54 : decode cX12_fall 54 = .ok (.aload_n 0, 1) := by decide +kernel
theorem dX12_fall_58 : decode cX12_fall 58 = .ok (.aload_n 0, 1) := by decide +kernel
theorem dX12_fall_62 : decode cX12_fall 62 = .ok (.iload_n 1, 1) := by decide +kernel
theorem dX12_fall_64 : decode cX12_fall 64 = .ok (.aload_n 0, 1) := by decide +kernel
theorem dX12_fall_68 : decode cX12_fall 68 = .ok (.aload_n 0, 1) := by decide +kernel
theorem dX12_fall_72 : decode cX12_fall 72 = .ok (.iconst 0, 1) := by decide +kernel
theorem dX12_fall_74 : decode cX12_fall 74 = .ok (.aload_n 0, 1) := by decide +kernel
theorem dX12_fall_75 : decode cX12_fall 75 = .ok (.dup, 1) := by decide +kernel
theorem dX12_fall_79 : decode cX12_fall 79 = .ok (.iconst 1, 1) := by decide +kernel
theorem dX12_fall_80 : decode cX12_fall 80 = .ok (.iadd, 1) := by decide +kernel
theorem dX12_fall_84 : decode cX12_fall 84 = .ok (.return_, 1) := by decide +kernel
theorem dX12_fall_81 : decode cX12_fall 81 = .ok (.putfield 390, 3) := by decide +kernel
theorem dX12_fall_76 : decode cX12_fall 76 = .ok (.getfield 390, 3) := by decide +kernel
theorem dX12_fall_73 : decode cX12_fall 73 = .ok (.iastore, 1) := by decide +kernel
theorem dX12_fall_69 : decode cX12_fall 69 = .ok (.getfield 390, 3) := by decide +kernel
theorem dX12_fall_65 : decode cX12_fall 65 = .ok (.getfield 95, 3) := by decide +kernel
theorem dX12_fall_63 : decode cX12_fall 63 = .ok (.iastore, 1) := by decide +kernel
theorem dX12_fall_59 : decode cX12_fall 59 = .ok (.getfield 390, 3) := by decide +kernel
theorem dX12_fall_55 : decode cX12_fall 55 = .ok (.getfield 92, 3) := by decide +kernel
theorem dX12_fall_38 : decode cX12_fall 38 = .ok (.aload_n 0, 1) := by decide +kernel
theorem dX12_fall_39 : decode cX12_fall 39 = .ok (.iload_n 1, 1) := by decide +kernel
theorem dX12_fall_40 : decode cX12_fall 40 = .ok (.invokevirtual 324, 3) := by decide +kernel
theorem dX12_fall_43 : decode cX12_fall 43 = .ok (.return_, 1) := by decide +kernel
theorem dX12_fall_35 : decode cX12_fall 35 = .ok (.ifCond .eq 9, 3) := by decide +kernel
theorem dX12_fall_34 : decode cX12_fall 34 = .ok (.baload, 1) := by decide +kernel
theorem dX12_fall_30 : decode cX12_fall 30 = .ok (.getfield 59, 3) := by decide +kernel
theorem dX12_fall_25 : decode cX12_fall 25 = .ok (.ifCond .ne 4, 3) := by decide +kernel
theorem dX12_fall_24 : decode cX12_fall 24 = .ok (.baload, 1) := by decide +kernel
theorem dX12_fall_20 : decode cX12_fall 20 = .ok (.getfield 27, 3) := by decide +kernel
theorem dX12_fall_16 : decode cX12_fall 16 = .ok (.ifCond .gt 12, 3) := by decide +kernel
theorem dX12_fall_15 : decode cX12_fall 15 = .ok (.iaload, 1) := by decide +kernel
theorem dX12_fall_11 : decode cX12_fall 11 = .ok (.getfield 46, 3) := by decide +kernel
theorem dX12_fall_9 : decode cX12_fall 9 = .ok (.iastore, 1) := by decide +kernel
theorem dX12_fall_6 : decode cX12_fall 6 = .ok (.iaload, 1) := by decide +kernel
theorem dX12_fall_1 : decode cX12_fall 1 = .ok (.getfield 46, 3) := by decide +kernel
theorem dX12_less_0 : decode cX12_less 0 = .ok (.iload_n 1, 1) := by decide +kernel
theorem dX12_less_12 : decode cX12_less 12 = .ok (.return_, 1) := by decide +kernel
theorem dX12_less_4 : decode cX12_less 4 = .ok (.aload_n 0, 1) := by decide +kernel
theorem dX12_less_8 : decode cX12_less 8 = .ok (.iconst 4, 1) := by decide +kernel
theorem dX12_less_13 : decode cX12_less 13 = .ok (.aload_n 0, 1) := by decide +kernel
theorem dX12_less_14 : decode cX12_less 14 = .ok (.iconst 0, 1) := by decide +kernel
theorem dX12_less_18 : decode cX12_less 18 = .ok (.aload_n 0, 1) := by decide +kernel
theorem dX12_less_19 : decode cX12_less 19 = .ok (.iload_n 1, 1) := by decide +kernel
theorem dX12_less_20 : decode cX12_less 20 = .ok (.invokevirtual 393, 3) := by decide +kernel
theorem dX12_less_15 : decode cX12_less 15 = .ok (.putfield 390, 3) := by decide +kernel
theorem dX12_less_9 : decode cX12_less 9 = .ok (.if_icmp .eq 4, 3) := by decide +kernel
theorem dX12_less_5 : decode cX12_less 5 = .ok (.getfield 199, 3) := by decide +kernel
theorem dX12_less_1 : decode cX12_less 1 = .ok (.ifCond .lt 11, 3) := by decide +kernel
theorem dX12_less_23 : decode cX12_less 23 = .ok (.aload_n 0, 1) := by decide +kernel
theorem dX12_less_114 : decode cX12_less 114 = .ok (.return_, 1) := by decide +kernel
theorem dX12_less_30 : decode cX12_less 30 = .ok (.aload_n 0, 1) := by decide +kernel
theorem dX12_less_34 : decode cX12_less 34 = .ok (.aload_n 0, 1) := by decide +kernel
theorem dX12_less_38 : decode cX12_less 38 = .ok (.iconst 1, 1) := by decide +kernel
theorem dX12_less_39 : decode cX12_less 39 = .ok (.isub, 1) := by decide +kernel
theorem dX12_less_41 : decode cX12_less 41 = .ok (.istore_n 2, 1) := by decide +kernel
theorem dX12_less_42 : decode cX12_less 42 = .ok (.aload_n 0, 1) := by decide +kernel
theorem dX12_less_46 : decode cX12_less 46 = .ok (.aload_n 0, 1) := by decide +kernel
theorem dX12_less_50 : decode cX12_less 50 = .ok (.iconst 1, 1) := by decide +kernel
theorem dX12_less_51 : decode cX12_less 51 = .ok (.isub, 1) := by decide +kernel
theorem dX12_less_53 : decode cX12_less 53 = .ok (.istore_n 3, 1) := by decide +kernel
theorem dX12_less_54 : decode cX12_less 54 = .ok (.iload_n 3, 1) := by decide +kernel
theorem dX12_less_55 : decode cX12_less 55 = .ok (.aload_n 0, 1) := by decide +kernel
theorem dX12_less_59 : decode cX12_less 59 = .ok (.iload_n 2, 1) := by decide +kernel
theorem dX12_less_77 : decode cX12_less 77 = .ok (.aload_n 0, 1) := by decide +kernel
theorem dX12_less_81 : decode cX12_less 81 = .ok (.aload_n 0, 1) := by decide +kernel
theorem dX12_less_85 : decode cX12_less 85 = .ok (.iconst 1, 1) := by decide +kernel
theorem dX12_less_86 : decode cX12_less 86 = .ok (.isub, 1) := by decide +kernel
theorem dX12_less_87 : decode cX12_less 87 = .ok (.dup2, 1) := by decide +kernel
theorem dX12_less_89 : decode cX12_less 89 = .ok (.iconst 1, 1) := by decide +kernel
theorem dX12_less_90 : decode cX12_less 90 = .ok (.iadd, 1) := by decide +kernel
theorem dX12_less_92 : decode cX12_less 92 = .ok (.aload_n 0, 1) := by decide +kernel
theorem dX12_less_93 : decode cX12_less 93 = .ok (.iload_n 2, 1) := by decide +kernel
theorem dX12_less_94 : decode cX12_less 94 = .ok (.iload_n 3, 1) := by decide +kernel
theorem dX12_less_95 : decode cX12_less 95 = .ok (.invokevirtual 294, 3) := by decide +kernel
theorem dX12_less_98 : decode cX12_less 98 = .ok (.istore 4, 2) := by decide +kernel
theorem dX12_less_100 : decode cX12_less 100 = .ok (.iload 4, 2) := by decide +kernel
theorem dX12_less_111 : decode cX12_less 111 = .ok (.goto (-88), 3) := by decide +kernel
theorem dX12_less_105 : decode cX12_less 105 = .ok (.aload_n 0, 1) := by decide +kernel
theorem dX12_less_106 : decode cX12_less 106 = .ok (.iload 4, 2) := by decide +kernel
theorem dX12_less_108 : decode cX12_less 108 = .ok (.invokevirtual 393, 3) := by decide +kernel
theorem dX12_less_102 : decode cX12_less 102 = .ok (.ifCond .lt 9, 3) := by decide +kernel
theorem dX12_less_91 : decode cX12_less 91 = .ok (.iastore, 1) := by decide +kernel
theorem dX12_less_88 : decode cX12_less 88 = .ok (.iaload, 1) := by decide +kernel
theorem dX12_less_82 : decode cX12_less 82 = .ok (.getfield 390, 3) := by decide +kernel
theorem dX12_less_78 : decode cX12_less 78 = .ok (.getfield 95, 3) := by decide +kernel
theorem dX12_less_64 : decode cX12_less 64 = .ok (.aload_n 0, 1) := by decide +kernel
theorem dX12_less_65 : decode cX12_less 65 = .ok (.dup, 1) := by decide +kernel
theorem dX12_less_69 : decode cX12_less 69 = .ok (.iconst 1, 1) := by decide +kernel
theorem dX12_less_70 : decode cX12_less 70 = .ok (.isub, 1) := by decide +kernel
theorem dX12_less_74 : decode cX12_less 74 = .ok (.goto (-51), 3) := by decide +kernel
theorem dX12_less_71 : decode cX12_less 71 = .ok (.putfield 390, 3) := by decide +kernel
theorem dX12_less_66 : decode cX12_less 66 = .ok (.getfield 390, 3) := by decide +kernel
theorem dX12_less_61 : decode cX12_less 61 = .ok (.if_icmp .ne 16, 3) := by decide +kernel
theorem dX12_less_60 : decode cX12_less 60 = .ok (.iaload, 1) := by decide +kernel
theorem dX12_less_56 : decode cX12_less 56 = .ok (.getfield 37, 3) := by decide +kernel
theorem dX12_less_52 : decode cX12_less 52 = .ok (.iaload, 1) := by decide +kernel
theorem dX12_less_47 : decode cX12_less 47 = .ok (.getfield 390, 3) := by decide +kernel
theorem dX12_less_43 : decode cX12_less 43 = .ok (.getfield 95, 3) := by decide +kernel
theorem dX12_less_40 : decode cX12_less 40 = .ok (.iaload, 1) := by decide +kernel
theorem dX12_less_35 : decode cX12_less 35 = .ok (.getfield 390, 3) := by decide +kernel
theorem dX12_less_31 : decode cX12_less 31 = .ok (.getfield 92, 3) := by decide +kernel
theorem dX12_less_27 : decode cX12_less 27 = .ok (.ifCond .le 87, 3) := by decide +kernel
theorem dX12_less_24 : decode cX12_less 24 = .ok (.getfield 390, 3) := by decide +kernel
theorem dX12_leastEmpty_0 : decode cX12_leastEmpty 0 = .ok (.iconst 0, 1) := by decide +kernel
theorem dX12_leastEmpty_1 : decode cX12_leastEmpty 1 = .ok (.istore_n 1, 1) := by decide +kernel
theorem dX12_leastEmpty_2 : decode cX12_leastEmpty 2 = .ok (.iload_n 1, 1) := by decide +kernel
theorem dX12_leastEmpty_3 : decode cX12_leastEmpty 3 = .ok (.aload_n 0, 1) := by decide +kernel
theorem dX12_leastEmpty_27 : decode cX12_leastEmpty 27 = .ok (.iconst (-1), 1) := by decide +kernel
theorem dX12_leastEmpty_28 : decode cX12_leastEmpty 28 = .ok (.ireturn, 1) := by decide +kernel
theorem dX12_leastEmpty_10 : decode cX12_leastEmpty 10 = .ok (.aload_n 0, 1) := by decide +kernel
theorem dX12_leastEmpty_14 : decode cX12_leastEmpty 14 = .ok (.iload_n 1, 1) := by decide +kernel
theorem dX12_leastEmpty_21 : decode cX12_leastEmpty 21 = .ok (.iinc 1 1, 3) := by decide +kernel
theorem dX12_leastEmpty_24 : decode cX12_leastEmpty 24 = .ok (.goto (-22), 3) := by decide +kernel
theorem dX12_leastEmpty_19 : decode cX12_leastEmpty 19 = .ok (.iload_n 1, 1) := by decide +kernel
theorem dX12_leastEmpty_20 : decode cX12_leastEmpty 20 = .ok (.ireturn, 1) := by decide +kernel
theorem dX12_leastEmpty_16 : decode cX12_leastEmpty 16 = .ok (.ifCond .ne 5, 3) := by decide +kernel
theorem dX12_leastEmpty_15 : decode cX12_leastEmpty 15 = .ok (.iaload, 1) := by decide +kernel
theorem dX12_leastEmpty_11 : decode cX12_leastEmpty 11 = .ok (.getfield 80, 3) := by decide +kernel
theorem dX12_leastEmpty_7 : decode cX12_leastEmpty 7 = .ok (.if_icmp .ge 20, 3) := by decide +kernel
theorem dX12_leastEmpty_4 : decode cX12_leastEmpty 4 = .ok (.getfield 234, 3) := by decide +kernel
theorem dX12_emptyRegions_0 : decode cX12_emptyRegions 0 = .ok (.iconst 0, 1) := by decide +kernel
theorem dX12_emptyRegions_1 : decode cX12_emptyRegions 1 = .ok (.istore_n 1, 1) := by decide +kernel
theorem dX12_emptyRegions_2 : decode cX12_emptyRegions 2 = .ok (.iconst 0, 1) := by decide +kernel
theorem dX12_emptyRegions_3 : decode cX12_emptyRegions 3 = .ok (.istore_n 2, 1) := by decide +kernel
theorem dX12_emptyRegions_4 : decode cX12_emptyRegions 4 = .ok (.iload_n 2, 1) := by decide +kernel
theorem dX12_emptyRegions_5 : decode cX12_emptyRegions 5 = .ok (.aload_n 0, 1) := by decide +kernel
theorem dX12_emptyRegions_30 : decode cX12_emptyRegions 30 = .ok (.iload_n 1, 1) := by decide +kernel
theorem dX12_emptyRegions_31 : decode cX12_emptyRegions 31 = .ok (.ireturn, 1) := by decide +kernel
theorem dX12_emptyRegions_12 : decode cX12_emptyRegions 12 = .ok (.aload_n 0, 1) := by decide +kernel
theorem dX12_emptyRegions_16 : decode cX12_emptyRegions 16 = .ok (.iload_n 2, 1) := by decide +kernel
theorem dX12_emptyRegions_24 : decode cX12_emptyRegions 24 = .ok (.iinc 2 1, 3) := by decide +kernel
theorem dX12_emptyRegions_27 : decode cX12_emptyRegions 27 = .ok (.goto (-23), 3) := by decide +kernel
theorem dX12_emptyRegions_21 : decode cX12_emptyRegions 21 = .ok (.iinc 1 1, 3) := by decide +kernel
theorem dX12_emptyRegions_18 : decode cX12_emptyRegions 18 = .ok (.ifCond .ne 6, 3) := by decide +kernel
theorem dX12_emptyRegions_17 : decode cX12_emptyRegions 17 = .ok (.iaload, 1) := by decide +kernel
theorem dX12_emptyRegions_13 : decode cX12_emptyRegions 13 = .ok (.getfield 80, 3) := by decide +kernel
theorem dX12_emptyRegions_9 : decode cX12_emptyRegions 9 = .ok (.if_icmp .ge 21, 3) := by decide +kernel
theorem dX12_emptyRegions_6 : decode cX12_emptyRegions 6 = .ok (.getfield 234, 3) := by decide +kernel
theorem dX12_sparse_0 : decode cX12_sparse 0 = .ok (.iconst (-1), 1) := by decide +kernel
theorem dX12_sparse_1 : decode cX12_sparse 1 = .ok (.istore_n 1, 1) := by decide +kernel
theorem dX12_sparse_2 : decode cX12_sparse 2 = .ok (.iconst 0, 1) := by decide +kernel
theorem dX12_sparse_3 : decode cX12_sparse 3 = .ok (.istore_n 2, 1) := by decide +kernel
theorem dX12_sparse_4 : decode cX12_sparse 4 = .ok (.iload_n 2, 1) := by decide +kernel
theorem dX12_sparse_5 : decode cX12_sparse 5 = .ok (.aload_n 0, 1) := by decide +kernel
theorem dX12_sparse_98 : decode cX12_sparse 98 = .ok (.iload_n 1, 1) := by decide +kernel
theorem dX12_sparse_99 : decode cX12_sparse 99 = .ok (.ireturn, 1) := by decide +kernel
theorem dX12_sparse_12 : decode cX12_sparse 12 = .ok (.aload_n 0, 1) := by decide +kernel
theorem dX12_sparse_16 : decode cX12_sparse 16 = .ok (.iload_n 2, 1) := by decide +kernel
theorem dX12_sparse_92 : decode cX12_sparse 92 = .ok (.iinc 2 1, 3) := by decide +kernel
theorem dX12_sparse_95 : decode cX12_sparse 95 = .ok (.goto (-91), 3) := by decide +kernel
theorem dX12_sparse_21 : decode cX12_sparse 21 = .ok (.aload_n 0, 1) := by decide +kernel
theorem dX12_sparse_25 : decode cX12_sparse 25 = .ok (.iload_n 2, 1) := by decide +kernel
theorem dX12_sparse_30 : decode cX12_sparse 30 = .ok (.iload_n 2, 1) := by decide +kernel
theorem dX12_sparse_31 : decode cX12_sparse 31 = .ok (.aload_n 0, 1) := by decide +kernel
theorem dX12_sparse_38 : decode cX12_sparse 38 = .ok (.aload_n 0, 1) := by decide +kernel
theorem dX12_sparse_42 : decode cX12_sparse 42 = .ok (.iload_n 2, 1) := by decide +kernel
theorem dX12_sparse_47 : decode cX12_sparse 47 = .ok (.aload_n 0, 1) := by decide +kernel
theorem dX12_sparse_51 : decode cX12_sparse 51 = .ok (.iload_n 2, 1) := by decide +kernel
theorem dX12_sparse_53 : decode cX12_sparse 53 = .ok (.bipush 100, 2) := by decide +kernel
theorem dX12_sparse_55 : decode cX12_sparse 55 = .ok (.imul, 1) := by decide +kernel
theorem dX12_sparse_56 : decode cX12_sparse 56 = .ok (.aload_n 0, 1) := by decide +kernel
theorem dX12_sparse_60 : decode cX12_sparse 60 = .ok (.aload_n 0, 1) := by decide +kernel
theorem dX12_sparse_64 : decode cX12_sparse 64 = .ok (.imul, 1) := by decide +kernel
theorem dX12_sparse_71 : decode cX12_sparse 71 = .ok (.iload_n 1, 1) := by decide +kernel
theorem dX12_sparse_90 : decode cX12_sparse 90 = .ok (.iload_n 2, 1) := by decide +kernel
theorem dX12_sparse_91 : decode cX12_sparse 91 = .ok (.istore_n 1, 1) := by decide +kernel
theorem dX12_sparse_75 : decode cX12_sparse 75 = .ok (.aload_n 0, 1) := by decide +kernel
theorem dX12_sparse_79 : decode cX12_sparse 79 = .ok (.iload_n 2, 1) := by decide +kernel
theorem dX12_sparse_81 : decode cX12_sparse 81 = .ok (.aload_n 0, 1) := by decide +kernel
theorem dX12_sparse_85 : decode cX12_sparse 85 = .ok (.iload_n 1, 1) := by decide +kernel
theorem dX12_sparse_87 : decode cX12_sparse 87 = .ok (.if_icmp .ge 5, 3) := by decide +kernel
theorem dX12_sparse_86 : decode cX12_sparse 86 = .ok (.iaload, 1) := by decide +kernel
theorem dX12_sparse_82 : decode cX12_sparse 82 = .ok (.getfield 98, 3) := by decide +kernel
theorem dX12_sparse_80 : decode cX12_sparse 80 = .ok (.iaload, 1) := by decide +kernel
theorem dX12_sparse_76 : decode cX12_sparse 76 = .ok (.getfield 98, 3) := by decide +kernel
theorem dX12_sparse_72 : decode cX12_sparse 72 = .ok (.ifCond .lt 18, 3) := by decide +kernel
theorem dX12_sparse_68 : decode cX12_sparse 68 = .ok (.goto 24, 3) := by decide +kernel
theorem dX12_sparse_65 : decode cX12_sparse 65 = .ok (.if_icmp .le 6, 3) := by decide +kernel
theorem dX12_sparse_61 : decode cX12_sparse 61 = .ok (.getfield 222, 3) := by decide +kernel
theorem dX12_sparse_57 : decode cX12_sparse 57 = .ok (.getfield 225, 3) := by decide +kernel
theorem dX12_sparse_52 : decode cX12_sparse 52 = .ok (.iaload, 1) := by decide +kernel
theorem dX12_sparse_48 : decode cX12_sparse 48 = .ok (.getfield 98, 3) := by decide +kernel
theorem dX12_sparse_44 : decode cX12_sparse 44 = .ok (.ifCond .eq 48, 3) := by decide +kernel
theorem dX12_sparse_43 : decode cX12_sparse 43 = .ok (.iaload, 1) := by decide +kernel
theorem dX12_sparse_39 : decode cX12_sparse 39 = .ok (.getfield 98, 3) := by decide +kernel
theorem dX12_sparse_35 : decode cX12_sparse 35 = .ok (.if_icmp .eq 57, 3) := by decide +kernel
theorem dX12_sparse_32 : decode cX12_sparse 32 = .ok (.getfield 285, 3) := by decide +kernel
theorem dX12_sparse_27 : decode cX12_sparse 27 = .ok (.ifCond .ne 65, 3) := by decide +kernel
theorem dX12_sparse_26 : decode cX12_sparse 26 = .ok (.baload, 1) := by decide +kernel
theorem dX12_sparse_22 : decode cX12_sparse 22 = .ok (.getfield 101, 3) := by decide +kernel
theorem dX12_sparse_18 : decode cX12_sparse 18 = .ok (.ifCond .ne 74, 3) := by decide +kernel
theorem dX12_sparse_17 : decode cX12_sparse 17 = .ok (.baload, 1) := by decide +kernel
theorem dX12_sparse_13 : decode cX12_sparse 13 = .ok (.getfield 104, 3) := by decide +kernel
theorem dX12_sparse_9 : decode cX12_sparse 9 = .ok (.if_icmp .ge 89, 3) := by decide +kernel
theorem dX12_sparse_6 : decode cX12_sparse 6 = .ok (.getfield 234, 3) := by decide +kernel
theorem dX12_move_0 : decode cX12_move 0 = .ok (.aload_n 0, 1) := by decide +kernel
theorem dX12_move_4 : decode cX12_move 4 = .ok (.iload_n 1, 1) := by decide +kernel
theorem dX12_move_6 : decode cX12_move 6 = .ok (.iload_n 2, 1) := by decide +kernel
theorem dX12_move_11 : decode cX12_move 11 = .ok (.aload_n 0, 1) := by decide +kernel
theorem dX12_move_15 : decode cX12_move 15 = .ok (.aload_n 0, 1) := by decide +kernel
theorem dX12_move_19 : decode cX12_move 19 = .ok (.iload_n 1, 1) := by decide +kernel
theorem dX12_move_22 : decode cX12_move 22 = .ok (.iload_n 1, 1) := by decide +kernel
theorem dX12_move_38 : decode cX12_move 38 = .ok (.aload_n 0, 1) := by decide +kernel
theorem dX12_move_42 : decode cX12_move 42 = .ok (.iload_n 1, 1) := by decide +kernel
theorem dX12_move_43 : decode cX12_move 43 = .ok (.iload_n 2, 1) := by decide +kernel
theorem dX12_move_45 : decode cX12_move 45 = .ok (.aload_n 0, 1) := by decide +kernel
theorem dX12_move_49 : decode cX12_move 49 = .ok (.iload_n 2, 1) := by decide +kernel
theorem dX12_move_50 : decode cX12_move 50 = .ok (.iload_n 1, 1) := by decide +kernel
theorem dX12_move_52 : decode cX12_move 52 = .ok (.aload_n 0, 1) := by decide +kernel
theorem dX12_move_53 : decode cX12_move 53 = .ok (.dup, 1) := by decide +kernel
theorem dX12_move_57 : decode cX12_move 57 = .ok (.aload_n 0, 1) := by decide +kernel
theorem dX12_move_58 : decode cX12_move 58 = .ok (.iload_n 1, 1) := by decide +kernel
theorem dX12_move_59 : decode cX12_move 59 = .ok (.invokevirtual 327, 3) := by decide +kernel
theorem dX12_move_62 : decode cX12_move 62 = .ok (.iadd, 1) := by decide +kernel
theorem dX12_move_66 : decode cX12_move 66 = .ok (.return_, 1) := by decide +kernel
theorem dX12_move_63 : decode cX12_move 63 = .ok (.putfield 252, 3) := by decide +kernel
theorem dX12_move_54 : decode cX12_move 54 = .ok (.getfield 252, 3) := by decide +kernel
theorem dX12_move_51 : decode cX12_move 51 = .ok (.iastore, 1) := by decide +kernel
theorem dX12_move_46 : decode cX12_move 46 = .ok (.getfield 65, 3) := by decide +kernel
theorem dX12_move_44 : decode cX12_move 44 = .ok (.iastore, 1) := by decide +kernel
theorem dX12_move_39 : decode cX12_move 39 = .ok (.getfield 40, 3) := by decide +kernel
theorem dX12_move_26 : decode cX12_move 26 = .ok (.aload_n 0, 1) := by decide +kernel
theorem dX12_move_30 : decode cX12_move 30 = .ok (.aload_n 0, 1) := by decide +kernel
theorem dX12_move_34 : decode cX12_move 34 = .ok (.iload_n 1, 1) := by decide +kernel
theorem dX12_move_36 : decode cX12_move 36 = .ok (.iconst (-1), 1) := by decide +kernel
theorem dX12_move_37 : decode cX12_move 37 = .ok (.iastore, 1) := by decide +kernel
theorem dX12_move_35 : decode cX12_move 35 = .ok (.iaload, 1) := by decide +kernel
theorem dX12_move_31 : decode cX12_move 31 = .ok (.getfield 40, 3) := by decide +kernel
theorem dX12_move_27 : decode cX12_move 27 = .ok (.getfield 65, 3) := by decide +kernel
theorem dX12_move_23 : decode cX12_move 23 = .ok (.if_icmp .ne 15, 3) := by decide +kernel
theorem dX12_move_21 : decode cX12_move 21 = .ok (.iaload, 1) := by decide +kernel
theorem dX12_move_20 : decode cX12_move 20 = .ok (.iaload, 1) := by decide +kernel
theorem dX12_move_16 : decode cX12_move 16 = .ok (.getfield 40, 3) := by decide +kernel
theorem dX12_move_12 : decode cX12_move 12 = .ok (.getfield 65, 3) := by decide +kernel
theorem dX12_move_10 : decode cX12_move 10 = .ok (.return_, 1) := by decide +kernel
theorem dX12_move_7 : decode cX12_move 7 = .ok (.if_icmp .ne 4, 3) := by decide +kernel
theorem dX12_move_5 : decode cX12_move 5 = .ok (.iaload, 1) := by decide +kernel
theorem dX12_move_1 : decode cX12_move 1 = .ok (.getfield 40, 3) := by decide +kernel
theorem dX12_cleanRegions_0 : decode cX12_cleanRegions 0 = .ok (.aload_n 0, 1) := by decide +kernel
theorem dX12_cleanRegions_1 : decode cX12_cleanRegions 1 = .ok (.invokevirtual 346, 3) := by decide +kernel
theorem dX12_cleanRegions_4 : decode cX12_cleanRegions 4 = .ok (.istore_n 1, 1) := by decide +kernel
theorem dX12_cleanRegions_5 : decode cX12_cleanRegions 5 = .ok (.iconst 0, 1) := by decide +kernel
theorem dX12_cleanRegions_6 : decode cX12_cleanRegions 6 = .ok (.istore_n 2, 1) := by decide +kernel
theorem dX12_cleanRegions_7 : decode cX12_cleanRegions 7 = .ok (.iload_n 2, 1) := by decide +kernel
theorem dX12_cleanRegions_8 : decode cX12_cleanRegions 8 = .ok (.aload_n 0, 1) := by decide +kernel
theorem dX12_cleanRegions_42 : decode cX12_cleanRegions 42 = .ok (.iconst 0, 1) := by decide +kernel
theorem dX12_cleanRegions_43 : decode cX12_cleanRegions 43 = .ok (.istore_n 2, 1) := by decide +kernel
theorem dX12_cleanRegions_15 : decode cX12_cleanRegions 15 = .ok (.aload_n 0, 1) := by decide +kernel
theorem dX12_cleanRegions_19 : decode cX12_cleanRegions 19 = .ok (.iload_n 2, 1) := by decide +kernel
theorem dX12_cleanRegions_20 : decode cX12_cleanRegions 20 = .ok (.iconst 0, 1) := by decide +kernel
theorem dX12_cleanRegions_22 : decode cX12_cleanRegions 22 = .ok (.aload_n 0, 1) := by decide +kernel
theorem dX12_cleanRegions_26 : decode cX12_cleanRegions 26 = .ok (.iload_n 2, 1) := by decide +kernel
theorem dX12_cleanRegions_27 : decode cX12_cleanRegions 27 = .ok (.iconst 0, 1) := by decide +kernel
theorem dX12_cleanRegions_29 : decode cX12_cleanRegions 29 = .ok (.aload_n 0, 1) := by decide +kernel
theorem dX12_cleanRegions_33 : decode cX12_cleanRegions 33 = .ok (.iload_n 2, 1) := by decide +kernel
theorem dX12_cleanRegions_34 : decode cX12_cleanRegions 34 = .ok (.iconst 0, 1) := by decide +kernel
theorem dX12_cleanRegions_36 : decode cX12_cleanRegions 36 = .ok (.iinc 2 1, 3) := by decide +kernel
theorem dX12_cleanRegions_39 : decode cX12_cleanRegions 39 = .ok (.goto (-32), 3) := by decide +kernel
theorem dX12_cleanRegions_35 : decode cX12_cleanRegions 35 = .ok (.bastore, 1) := by decide +kernel
theorem dX12_cleanRegions_30 : decode cX12_cleanRegions 30 = .ok (.getfield 104, 3) := by decide +kernel
theorem dX12_cleanRegions_28 : decode cX12_cleanRegions 28 = .ok (.bastore, 1) := by decide +kernel
theorem dX12_cleanRegions_23 : decode cX12_cleanRegions 23 = .ok (.getfield 101, 3) := by decide +kernel
theorem dX12_cleanRegions_21 : decode cX12_cleanRegions 21 = .ok (.iastore, 1) := by decide +kernel
theorem dX12_cleanRegions_16 : decode cX12_cleanRegions 16 = .ok (.getfield 98, 3) := by decide +kernel
theorem dX12_cleanRegions_12 : decode cX12_cleanRegions 12 = .ok (.if_icmp .ge 30, 3) := by decide +kernel
theorem dX12_cleanRegions_9 : decode cX12_cleanRegions 9 = .ok (.getfield 234, 3) := by decide +kernel
theorem dX12_cleanRegions_44 : decode cX12_cleanRegions 44 = .ok (.iload_n 2, 1) := by decide +kernel
theorem dX12_cleanRegions_45 : decode cX12_cleanRegions 45 = .ok (.sipush 3100, 3) := by decide +kernel
theorem dX12_cleanRegions_119 : decode cX12_cleanRegions 119 = .ok (.iconst 0, 1) := by decide +kernel
theorem dX12_cleanRegions_120 : decode cX12_cleanRegions 120 = .ok (.istore_n 2, 1) := by decide +kernel
theorem dX12_cleanRegions_51 : decode cX12_cleanRegions 51 = .ok (.aload_n 0, 1) := by decide +kernel
theorem dX12_cleanRegions_55 : decode cX12_cleanRegions 55 = .ok (.iload_n 2, 1) := by decide +kernel
theorem dX12_cleanRegions_63 : decode cX12_cleanRegions 63 = .ok (.aload_n 0, 1) := by decide +kernel
theorem dX12_cleanRegions_67 : decode cX12_cleanRegions 67 = .ok (.aload_n 0, 1) := by decide +kernel
theorem dX12_cleanRegions_71 : decode cX12_cleanRegions 71 = .ok (.iload_n 2, 1) := by decide +kernel
theorem dX12_cleanRegions_73 : decode cX12_cleanRegions 73 = .ok (.aload_n 0, 1) := by decide +kernel
theorem dX12_cleanRegions_78 : decode cX12_cleanRegions 78 = .ok (.dup2, 1) := by decide +kernel
theorem dX12_cleanRegions_80 : decode cX12_cleanRegions 80 = .ok (.aload_n 0, 1) := by decide +kernel
theorem dX12_cleanRegions_81 : decode cX12_cleanRegions 81 = .ok (.iload_n 2, 1) := by decide +kernel
theorem dX12_cleanRegions_82 : decode cX12_cleanRegions 82 = .ok (.invokevirtual 327, 3) := by decide +kernel
theorem dX12_cleanRegions_85 : decode cX12_cleanRegions 85 = .ok (.iadd, 1) := by decide +kernel
theorem dX12_cleanRegions_87 : decode cX12_cleanRegions 87 = .ok (.aload_n 0, 1) := by decide +kernel
theorem dX12_cleanRegions_91 : decode cX12_cleanRegions 91 = .ok (.iload_n 2, 1) := by decide +kernel
theorem dX12_cleanRegions_113 : decode cX12_cleanRegions 113 = .ok (.iinc 2 1, 3) := by decide +kernel
theorem dX12_cleanRegions_116 : decode cX12_cleanRegions 116 = .ok (.goto (-72), 3) := by decide +kernel
theorem dX12_cleanRegions_96 : decode cX12_cleanRegions 96 = .ok (.aload_n 0, 1) := by decide +kernel
theorem dX12_cleanRegions_100 : decode cX12_cleanRegions 100 = .ok (.aload_n 0, 1) := by decide +kernel
theorem dX12_cleanRegions_104 : decode cX12_cleanRegions 104 = .ok (.iload_n 2, 1) := by decide +kernel
theorem dX12_cleanRegions_106 : decode cX12_cleanRegions 106 = .ok (.aload_n 0, 1) := by decide +kernel
theorem dX12_cleanRegions_111 : decode cX12_cleanRegions 111 = .ok (.iconst 1, 1) := by decide +kernel
theorem dX12_cleanRegions_112 : decode cX12_cleanRegions 112 = .ok (.bastore, 1) := by decide +kernel
theorem dX12_cleanRegions_110 : decode cX12_cleanRegions 110 = .ok (.idiv, 1) := by decide +kernel
theorem dX12_cleanRegions_107 : decode cX12_cleanRegions 107 = .ok (.getfield 222, 3) := by decide +kernel
theorem dX12_cleanRegions_105 : decode cX12_cleanRegions 105 = .ok (.iaload, 1) := by decide +kernel
theorem dX12_cleanRegions_101 : decode cX12_cleanRegions 101 = .ok (.getfield 40, 3) := by decide +kernel
theorem dX12_cleanRegions_97 : decode cX12_cleanRegions 97 = .ok (.getfield 101, 3) := by decide +kernel
theorem dX12_cleanRegions_93 : decode cX12_cleanRegions 93 = .ok (.ifCond .le 20, 3) := by decide +kernel
theorem dX12_cleanRegions_92 : decode cX12_cleanRegions 92 = .ok (.iaload, 1) := by decide +kernel
theorem dX12_cleanRegions_88 : decode cX12_cleanRegions 88 = .ok (.getfield 52, 3) := by decide +kernel
theorem dX12_cleanRegions_86 : decode cX12_cleanRegions 86 = .ok (.iastore, 1) := by decide +kernel
theorem dX12_cleanRegions_79 : decode cX12_cleanRegions 79 = .ok (.iaload, 1) := by decide +kernel
theorem dX12_cleanRegions_77 : decode cX12_cleanRegions 77 = .ok (.idiv, 1) := by decide +kernel
theorem dX12_cleanRegions_74 : decode cX12_cleanRegions 74 = .ok (.getfield 222, 3) := by decide +kernel
theorem dX12_cleanRegions_72 : decode cX12_cleanRegions 72 = .ok (.iaload, 1) := by decide +kernel
theorem dX12_cleanRegions_68 : decode cX12_cleanRegions 68 = .ok (.getfield 40, 3) := by decide +kernel
theorem dX12_cleanRegions_64 : decode cX12_cleanRegions 64 = .ok (.getfield 98, 3) := by decide +kernel
theorem dX12_cleanRegions_60 : decode cX12_cleanRegions 60 = .ok (.goto 53, 3) := by decide +kernel
theorem dX12_cleanRegions_57 : decode cX12_cleanRegions 57 = .ok (.ifCond .ne 6, 3) := by decide +kernel
theorem dX12_cleanRegions_56 : decode cX12_cleanRegions 56 = .ok (.baload, 1) := by decide +kernel
theorem dX12_cleanRegions_52 : decode cX12_cleanRegions 52 = .ok (.getfield 27, 3) := by decide +kernel
theorem dX12_cleanRegions_48 : decode cX12_cleanRegions 48 = .ok (.if_icmp .ge 71, 3) := by decide +kernel
theorem dX12_cleanRegions_121 : decode cX12_cleanRegions 121 = .ok (.iload_n 2, 1) := by decide +kernel
theorem dX12_cleanRegions_122 : decode cX12_cleanRegions 122 = .ok (.aload_n 0, 1) := by decide +kernel
theorem dX12_cleanRegions_151 : decode cX12_cleanRegions 151 = .ok (.iconst (-1), 1) := by decide +kernel
theorem dX12_cleanRegions_152 : decode cX12_cleanRegions 152 = .ok (.istore_n 2, 1) := by decide +kernel
theorem dX12_cleanRegions_153 : decode cX12_cleanRegions 153 = .ok (.iconst 1, 1) := by decide +kernel
theorem dX12_cleanRegions_154 : decode cX12_cleanRegions 154 = .ok (.istore_n 3, 1) := by decide +kernel
theorem dX12_cleanRegions_155 : decode cX12_cleanRegions 155 = .ok (.aload_n 0, 1) := by decide +kernel
theorem dX12_cleanRegions_156 : decode cX12_cleanRegions 156 = .ok (.invokevirtual 414, 3) := by decide +kernel
theorem dX12_cleanRegions_159 : decode cX12_cleanRegions 159 = .ok (.istore 4, 2) := by decide +kernel
theorem dX12_cleanRegions_129 : decode cX12_cleanRegions 129 = .ok (.aload_n 0, 1) := by decide +kernel
theorem dX12_cleanRegions_133 : decode cX12_cleanRegions 133 = .ok (.iload_n 2, 1) := by decide +kernel
theorem dX12_cleanRegions_145 : decode cX12_cleanRegions 145 = .ok (.iinc 2 1, 3) := by decide +kernel
theorem dX12_cleanRegions_148 : decode cX12_cleanRegions 148 = .ok (.goto (-27), 3) := by decide +kernel
theorem dX12_cleanRegions_138 : decode cX12_cleanRegions 138 = .ok (.aload_n 0, 1) := by decide +kernel
theorem dX12_cleanRegions_142 : decode cX12_cleanRegions 142 = .ok (.iload_n 2, 1) := by decide +kernel
theorem dX12_cleanRegions_143 : decode cX12_cleanRegions 143 = .ok (.iconst 0, 1) := by decide +kernel
theorem dX12_cleanRegions_144 : decode cX12_cleanRegions 144 = .ok (.iastore, 1) := by decide +kernel
theorem dX12_cleanRegions_139 : decode cX12_cleanRegions 139 = .ok (.getfield 80, 3) := by decide +kernel
theorem dX12_cleanRegions_135 : decode cX12_cleanRegions 135 = .ok (.ifCond .ne 10, 3) := by decide +kernel
theorem dX12_cleanRegions_134 : decode cX12_cleanRegions 134 = .ok (.iaload, 1) := by decide +kernel
theorem dX12_cleanRegions_130 : decode cX12_cleanRegions 130 = .ok (.getfield 98, 3) := by decide +kernel
theorem dX12_cleanRegions_126 : decode cX12_cleanRegions 126 = .ok (.if_icmp .ge 25, 3) := by decide +kernel
theorem dX12_cleanRegions_123 : decode cX12_cleanRegions 123 = .ok (.getfield 234, 3) := by decide +kernel
theorem dX12_cleanRegions_161 : decode cX12_cleanRegions 161 = .ok (.iload 4, 2) := by decide +kernel
theorem dX12_cleanRegions_350 : decode cX12_cleanRegions 350 = .ok (.iload_n 2, 1) := by decide +kernel
theorem dX12_cleanRegions_362 : decode cX12_cleanRegions 362 = .ok (.aload_n 0, 1) := by decide +kernel
theorem dX12_cleanRegions_366 : decode cX12_cleanRegions 366 = .ok (.aload_n 0, 1) := by decide +kernel
theorem dX12_cleanRegions_382 : decode cX12_cleanRegions 382 = .ok (.iload_n 1, 1) := by decide +kernel
theorem dX12_cleanRegions_383 : decode cX12_cleanRegions 383 = .ok (.ireturn, 1) := by decide +kernel
theorem dX12_cleanRegions_374 : decode cX12_cleanRegions 374 = .ok (.aload_n 0, 1) := by decide +kernel
theorem dX12_cleanRegions_375 : decode cX12_cleanRegions 375 = .ok (.aload_n 0, 1) := by decide +kernel
theorem dX12_cleanRegions_376 : decode cX12_cleanRegions 376 = .ok (.invokevirtual 417, 3) := by decide +kernel
theorem dX12_cleanRegions_379 : decode cX12_cleanRegions 379 = .ok (.putfield 285, 3) := by decide +kernel
theorem dX12_cleanRegions_371 : decode cX12_cleanRegions 371 = .ok (.ifCond .ne 11, 3) := by decide +kernel
theorem dX12_cleanRegions_370 : decode cX12_cleanRegions 370 = .ok (.iaload, 1) := by decide +kernel
theorem dX12_cleanRegions_367 : decode cX12_cleanRegions 367 = .ok (.getfield 285, 3) := by decide +kernel
theorem dX12_cleanRegions_363 : decode cX12_cleanRegions 363 = .ok (.getfield 80, 3) := by decide +kernel
theorem dX12_cleanRegions_354 : decode cX12_cleanRegions 354 = .ok (.aload_n 0, 1) := by decide +kernel
theorem dX12_cleanRegions_355 : decode cX12_cleanRegions 355 = .ok (.iload_n 2, 1) := by decide +kernel
theorem dX12_cleanRegions_359 : decode cX12_cleanRegions 359 = .ok (.goto 23, 3) := by decide +kernel
theorem dX12_cleanRegions_356 : decode cX12_cleanRegions 356 = .ok (.putfield 285, 3) := by decide +kernel
theorem dX12_cleanRegions_351 : decode cX12_cleanRegions 351 = .ok (.ifCond .lt 11, 3) := by decide +kernel
theorem dX12_cleanRegions_166 : decode cX12_cleanRegions 166 = .ok (.iload_n 3, 1) := by decide +kernel
theorem dX12_cleanRegions_170 : decode cX12_cleanRegions 170 = .ok (.aload_n 0, 1) := by decide +kernel
theorem dX12_cleanRegions_174 : decode cX12_cleanRegions 174 = .ok (.iload 4, 2) := by decide +kernel
theorem dX12_cleanRegions_176 : decode cX12_cleanRegions 176 = .ok (.iconst 1, 1) := by decide +kernel
theorem dX12_cleanRegions_178 : decode cX12_cleanRegions 178 = .ok (.iload 4, 2) := by decide +kernel
theorem dX12_cleanRegions_180 : decode cX12_cleanRegions 180 = .ok (.aload_n 0, 1) := by decide +kernel
theorem dX12_cleanRegions_184 : decode cX12_cleanRegions 184 = .ok (.imul, 1) := by decide +kernel
theorem dX12_cleanRegions_185 : decode cX12_cleanRegions 185 = .ok (.istore 5, 2) := by decide +kernel
theorem dX12_cleanRegions_187 : decode cX12_cleanRegions 187 = .ok (.iload 5, 2) := by decide +kernel
theorem dX12_cleanRegions_189 : decode cX12_cleanRegions 189 = .ok (.aload_n 0, 1) := by decide +kernel
theorem dX12_cleanRegions_193 : decode cX12_cleanRegions 193 = .ok (.iload 4, 2) := by decide +kernel
theorem dX12_cleanRegions_196 : decode cX12_cleanRegions 196 = .ok (.iadd, 1) := by decide +kernel
theorem dX12_cleanRegions_197 : decode cX12_cleanRegions 197 = .ok (.istore 6, 2) := by decide +kernel
theorem dX12_cleanRegions_195 : decode cX12_cleanRegions 195 = .ok (.iaload, 1) := by decide +kernel
theorem dX12_cleanRegions_190 : decode cX12_cleanRegions 190 = .ok (.getfield 80, 3) := by decide +kernel
theorem dX12_cleanRegions_181 : decode cX12_cleanRegions 181 = .ok (.getfield 222, 3) := by decide +kernel
theorem dX12_cleanRegions_177 : decode cX12_cleanRegions 177 = .ok (.bastore, 1) := by decide +kernel
theorem dX12_cleanRegions_171 : decode cX12_cleanRegions 171 = .ok (.getfield 104, 3) := by decide +kernel
theorem dX12_cleanRegions_167 : decode cX12_cleanRegions 167 = .ok (.ifCond .eq 183, 3) := by decide +kernel
theorem dX12_cleanRegions_163 : decode cX12_cleanRegions 163 = .ok (.ifCond .lt 187, 3) := by decide +kernel
theorem dX12_cleanRegions_199 : decode cX12_cleanRegions 199 = .ok (.iload 5, 2) := by decide +kernel
theorem dX12_cleanRegions_201 : decode cX12_cleanRegions 201 = .ok (.iload 6, 2) := by decide +kernel
theorem dX12_cleanRegions_329 : decode cX12_cleanRegions 329 = .ok (.iload_n 3, 1) := by decide +kernel
theorem dX12_cleanRegions_341 : decode cX12_cleanRegions 341 = .ok (.aload_n 0, 1) := by decide +kernel
theorem dX12_cleanRegions_342 : decode cX12_cleanRegions 342 = .ok (.invokevirtual 414, 3) := by decide +kernel
theorem dX12_cleanRegions_345 : decode cX12_cleanRegions 345 = .ok (.istore 4, 2) := by decide +kernel
theorem dX12_cleanRegions_347 : decode cX12_cleanRegions 347 = .ok (.goto (-186), 3) := by decide +kernel
theorem dX12_cleanRegions_333 : decode cX12_cleanRegions 333 = .ok (.aload_n 0, 1) := by decide +kernel
theorem dX12_cleanRegions_337 : decode cX12_cleanRegions 337 = .ok (.iload 4, 2) := by decide +kernel
theorem dX12_cleanRegions_339 : decode cX12_cleanRegions 339 = .ok (.iconst 0, 1) := by decide +kernel
theorem dX12_cleanRegions_340 : decode cX12_cleanRegions 340 = .ok (.iastore, 1) := by decide +kernel
theorem dX12_cleanRegions_334 : decode cX12_cleanRegions 334 = .ok (.getfield 80, 3) := by decide +kernel
theorem dX12_cleanRegions_330 : decode cX12_cleanRegions 330 = .ok (.ifCond .eq 11, 3) := by decide +kernel
theorem dX12_cleanRegions_206 : decode cX12_cleanRegions 206 = .ok (.iload_n 3, 1) := by decide +kernel
theorem dX12_cleanRegions_210 : decode cX12_cleanRegions 210 = .ok (.aload_n 0, 1) := by decide +kernel
theorem dX12_cleanRegions_214 : decode cX12_cleanRegions 214 = .ok (.iload 5, 2) := by decide +kernel
theorem dX12_cleanRegions_217 : decode cX12_cleanRegions 217 = .ok (.istore 7, 2) := by decide +kernel
theorem dX12_cleanRegions_219 : decode cX12_cleanRegions 219 = .ok (.iload 7, 2) := by decide +kernel
theorem dX12_cleanRegions_230 : decode cX12_cleanRegions 230 = .ok (.iload 5, 2) := by decide +kernel
theorem dX12_cleanRegions_232 : decode cX12_cleanRegions 232 = .ok (.aload_n 0, 1) := by decide +kernel
theorem dX12_cleanRegions_233 : decode cX12_cleanRegions 233 = .ok (.iload 7, 2) := by decide +kernel
theorem dX12_cleanRegions_235 : decode cX12_cleanRegions 235 = .ok (.invokevirtual 327, 3) := by decide +kernel
theorem dX12_cleanRegions_238 : decode cX12_cleanRegions 238 = .ok (.iadd, 1) := by decide +kernel
theorem dX12_cleanRegions_239 : decode cX12_cleanRegions 239 = .ok (.istore 8, 2) := by decide +kernel
theorem dX12_cleanRegions_241 : decode cX12_cleanRegions 241 = .ok (.iload_n 2, 1) := by decide +kernel
theorem dX12_cleanRegions_265 : decode cX12_cleanRegions 265 = .ok (.aload_n 0, 1) := by decide +kernel
theorem dX12_cleanRegions_266 : decode cX12_cleanRegions 266 = .ok (.invokevirtual 417, 3) := by decide +kernel
theorem dX12_cleanRegions_269 : decode cX12_cleanRegions 269 = .ok (.istore 9, 2) := by decide +kernel
theorem dX12_cleanRegions_271 : decode cX12_cleanRegions 271 = .ok (.iload 9, 2) := by decide +kernel
theorem dX12_cleanRegions_281 : decode cX12_cleanRegions 281 = .ok (.iload 9, 2) := by decide +kernel
theorem dX12_cleanRegions_283 : decode cX12_cleanRegions 283 = .ok (.istore_n 2, 1) := by decide +kernel
theorem dX12_cleanRegions_284 : decode cX12_cleanRegions 284 = .ok (.iload_n 3, 1) := by decide +kernel
theorem dX12_cleanRegions_322 : decode cX12_cleanRegions 322 = .ok (.iload 8, 2) := by decide +kernel
theorem dX12_cleanRegions_324 : decode cX12_cleanRegions 324 = .ok (.istore 5, 2) := by decide +kernel
theorem dX12_cleanRegions_326 : decode cX12_cleanRegions 326 = .ok (.goto (-127), 3) := by decide +kernel
theorem dX12_cleanRegions_288 : decode cX12_cleanRegions 288 = .ok (.aload_n 0, 1) := by decide +kernel
theorem dX12_cleanRegions_289 : decode cX12_cleanRegions 289 = .ok (.iload 7, 2) := by decide +kernel
theorem dX12_cleanRegions_291 : decode cX12_cleanRegions 291 = .ok (.iload_n 2, 1) := by decide +kernel
theorem dX12_cleanRegions_292 : decode cX12_cleanRegions 292 = .ok (.aload_n 0, 1) := by decide +kernel
theorem dX12_cleanRegions_296 : decode cX12_cleanRegions 296 = .ok (.imul, 1) := by decide +kernel
theorem dX12_cleanRegions_297 : decode cX12_cleanRegions 297 = .ok (.aload_n 0, 1) := by decide +kernel
theorem dX12_cleanRegions_301 : decode cX12_cleanRegions 301 = .ok (.iload_n 2, 1) := by decide +kernel
theorem dX12_cleanRegions_303 : decode cX12_cleanRegions 303 = .ok (.iadd, 1) := by decide +kernel
theorem dX12_cleanRegions_304 : decode cX12_cleanRegions 304 = .ok (.invokevirtual 352, 3) := by decide +kernel
theorem dX12_cleanRegions_307 : decode cX12_cleanRegions 307 = .ok (.aload_n 0, 1) := by decide +kernel
theorem dX12_cleanRegions_311 : decode cX12_cleanRegions 311 = .ok (.iload_n 2, 1) := by decide +kernel
theorem dX12_cleanRegions_312 : decode cX12_cleanRegions 312 = .ok (.dup2, 1) := by decide +kernel
theorem dX12_cleanRegions_314 : decode cX12_cleanRegions 314 = .ok (.aload_n 0, 1) := by decide +kernel
theorem dX12_cleanRegions_315 : decode cX12_cleanRegions 315 = .ok (.iload 7, 2) := by decide +kernel
theorem dX12_cleanRegions_317 : decode cX12_cleanRegions 317 = .ok (.invokevirtual 327, 3) := by decide +kernel
theorem dX12_cleanRegions_320 : decode cX12_cleanRegions 320 = .ok (.iadd, 1) := by decide +kernel
theorem dX12_cleanRegions_321 : decode cX12_cleanRegions 321 = .ok (.iastore, 1) := by decide +kernel
theorem dX12_cleanRegions_313 : decode cX12_cleanRegions 313 = .ok (.iaload, 1) := by decide +kernel
theorem dX12_cleanRegions_308 : decode cX12_cleanRegions 308 = .ok (.getfield 80, 3) := by decide +kernel
theorem dX12_cleanRegions_302 : decode cX12_cleanRegions 302 = .ok (.iaload, 1) := by decide +kernel
theorem dX12_cleanRegions_298 : decode cX12_cleanRegions 298 = .ok (.getfield 80, 3) := by decide +kernel
theorem dX12_cleanRegions_293 : decode cX12_cleanRegions 293 = .ok (.getfield 222, 3) := by decide +kernel
theorem dX12_cleanRegions_285 : decode cX12_cleanRegions 285 = .ok (.ifCond .eq 37, 3) := by decide +kernel
theorem dX12_cleanRegions_276 : decode cX12_cleanRegions 276 = .ok (.iconst 0, 1) := by decide +kernel
theorem dX12_cleanRegions_277 : decode cX12_cleanRegions 277 = .ok (.istore_n 3, 1) := by decide +kernel
theorem dX12_cleanRegions_278 : decode cX12_cleanRegions 278 = .ok (.goto 6, 3) := by decide +kernel
theorem dX12_cleanRegions_273 : decode cX12_cleanRegions 273 = .ok (.ifCond .ge 8, 3) := by decide +kernel
theorem dX12_cleanRegions_245 : decode cX12_cleanRegions 245 = .ok (.aload_n 0, 1) := by decide +kernel
theorem dX12_cleanRegions_249 : decode cX12_cleanRegions 249 = .ok (.iload_n 2, 1) := by decide +kernel
theorem dX12_cleanRegions_251 : decode cX12_cleanRegions 251 = .ok (.aload_n 0, 1) := by decide +kernel
theorem dX12_cleanRegions_252 : decode cX12_cleanRegions 252 = .ok (.iload 7, 2) := by decide +kernel
theorem dX12_cleanRegions_254 : decode cX12_cleanRegions 254 = .ok (.invokevirtual 327, 3) := by decide +kernel
theorem dX12_cleanRegions_257 : decode cX12_cleanRegions 257 = .ok (.iadd, 1) := by decide +kernel
theorem dX12_cleanRegions_258 : decode cX12_cleanRegions 258 = .ok (.aload_n 0, 1) := by decide +kernel
theorem dX12_cleanRegions_262 : decode cX12_cleanRegions 262 = .ok (.if_icmp .le 22, 3) := by decide +kernel
theorem dX12_cleanRegions_259 : decode cX12_cleanRegions 259 = .ok (.getfield 222, 3) := by decide +kernel
theorem dX12_cleanRegions_250 : decode cX12_cleanRegions 250 = .ok (.iaload, 1) := by decide +kernel
theorem dX12_cleanRegions_246 : decode cX12_cleanRegions 246 = .ok (.getfield 80, 3) := by decide +kernel
theorem dX12_cleanRegions_242 : decode cX12_cleanRegions 242 = .ok (.ifCond .lt 23, 3) := by decide +kernel
theorem dX12_cleanRegions_224 : decode cX12_cleanRegions 224 = .ok (.iinc 5 1, 3) := by decide +kernel
theorem dX12_cleanRegions_227 : decode cX12_cleanRegions 227 = .ok (.goto (-28), 3) := by decide +kernel
theorem dX12_cleanRegions_221 : decode cX12_cleanRegions 221 = .ok (.ifCond .ge 9, 3) := by decide +kernel
theorem dX12_cleanRegions_216 : decode cX12_cleanRegions 216 = .ok (.iaload, 1) := by decide +kernel
theorem dX12_cleanRegions_211 : decode cX12_cleanRegions 211 = .ok (.getfield 65, 3) := by decide +kernel
theorem dX12_cleanRegions_207 : decode cX12_cleanRegions 207 = .ok (.ifCond .eq 122, 3) := by decide +kernel
theorem dX12_cleanRegions_203 : decode cX12_cleanRegions 203 = .ok (.if_icmp .ge 126, 3) := by decide +kernel
