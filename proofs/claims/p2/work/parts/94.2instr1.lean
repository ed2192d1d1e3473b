/-! instructions, decoded, of the reference -/
theorem dX12_removeRest_26 : decode cX12_removeRest 26 = .ok (.ifCond .eq 6, 3) := by decide +kernel
theorem dX12_removeRest_25 : decode cX12_removeRest 25 = .ok (.baload, 1) := by decide +kernel
theorem dX12_removeRest_21 : decode cX12_removeRest 21 = .ok (.getfield 62, 3) := by decide +kernel
theorem dX12_removeRest_17 : decode cX12_removeRest 17 = .ok (.ifCond .eq 64, 3) := by decide +kernel
theorem dX12_removeRest_16 : decode cX12_removeRest 16 = .ok (.baload, 1) := by decide +kernel
theorem dX12_removeRest_12 : decode cX12_removeRest 12 = .ok (.getfield 27, 3) := by decide +kernel
theorem dX12_removeRest_8 : decode cX12_removeRest 8 = .ok (.if_icmp .ge 79, 3) := by decide +kernel
theorem dX12_removeRest_50 : decode cX12_removeRest 50 = .ok (.iload_n 3, 1) := by decide +kernel
theorem dX12_removeRest_51 : decode cX12_removeRest 51 = .ok (.aload_n 0, 1) := by decide +kernel
theorem dX12_removeRest_55 : decode cX12_removeRest 55 = .ok (.iload_n 2, 1) := by decide +kernel
theorem dX12_removeRest_60 : decode cX12_removeRest 60 = .ok (.aload_n 0, 1) := by decide +kernel
theorem dX12_removeRest_61 : decode cX12_removeRest 61 = .ok (.aload_n 0, 1) := by decide +kernel
theorem dX12_removeRest_62 : decode cX12_removeRest 62 = .ok (.iload_n 2, 1) := by decide +kernel
theorem dX12_removeRest_63 : decode cX12_removeRest 63 = .ok (.iload_n 3, 1) := by decide +kernel
theorem dX12_removeRest_64 : decode cX12_removeRest 64 = .ok (.invokevirtual 294, 3) := by decide +kernel
theorem dX12_removeRest_67 : decode cX12_removeRest 67 = .ok (.invokevirtual 330, 3) := by decide +kernel
theorem dX12_uncountKept_0 : decode cX12_uncountKept 0 = .ok (.iload_n 1, 1) := by decide +kernel
theorem dX12_removeRest_70 : decode cX12_removeRest 70 = .ok (.iinc 3 1, 3) := by decide +kernel
theorem dX12_removeRest_73 : decode cX12_removeRest 73 = .ok (.goto (-23), 3) := by decide +kernel
theorem dX12_uncountKept_23 : decode cX12_uncountKept 23 = .ok (.return_, 1) := by decide +kernel
theorem dX12_uncountKept_4 : decode cX12_uncountKept 4 = .ok (.aload_n 0, 1) := by decide +kernel
theorem dX12_uncountKept_8 : decode cX12_uncountKept 8 = .ok (.iload_n 1, 1) := by decide +kernel
theorem dX12_uncountKept_13 : decode cX12_uncountKept 13 = .ok (.aload_n 0, 1) := by decide +kernel
theorem dX12_uncountKept_17 : decode cX12_uncountKept 17 = .ok (.iload_n 1, 1) := by decide +kernel
theorem dX12_uncountKept_18 : decode cX12_uncountKept 18 = .ok (.dup2, 1) := by decide +kernel
theorem dX12_uncountKept_20 : decode cX12_uncountKept 20 = .ok (.iconst 1, 1) := by decide +kernel
theorem dX12_uncountKept_21 : decode cX12_uncountKept 21 = .ok (.isub, 1) := by decide +kernel
theorem dX12_uncountKept_22 : decode cX12_uncountKept 22 = .ok (.iastore, 1) := by decide +kernel
theorem dX12_uncountKept_19 : decode cX12_uncountKept 19 = .ok (.iaload, 1) := by decide +kernel
theorem dX12_uncountKept_14 : decode cX12_uncountKept 14 = .ok (.getfield 46, 3) := by decide +kernel
theorem dX12_uncountKept_10 : decode cX12_uncountKept 10 = .ok (.ifCond .eq 13, 3) := by decide +kernel
theorem dX12_uncountKept_9 : decode cX12_uncountKept 9 = .ok (.baload, 1) := by decide +kernel
theorem dX12_uncountKept_5 : decode cX12_uncountKept 5 = .ok (.getfield 62, 3) := by decide +kernel
theorem dX12_uncountKept_1 : decode cX12_uncountKept 1 = .ok (.ifCond .lt 22, 3) := by decide +kernel
theorem dX12_removeRest_57 : decode cX12_removeRest 57 = .ok (.if_icmp .ge 19, 3) := by decide +kernel
theorem dX12_removeRest_56 : decode cX12_removeRest 56 = .ok (.iaload, 1) := by decide +kernel
theorem dX12_removeRest_52 : decode cX12_removeRest 52 = .ok (.getfield 37, 3) := by decide +kernel
theorem dX12_sweep_0 : decode cX12_sweep 0 = .ok (.aload_n 0, 1) := by decide +kernel
theorem dX12_sweep_1 : decode cX12_sweep 1 = .ok (.dup, 1) := by decide +kernel
theorem dX12_sweep_5 : decode cX12_sweep 5 = .ok (.iconst 1, 1) := by decide +kernel
theorem dX12_sweep_6 : decode cX12_sweep 6 = .ok (.iadd, 1) := by decide +kernel
theorem dX12_sweep_10 : decode cX12_sweep 10 = .ok (.aload_n 0, 1) := by decide +kernel
theorem dX12_sweep_11 : decode cX12_sweep 11 = .ok (.invokevirtual 311, 3) := by decide +kernel
theorem dX12_sweep_14 : decode cX12_sweep 14 = .ok (.aload_n 0, 1) := by decide +kernel
theorem dX12_sweep_15 : decode cX12_sweep 15 = .ok (.invokevirtual 336, 3) := by decide +kernel
theorem dX12_sweep_18 : decode cX12_sweep 18 = .ok (.aload_n 0, 1) := by decide +kernel
theorem dX12_sweep_19 : decode cX12_sweep 19 = .ok (.invokevirtual 339, 3) := by decide +kernel
theorem dX12_sweep_22 : decode cX12_sweep 22 = .ok (.aload_n 0, 1) := by decide +kernel
theorem dX12_sweep_23 : decode cX12_sweep 23 = .ok (.invokevirtual 342, 3) := by decide +kernel
theorem dX12_sweep_26 : decode cX12_sweep 26 = .ok (.ireturn, 1) := by decide +kernel
theorem dX12_sweep_7 : decode cX12_sweep 7 = .ok (.putfield 249, 3) := by decide +kernel
theorem dX12_sweep_2 : decode cX12_sweep 2 = .ok (.getfield 249, 3) := by decide +kernel
