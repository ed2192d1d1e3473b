/-! tables; the methods that catch -/
theorem fm_1 : ma_fi 1 = some (method_3_code, 8, some .int, [(0, 16, 19, 13)]) := rfl
theorem fm_2 : ma_fi 2 = some (method_4_code, 4, some .int, [(0, 9, 12, 19)]) := rfl
theorem fm_3 : ma_fi 3 = some (method_5_code, 5, some .int, [(0, 10, 13, 19), (0, 10, 17, 25)]) := rfl
theorem fm_4 : ma_fi 4 = some (method_6_code, 5, some .int, [(0, 10, 13, 19), (0, 10, 17, 25)]) := rfl
theorem fm_5 : ma_fi 5 = some (method_7_code, 6, some .int, [(0, 12, 15, 19), (0, 12, 19, 25)]) := rfl
theorem fm_6 : ma_fi 6 = some (method_8_code, 6, some .int, [(0, 12, 15, 25), (0, 12, 19, 38), (0, 12, 23, 13), (0, 12, 27, 40)]) := rfl
theorem fm_7 : ma_fi 7 = some (method_9_code, 6, some .int, [(0, 12, 15, 25), (0, 12, 19, 38), (0, 12, 23, 13), (0, 12, 27, 40)]) := rfl
theorem fm_8 : ma_fi 8 = some (method_10_code, 5, some .int, [(0, 10, 13, 25), (0, 10, 17, 38), (0, 10, 21, 13)]) := rfl
theorem fm_9 : ma_fi 9 = some (method_11_code, 5, some .int, [(0, 10, 13, 19), (0, 10, 17, 25), (0, 10, 21, 38)]) := rfl
theorem fm_10 : ma_fi 10 = some (method_12_code, 5, some .int, [(0, 10, 13, 19), (0, 10, 17, 25), (0, 10, 21, 38)]) := rfl
theorem fm_11 : ma_fi 11 = some (method_13_code, 5, some .int, [(0, 10, 13, 19), (0, 10, 17, 25)]) := rfl
theorem fm_12 : ma_fi 12 = some (method_14_code, 5, some .int, [(0, 10, 13, 25), (0, 10, 17, 38), (0, 10, 21, 61)]) := rfl
theorem fm_13 : ma_fi 13 = some (method_15_code, 4, some .int, [(0, 9, 12, 25), (0, 9, 15, 38)]) := rfl
theorem fm_14 : ma_fi 14 = some (method_16_code, 4, some .int, [(0, 9, 12, 19), (0, 9, 15, 25)]) := rfl
theorem fm_15 : ma_fi 15 = some (method_17_code, 3, some .int, [(0, 8, 11, 25)]) := rfl
theorem fm_16 : ma_fi 16 = some (method_18_code, 4, some .int, [(0, 9, 12, 19), (0, 9, 15, 25), (0, 9, 18, 61)]) := rfl
theorem fm_17 : ma_fi 17 = some (method_19_code, 5, some .int, [(0, 10, 13, 19), (0, 10, 17, 25), (0, 10, 21, 38)]) := rfl
theorem fm_18 : ma_fi 18 = some (method_20_code, 5, some .int, [(0, 10, 13, 19), (0, 10, 17, 25), (0, 10, 21, 61), (0, 10, 25, 13)]) := rfl
theorem fm_19 : ma_fi 19 = some (method_21_code, 4, some .int, [(0, 9, 12, 19), (0, 9, 15, 25)]) := rfl
theorem s_125 : zs 125 = some (23, 1) := rfl
theorem v_14_7_11 : ma_vl 14 7 11 = some (0, 137, 5) := by decide +kernel
theorem v_14_15_11 : ma_vl 14 15 11 = some (0, 139, 1) := by decide +kernel
theorem v_14_21_11 : ma_vl 14 21 11 = some (0, 140, 2) := by decide +kernel
theorem v_14_27_11 : ma_vl 14 27 11 = some (0, 141, 2) := by decide +kernel
theorem v_14_30_11 : ma_vl 14 30 11 = some (0, 147, 3) := by decide +kernel
theorem v_14_34_11 : ma_vl 14 34 11 = some (0, 148, 3) := by decide +kernel
theorem v_14_42_11 : ma_vl 14 42 11 = some (0, 150, 3) := by decide +kernel
theorem v_14_45_11 : ma_vl 14 45 11 = some (0, 152, 2) := by decide +kernel
theorem v_14_48_11 : ma_vl 14 48 11 = some (0, 153, 2) := by decide +kernel
theorem v_14_51_11 : ma_vl 14 51 11 = some (0, 154, 2) := by decide +kernel
theorem v_14_54_11 : ma_vl 14 54 11 = some (0, 155, 2) := by decide +kernel
theorem v_14_57_11 : ma_vl 14 57 11 = some (0, 156, 2) := by decide +kernel
theorem v_14_63_11 : ma_vl 14 63 11 = some (0, 157, 1) := by decide +kernel
theorem v_14_66_11 : ma_vl 14 66 11 = some (0, 158, 1) := by decide +kernel
theorem v_14_69_11 : ma_vl 14 69 11 = some (0, 159, 0) := by decide +kernel
theorem v_14_73_11 : ma_vl 14 73 11 = some (0, 160, 1) := by decide +kernel
theorem v_14_76_11 : ma_vl 14 76 11 = some (0, 161, 2) := by decide +kernel
theorem v_14_79_11 : ma_vl 14 79 11 = some (0, 162, 2) := by decide +kernel
theorem v_14_82_11 : ma_vl 14 82 11 = some (0, 163, 1) := by decide +kernel
theorem dF1_0 : decode method_3_code 0 = .ok (.aload 6, 2) := by decide +kernel
theorem dF1_2 : decode method_3_code 2 = .ok (.iconst 0, 1) := by decide +kernel
theorem dF1_3 : decode method_3_code 3 = .ok (.aload_n 0, 1) := by decide +kernel
theorem dF1_4 : decode method_3_code 4 = .ok (.iload_n 1, 1) := by decide +kernel
theorem dF1_5 : decode method_3_code 5 = .ok (.iload_n 2, 1) := by decide +kernel
theorem dF1_6 : decode method_3_code 6 = .ok (.iload_n 3, 1) := by decide +kernel
theorem dF1_7 : decode method_3_code 7 = .ok (.iload 4, 2) := by decide +kernel
theorem dF1_9 : decode method_3_code 9 = .ok (.iload 5, 2) := by decide +kernel
theorem dF1_11 : decode method_3_code 11 = .ok (.invokevirtual 7, 3) := by decide +kernel
theorem dF1_14 : decode method_3_code 14 = .ok (.i2l, 1) := by decide +kernel
theorem dF1_15 : decode method_3_code 15 = .ok (.lastore, 1) := by decide +kernel
theorem dF1_16 : decode method_3_code 16 = .ok (.goto 7, 3) := by decide +kernel
theorem dF1_23 : decode method_3_code 23 = .ok (.iconst 0, 1) := by decide +kernel
theorem dF1_24 : decode method_3_code 24 = .ok (.ireturn, 1) := by decide +kernel
theorem dF2_0 : decode method_4_code 0 = .ok (.aload_n 2, 1) := by decide +kernel
theorem dF2_1 : decode method_4_code 1 = .ok (.iconst 0, 1) := by decide +kernel
theorem dF2_2 : decode method_4_code 2 = .ok (.aload_n 0, 1) := by decide +kernel
theorem dF2_3 : decode method_4_code 3 = .ok (.iload_n 1, 1) := by decide +kernel
theorem dF2_4 : decode method_4_code 4 = .ok (.invokevirtual 15, 3) := by decide +kernel
theorem dF2_7 : decode method_4_code 7 = .ok (.i2l, 1) := by decide +kernel
theorem dF2_8 : decode method_4_code 8 = .ok (.lastore, 1) := by decide +kernel
theorem dF2_9 : decode method_4_code 9 = .ok (.goto 6, 3) := by decide +kernel
theorem dF2_15 : decode method_4_code 15 = .ok (.iconst 0, 1) := by decide +kernel
theorem dF2_16 : decode method_4_code 16 = .ok (.ireturn, 1) := by decide +kernel
theorem dF3_0 : decode method_5_code 0 = .ok (.aload_n 3, 1) := by decide +kernel
theorem dF3_1 : decode method_5_code 1 = .ok (.iconst 0, 1) := by decide +kernel
theorem dF3_2 : decode method_5_code 2 = .ok (.aload_n 0, 1) := by decide +kernel
theorem dF3_3 : decode method_5_code 3 = .ok (.iload_n 1, 1) := by decide +kernel
theorem dF3_4 : decode method_5_code 4 = .ok (.iload_n 2, 1) := by decide +kernel
theorem dF3_5 : decode method_5_code 5 = .ok (.invokevirtual 21, 3) := by decide +kernel
theorem dF3_8 : decode method_5_code 8 = .ok (.i2l, 1) := by decide +kernel
theorem dF3_9 : decode method_5_code 9 = .ok (.lastore, 1) := by decide +kernel
theorem dF3_10 : decode method_5_code 10 = .ok (.goto 11, 3) := by decide +kernel
theorem dF3_21 : decode method_5_code 21 = .ok (.iconst 0, 1) := by decide +kernel
theorem dF3_22 : decode method_5_code 22 = .ok (.ireturn, 1) := by decide +kernel
theorem dF4_0 : decode method_6_code 0 = .ok (.aload_n 3, 1) := by decide +kernel
theorem dF4_1 : decode method_6_code 1 = .ok (.iconst 0, 1) := by decide +kernel
theorem dF4_2 : decode method_6_code 2 = .ok (.aload_n 0, 1) := by decide +kernel
theorem dF4_3 : decode method_6_code 3 = .ok (.iload_n 1, 1) := by decide +kernel
theorem dF4_4 : decode method_6_code 4 = .ok (.iload_n 2, 1) := by decide +kernel
theorem dF4_5 : decode method_6_code 5 = .ok (.invokevirtual 27, 3) := by decide +kernel
theorem dF4_8 : decode method_6_code 8 = .ok (.i2l, 1) := by decide +kernel
theorem dF4_9 : decode method_6_code 9 = .ok (.lastore, 1) := by decide +kernel
theorem dF4_10 : decode method_6_code 10 = .ok (.goto 11, 3) := by decide +kernel
theorem dF4_21 : decode method_6_code 21 = .ok (.iconst 0, 1) := by decide +kernel
theorem dF4_22 : decode method_6_code 22 = .ok (.ireturn, 1) := by decide +kernel
theorem dF5_0 : decode method_7_code 0 = .ok (.aload 4, 2) := by decide +kernel
theorem dF5_2 : decode method_7_code 2 = .ok (.iconst 0, 1) := by decide +kernel
theorem dF5_3 : decode method_7_code 3 = .ok (.aload_n 0, 1) := by decide +kernel
theorem dF5_4 : decode method_7_code 4 = .ok (.iload_n 1, 1) := by decide +kernel
theorem dF5_5 : decode method_7_code 5 = .ok (.iload_n 2, 1) := by decide +kernel
theorem dF5_6 : decode method_7_code 6 = .ok (.iload_n 3, 1) := by decide +kernel
theorem dF5_7 : decode method_7_code 7 = .ok (.invokevirtual 30, 3) := by decide +kernel
theorem dF5_10 : decode method_7_code 10 = .ok (.i2l, 1) := by decide +kernel
theorem dF5_11 : decode method_7_code 11 = .ok (.lastore, 1) := by decide +kernel
theorem dF5_12 : decode method_7_code 12 = .ok (.goto 11, 3) := by decide +kernel
theorem dF5_23 : decode method_7_code 23 = .ok (.iconst 0, 1) := by decide +kernel
theorem dF5_24 : decode method_7_code 24 = .ok (.ireturn, 1) := by decide +kernel
theorem dF6_0 : decode method_8_code 0 = .ok (.aload 4, 2) := by decide +kernel
theorem dF6_2 : decode method_8_code 2 = .ok (.iconst 0, 1) := by decide +kernel
theorem dF6_3 : decode method_8_code 3 = .ok (.aload_n 0, 1) := by decide +kernel
theorem dF6_4 : decode method_8_code 4 = .ok (.iload_n 1, 1) := by decide +kernel
theorem dF6_5 : decode method_8_code 5 = .ok (.iload_n 2, 1) := by decide +kernel
theorem dF6_6 : decode method_8_code 6 = .ok (.iload_n 3, 1) := by decide +kernel
theorem dF6_7 : decode method_8_code 7 = .ok (.invokevirtual 34, 3) := by decide +kernel
theorem dF6_10 : decode method_8_code 10 = .ok (.i2l, 1) := by decide +kernel
theorem dF6_11 : decode method_8_code 11 = .ok (.lastore, 1) := by decide +kernel
theorem dF6_12 : decode method_8_code 12 = .ok (.goto 19, 3) := by decide +kernel
theorem dF6_31 : decode method_8_code 31 = .ok (.iconst 0, 1) := by decide +kernel
theorem dF6_32 : decode method_8_code 32 = .ok (.ireturn, 1) := by decide +kernel
theorem dF7_0 : decode method_9_code 0 = .ok (.aload 4, 2) := by decide +kernel
theorem dF7_2 : decode method_9_code 2 = .ok (.iconst 0, 1) := by decide +kernel
theorem dF7_3 : decode method_9_code 3 = .ok (.aload_n 0, 1) := by decide +kernel
theorem dF7_4 : decode method_9_code 4 = .ok (.iload_n 1, 1) := by decide +kernel
theorem dF7_5 : decode method_9_code 5 = .ok (.iload_n 2, 1) := by decide +kernel
theorem dF7_6 : decode method_9_code 6 = .ok (.iload_n 3, 1) := by decide +kernel
theorem dF7_7 : decode method_9_code 7 = .ok (.invokevirtual 42, 3) := by decide +kernel
theorem dF7_10 : decode method_9_code 10 = .ok (.i2l, 1) := by decide +kernel
theorem dF7_11 : decode method_9_code 11 = .ok (.lastore, 1) := by decide +kernel
theorem dF7_12 : decode method_9_code 12 = .ok (.goto 19, 3) := by decide +kernel
theorem dF7_31 : decode method_9_code 31 = .ok (.iconst 0, 1) := by decide +kernel
theorem dF7_32 : decode method_9_code 32 = .ok (.ireturn, 1) := by decide +kernel
theorem dF8_0 : decode method_10_code 0 = .ok (.aload_n 3, 1) := by decide +kernel
theorem dF8_1 : decode method_10_code 1 = .ok (.iconst 0, 1) := by decide +kernel
theorem dF8_2 : decode method_10_code 2 = .ok (.aload_n 0, 1) := by decide +kernel
theorem dF8_3 : decode method_10_code 3 = .ok (.iload_n 1, 1) := by decide +kernel
theorem dF8_4 : decode method_10_code 4 = .ok (.iload_n 2, 1) := by decide +kernel
theorem dF8_5 : decode method_10_code 5 = .ok (.invokevirtual 45, 3) := by decide +kernel
theorem dF8_8 : decode method_10_code 8 = .ok (.i2l, 1) := by decide +kernel
theorem dF8_9 : decode method_10_code 9 = .ok (.lastore, 1) := by decide +kernel
theorem dF8_10 : decode method_10_code 10 = .ok (.goto 15, 3) := by decide +kernel
theorem dF8_25 : decode method_10_code 25 = .ok (.iconst 0, 1) := by decide +kernel
theorem dF8_26 : decode method_10_code 26 = .ok (.ireturn, 1) := by decide +kernel
theorem dF9_0 : decode method_11_code 0 = .ok (.aload_n 3, 1) := by decide +kernel
theorem dF9_1 : decode method_11_code 1 = .ok (.iconst 0, 1) := by decide +kernel
theorem dF9_2 : decode method_11_code 2 = .ok (.aload_n 0, 1) := by decide +kernel
theorem dF9_3 : decode method_11_code 3 = .ok (.iload_n 1, 1) := by decide +kernel
theorem dF9_4 : decode method_11_code 4 = .ok (.iload_n 2, 1) := by decide +kernel
theorem dF9_5 : decode method_11_code 5 = .ok (.invokevirtual 48, 3) := by decide +kernel
theorem dF9_8 : decode method_11_code 8 = .ok (.i2l, 1) := by decide +kernel
theorem dF9_9 : decode method_11_code 9 = .ok (.lastore, 1) := by decide +kernel
theorem dF9_10 : decode method_11_code 10 = .ok (.goto 15, 3) := by decide +kernel
theorem dF9_25 : decode method_11_code 25 = .ok (.iconst 0, 1) := by decide +kernel
theorem dF9_26 : decode method_11_code 26 = .ok (.ireturn, 1) := by decide +kernel
theorem dF10_0 : decode method_12_code 0 = .ok (.aload_n 3, 1) := by decide +kernel
theorem dF10_1 : decode method_12_code 1 = .ok (.iconst 0, 1) := by decide +kernel
theorem dF10_2 : decode method_12_code 2 = .ok (.aload_n 0, 1) := by decide +kernel
theorem dF10_3 : decode method_12_code 3 = .ok (.iload_n 1, 1) := by decide +kernel
theorem dF10_4 : decode method_12_code 4 = .ok (.iload_n 2, 1) := by decide +kernel
theorem dF10_5 : decode method_12_code 5 = .ok (.invokevirtual 51, 3) := by decide +kernel
theorem dF10_8 : decode method_12_code 8 = .ok (.i2l, 1) := by decide +kernel
theorem dF10_9 : decode method_12_code 9 = .ok (.lastore, 1) := by decide +kernel
theorem dF10_10 : decode method_12_code 10 = .ok (.goto 15, 3) := by decide +kernel
theorem dF10_25 : decode method_12_code 25 = .ok (.iconst 0, 1) := by decide +kernel
theorem dF10_26 : decode method_12_code 26 = .ok (.ireturn, 1) := by decide +kernel
theorem dF11_0 : decode method_13_code 0 = .ok (.aload_n 3, 1) := by decide +kernel
theorem dF11_1 : decode method_13_code 1 = .ok (.iconst 0, 1) := by decide +kernel
theorem dF11_2 : decode method_13_code 2 = .ok (.aload_n 0, 1) := by decide +kernel
theorem dF11_3 : decode method_13_code 3 = .ok (.iload_n 1, 1) := by decide +kernel
theorem dF11_4 : decode method_13_code 4 = .ok (.iload_n 2, 1) := by decide +kernel
theorem dF11_5 : decode method_13_code 5 = .ok (.invokevirtual 54, 3) := by decide +kernel
theorem dF11_8 : decode method_13_code 8 = .ok (.i2l, 1) := by decide +kernel
theorem dF11_9 : decode method_13_code 9 = .ok (.lastore, 1) := by decide +kernel
theorem dF11_10 : decode method_13_code 10 = .ok (.goto 11, 3) := by decide +kernel
theorem dF11_21 : decode method_13_code 21 = .ok (.iconst 0, 1) := by decide +kernel
theorem dF11_22 : decode method_13_code 22 = .ok (.ireturn, 1) := by decide +kernel
theorem dF12_0 : decode method_14_code 0 = .ok (.aload_n 3, 1) := by decide +kernel
theorem dF12_1 : decode method_14_code 1 = .ok (.iconst 0, 1) := by decide +kernel
theorem dF12_2 : decode method_14_code 2 = .ok (.aload_n 0, 1) := by decide +kernel
theorem dF12_3 : decode method_14_code 3 = .ok (.iload_n 1, 1) := by decide +kernel
theorem dF12_4 : decode method_14_code 4 = .ok (.iload_n 2, 1) := by decide +kernel
theorem dF12_5 : decode method_14_code 5 = .ok (.invokevirtual 57, 3) := by decide +kernel
theorem dF12_8 : decode method_14_code 8 = .ok (.i2l, 1) := by decide +kernel
theorem dF12_9 : decode method_14_code 9 = .ok (.lastore, 1) := by decide +kernel
theorem dF12_10 : decode method_14_code 10 = .ok (.goto 15, 3) := by decide +kernel
theorem dF12_25 : decode method_14_code 25 = .ok (.iconst 0, 1) := by decide +kernel
theorem dF12_26 : decode method_14_code 26 = .ok (.ireturn, 1) := by decide +kernel
theorem dF13_0 : decode method_15_code 0 = .ok (.aload_n 2, 1) := by decide +kernel
theorem dF13_1 : decode method_15_code 1 = .ok (.iconst 0, 1) := by decide +kernel
theorem dF13_2 : decode method_15_code 2 = .ok (.aload_n 0, 1) := by decide +kernel
theorem dF13_3 : decode method_15_code 3 = .ok (.iload_n 1, 1) := by decide +kernel
theorem dF13_4 : decode method_15_code 4 = .ok (.invokevirtual 63, 3) := by decide +kernel
theorem dF13_7 : decode method_15_code 7 = .ok (.i2l, 1) := by decide +kernel
theorem dF13_8 : decode method_15_code 8 = .ok (.lastore, 1) := by decide +kernel
theorem dF13_9 : decode method_15_code 9 = .ok (.goto 9, 3) := by decide +kernel
theorem dF13_18 : decode method_15_code 18 = .ok (.iconst 0, 1) := by decide +kernel
theorem dF13_19 : decode method_15_code 19 = .ok (.ireturn, 1) := by decide +kernel
theorem dF14_0 : decode method_16_code 0 = .ok (.aload_n 2, 1) := by decide +kernel
theorem dF14_1 : decode method_16_code 1 = .ok (.iconst 0, 1) := by decide +kernel
theorem dF14_2 : decode method_16_code 2 = .ok (.aload_n 0, 1) := by decide +kernel
theorem dF14_3 : decode method_16_code 3 = .ok (.iload_n 1, 1) := by decide +kernel
theorem dF14_4 : decode method_16_code 4 = .ok (.invokevirtual 66, 3) := by decide +kernel
theorem dF14_7 : decode method_16_code 7 = .ok (.i2l, 1) := by decide +kernel
theorem dF14_8 : decode method_16_code 8 = .ok (.lastore, 1) := by decide +kernel
theorem dF14_9 : decode method_16_code 9 = .ok (.goto 9, 3) := by decide +kernel
theorem dF14_18 : decode method_16_code 18 = .ok (.iconst 0, 1) := by decide +kernel
theorem dF14_19 : decode method_16_code 19 = .ok (.ireturn, 1) := by decide +kernel
theorem dF15_0 : decode method_17_code 0 = .ok (.aload_n 1, 1) := by decide +kernel
theorem dF15_1 : decode method_17_code 1 = .ok (.iconst 0, 1) := by decide +kernel
theorem dF15_2 : decode method_17_code 2 = .ok (.aload_n 0, 1) := by decide +kernel
theorem dF15_3 : decode method_17_code 3 = .ok (.invokevirtual 69, 3) := by decide +kernel
theorem dF15_6 : decode method_17_code 6 = .ok (.i2l, 1) := by decide +kernel
theorem dF15_7 : decode method_17_code 7 = .ok (.lastore, 1) := by decide +kernel
theorem dF15_8 : decode method_17_code 8 = .ok (.goto 6, 3) := by decide +kernel
theorem dF15_14 : decode method_17_code 14 = .ok (.iconst 0, 1) := by decide +kernel
theorem dF15_15 : decode method_17_code 15 = .ok (.ireturn, 1) := by decide +kernel
theorem dF16_0 : decode method_18_code 0 = .ok (.aload_n 2, 1) := by decide +kernel
theorem dF16_1 : decode method_18_code 1 = .ok (.iconst 0, 1) := by decide +kernel
theorem dF16_2 : decode method_18_code 2 = .ok (.aload_n 0, 1) := by decide +kernel
theorem dF16_3 : decode method_18_code 3 = .ok (.iload_n 1, 1) := by decide +kernel
theorem dF16_4 : decode method_18_code 4 = .ok (.invokevirtual 73, 3) := by decide +kernel
theorem dF16_7 : decode method_18_code 7 = .ok (.i2l, 1) := by decide +kernel
theorem dF16_8 : decode method_18_code 8 = .ok (.lastore, 1) := by decide +kernel
theorem dF16_9 : decode method_18_code 9 = .ok (.goto 12, 3) := by decide +kernel
theorem dF16_21 : decode method_18_code 21 = .ok (.iconst 0, 1) := by decide +kernel
theorem dF16_22 : decode method_18_code 22 = .ok (.ireturn, 1) := by decide +kernel
theorem dF17_0 : decode method_19_code 0 = .ok (.aload_n 3, 1) := by decide +kernel
theorem dF17_1 : decode method_19_code 1 = .ok (.iconst 0, 1) := by decide +kernel
theorem dF17_2 : decode method_19_code 2 = .ok (.aload_n 0, 1) := by decide +kernel
theorem dF17_3 : decode method_19_code 3 = .ok (.iload_n 1, 1) := by decide +kernel
theorem dF17_4 : decode method_19_code 4 = .ok (.iload_n 2, 1) := by decide +kernel
theorem dF17_5 : decode method_19_code 5 = .ok (.invokevirtual 76, 3) := by decide +kernel
theorem dF17_8 : decode method_19_code 8 = .ok (.i2l, 1) := by decide +kernel
theorem dF17_9 : decode method_19_code 9 = .ok (.lastore, 1) := by decide +kernel
theorem dF17_10 : decode method_19_code 10 = .ok (.goto 15, 3) := by decide +kernel
theorem dF17_25 : decode method_19_code 25 = .ok (.iconst 0, 1) := by decide +kernel
theorem dF17_26 : decode method_19_code 26 = .ok (.ireturn, 1) := by decide +kernel
theorem dF18_0 : decode method_20_code 0 = .ok (.aload_n 3, 1) := by decide +kernel
theorem dF18_1 : decode method_20_code 1 = .ok (.iconst 0, 1) := by decide +kernel
theorem dF18_2 : decode method_20_code 2 = .ok (.aload_n 0, 1) := by decide +kernel
theorem dF18_3 : decode method_20_code 3 = .ok (.iload_n 1, 1) := by decide +kernel
theorem dF18_4 : decode method_20_code 4 = .ok (.iload_n 2, 1) := by decide +kernel
theorem dF18_5 : decode method_20_code 5 = .ok (.invokevirtual 79, 3) := by decide +kernel
theorem dF18_8 : decode method_20_code 8 = .ok (.i2l, 1) := by decide +kernel
theorem dF18_9 : decode method_20_code 9 = .ok (.lastore, 1) := by decide +kernel
theorem dF18_10 : decode method_20_code 10 = .ok (.goto 19, 3) := by decide +kernel
theorem dF18_29 : decode method_20_code 29 = .ok (.iconst 0, 1) := by decide +kernel
theorem dF18_30 : decode method_20_code 30 = .ok (.ireturn, 1) := by decide +kernel
theorem dF19_0 : decode method_21_code 0 = .ok (.aload_n 2, 1) := by decide +kernel
theorem dF19_1 : decode method_21_code 1 = .ok (.iconst 0, 1) := by decide +kernel
theorem dF19_2 : decode method_21_code 2 = .ok (.aload_n 0, 1) := by decide +kernel
theorem dF19_3 : decode method_21_code 3 = .ok (.iload_n 1, 1) := by decide +kernel
theorem dF19_4 : decode method_21_code 4 = .ok (.invokevirtual 82, 3) := by decide +kernel
theorem dF19_7 : decode method_21_code 7 = .ok (.i2l, 1) := by decide +kernel
theorem dF19_8 : decode method_21_code 8 = .ok (.lastore, 1) := by decide +kernel
theorem dF19_9 : decode method_21_code 9 = .ok (.goto 9, 3) := by decide +kernel
theorem dF19_18 : decode method_21_code 18 = .ok (.iconst 0, 1) := by decide +kernel
theorem dF19_19 : decode method_21_code 19 = .ok (.ireturn, 1) := by decide +kernel
theorem hd_1_1 : ma_hd method_3_code 8 1 11 [(0, 16, 19, 13)] = some 1 := by decide +kernel
theorem hd_2_2 : ma_hd method_4_code 4 2 4 [(0, 9, 12, 19)] = some 1 := by decide +kernel
theorem hd_3_2 : ma_hd method_5_code 5 2 5 [(0, 10, 13, 19), (0, 10, 17, 25)] = some 1 := by decide +kernel
theorem hd_3_3 : ma_hd method_5_code 5 3 5 [(0, 10, 13, 19), (0, 10, 17, 25)] = some 2 := by decide +kernel
theorem hd_4_2 : ma_hd method_6_code 5 2 5 [(0, 10, 13, 19), (0, 10, 17, 25)] = some 1 := by decide +kernel
theorem hd_4_3 : ma_hd method_6_code 5 3 5 [(0, 10, 13, 19), (0, 10, 17, 25)] = some 2 := by decide +kernel
theorem hd_5_2 : ma_hd method_7_code 6 2 7 [(0, 12, 15, 19), (0, 12, 19, 25)] = some 1 := by decide +kernel
theorem hd_5_3 : ma_hd method_7_code 6 3 7 [(0, 12, 15, 19), (0, 12, 19, 25)] = some 2 := by decide +kernel
theorem hd_6_1 : ma_hd method_8_code 6 1 7 [(0, 12, 15, 25), (0, 12, 19, 38), (0, 12, 23, 13), (0, 12, 27, 40)] = some 3 := by decide +kernel
theorem hd_6_3 : ma_hd method_8_code 6 3 7 [(0, 12, 15, 25), (0, 12, 19, 38), (0, 12, 23, 13), (0, 12, 27, 40)] = some 1 := by decide +kernel
theorem hd_6_4 : ma_hd method_8_code 6 4 7 [(0, 12, 15, 25), (0, 12, 19, 38), (0, 12, 23, 13), (0, 12, 27, 40)] = some 2 := by decide +kernel
theorem hd_6_5 : ma_hd method_8_code 6 5 7 [(0, 12, 15, 25), (0, 12, 19, 38), (0, 12, 23, 13), (0, 12, 27, 40)] = some 4 := by decide +kernel
theorem hd_7_1 : ma_hd method_9_code 6 1 7 [(0, 12, 15, 25), (0, 12, 19, 38), (0, 12, 23, 13), (0, 12, 27, 40)] = some 3 := by decide +kernel
theorem hd_7_3 : ma_hd method_9_code 6 3 7 [(0, 12, 15, 25), (0, 12, 19, 38), (0, 12, 23, 13), (0, 12, 27, 40)] = some 1 := by decide +kernel
theorem hd_7_4 : ma_hd method_9_code 6 4 7 [(0, 12, 15, 25), (0, 12, 19, 38), (0, 12, 23, 13), (0, 12, 27, 40)] = some 2 := by decide +kernel
theorem hd_7_5 : ma_hd method_9_code 6 5 7 [(0, 12, 15, 25), (0, 12, 19, 38), (0, 12, 23, 13), (0, 12, 27, 40)] = some 4 := by decide +kernel
theorem hd_8_1 : ma_hd method_10_code 5 1 5 [(0, 10, 13, 25), (0, 10, 17, 38), (0, 10, 21, 13)] = some 3 := by decide +kernel
theorem hd_8_3 : ma_hd method_10_code 5 3 5 [(0, 10, 13, 25), (0, 10, 17, 38), (0, 10, 21, 13)] = some 1 := by decide +kernel
theorem hd_8_4 : ma_hd method_10_code 5 4 5 [(0, 10, 13, 25), (0, 10, 17, 38), (0, 10, 21, 13)] = some 2 := by decide +kernel
theorem hd_9_2 : ma_hd method_11_code 5 2 5 [(0, 10, 13, 19), (0, 10, 17, 25), (0, 10, 21, 38)] = some 1 := by decide +kernel
theorem hd_9_3 : ma_hd method_11_code 5 3 5 [(0, 10, 13, 19), (0, 10, 17, 25), (0, 10, 21, 38)] = some 2 := by decide +kernel
theorem hd_9_4 : ma_hd method_11_code 5 4 5 [(0, 10, 13, 19), (0, 10, 17, 25), (0, 10, 21, 38)] = some 3 := by decide +kernel
theorem hd_10_2 : ma_hd method_12_code 5 2 5 [(0, 10, 13, 19), (0, 10, 17, 25), (0, 10, 21, 38)] = some 1 := by decide +kernel
theorem hd_10_3 : ma_hd method_12_code 5 3 5 [(0, 10, 13, 19), (0, 10, 17, 25), (0, 10, 21, 38)] = some 2 := by decide +kernel
theorem hd_10_4 : ma_hd method_12_code 5 4 5 [(0, 10, 13, 19), (0, 10, 17, 25), (0, 10, 21, 38)] = some 3 := by decide +kernel
theorem hd_11_2 : ma_hd method_13_code 5 2 5 [(0, 10, 13, 19), (0, 10, 17, 25)] = some 1 := by decide +kernel
theorem hd_11_3 : ma_hd method_13_code 5 3 5 [(0, 10, 13, 19), (0, 10, 17, 25)] = some 2 := by decide +kernel
theorem hd_12_3 : ma_hd method_14_code 5 3 5 [(0, 10, 13, 25), (0, 10, 17, 38), (0, 10, 21, 61)] = some 1 := by decide +kernel
theorem hd_12_4 : ma_hd method_14_code 5 4 5 [(0, 10, 13, 25), (0, 10, 17, 38), (0, 10, 21, 61)] = some 2 := by decide +kernel
theorem hd_12_6 : ma_hd method_14_code 5 6 5 [(0, 10, 13, 25), (0, 10, 17, 38), (0, 10, 21, 61)] = some 3 := by decide +kernel
theorem hd_13_3 : ma_hd method_15_code 4 3 4 [(0, 9, 12, 25), (0, 9, 15, 38)] = some 1 := by decide +kernel
theorem hd_13_4 : ma_hd method_15_code 4 4 4 [(0, 9, 12, 25), (0, 9, 15, 38)] = some 2 := by decide +kernel
theorem hd_14_2 : ma_hd method_16_code 4 2 4 [(0, 9, 12, 19), (0, 9, 15, 25)] = some 1 := by decide +kernel
theorem hd_14_3 : ma_hd method_16_code 4 3 4 [(0, 9, 12, 19), (0, 9, 15, 25)] = some 2 := by decide +kernel
theorem hd_15_3 : ma_hd method_17_code 3 3 3 [(0, 8, 11, 25)] = some 1 := by decide +kernel
theorem hd_16_2 : ma_hd method_18_code 4 2 4 [(0, 9, 12, 19), (0, 9, 15, 25), (0, 9, 18, 61)] = some 1 := by decide +kernel
theorem hd_16_3 : ma_hd method_18_code 4 3 4 [(0, 9, 12, 19), (0, 9, 15, 25), (0, 9, 18, 61)] = some 2 := by decide +kernel
theorem hd_16_6 : ma_hd method_18_code 4 6 4 [(0, 9, 12, 19), (0, 9, 15, 25), (0, 9, 18, 61)] = some 3 := by decide +kernel
theorem hd_17_2 : ma_hd method_19_code 5 2 5 [(0, 10, 13, 19), (0, 10, 17, 25), (0, 10, 21, 38)] = some 1 := by decide +kernel
theorem hd_17_3 : ma_hd method_19_code 5 3 5 [(0, 10, 13, 19), (0, 10, 17, 25), (0, 10, 21, 38)] = some 2 := by decide +kernel
theorem hd_17_4 : ma_hd method_19_code 5 4 5 [(0, 10, 13, 19), (0, 10, 17, 25), (0, 10, 21, 38)] = some 3 := by decide +kernel
theorem hd_18_1 : ma_hd method_20_code 5 1 5 [(0, 10, 13, 19), (0, 10, 17, 25), (0, 10, 21, 61), (0, 10, 25, 13)] = some 4 := by decide +kernel
theorem hd_18_2 : ma_hd method_20_code 5 2 5 [(0, 10, 13, 19), (0, 10, 17, 25), (0, 10, 21, 61), (0, 10, 25, 13)] = some 1 := by decide +kernel
theorem hd_18_3 : ma_hd method_20_code 5 3 5 [(0, 10, 13, 19), (0, 10, 17, 25), (0, 10, 21, 61), (0, 10, 25, 13)] = some 2 := by decide +kernel
theorem hd_18_6 : ma_hd method_20_code 5 6 5 [(0, 10, 13, 19), (0, 10, 17, 25), (0, 10, 21, 61), (0, 10, 25, 13)] = some 3 := by decide +kernel
theorem hd_19_2 : ma_hd method_21_code 4 2 4 [(0, 9, 12, 19), (0, 9, 15, 25)] = some 1 := by decide +kernel
theorem hd_19_3 : ma_hd method_21_code 4 3 4 [(0, 9, 12, 19), (0, 9, 15, 25)] = some 2 := by decide +kernel
theorem gf_1 {X : Nat × (Nat → Int32)} {d w : Nat} {S : ma_S} {Q : Option ma_V → ma_S → Prop} (x0 : Int32) (x1 : Int32) (x2 : Int32) (x3 : Int32) (x4 : Int32) (hd : 12 ≤ d) (hw : 467 ≤ w) (hS : zT S) (h : ma_wp X (d - 1) (w - 25) 137 0 [(0, .inr (.inr (some 64))), (1, .inl x0), (2, .inl x1), (3, .inl x2), (4, .inl x3), (5, .inl x4)] [] S (zi (fun v2 S1 => zT S1 ∧ (Q (some (.inl (0 : Int32))) (ma_put S1 125 0 (.inr (.inl (v2.toInt64)))))) (fun x S1 => ∃ c, ma_hd method_3_code 8 x 11 [(0, 16, 19, 13)] = some c ∧ Q (some (.inl c)) S1))) : ma_fp X 1 d w 0 [(0, .inr (.inr (some 64))), (1, .inl x0), (2, .inl x1), (3, .inl x2), (4, .inl x3), (5, .inl x4), (6, .inr (.inr (some 125)))] [] S Q := by
  refine zf_push fm_1 dF1_0 (v := .inr (.inr (some 125))) rfl ?_
  refine zf_push fm_1 dF1_2 (v := .inl (0 : Int32)) rfl ?_
  refine zf_push fm_1 dF1_3 (v := .inr (.inr (some 64))) rfl ?_
  refine zf_push fm_1 dF1_4 (v := .inl x0) rfl ?_
  refine zf_push fm_1 dF1_5 (v := .inl x1) rfl ?_
  refine zf_push fm_1 dF1_6 (v := .inl x2) rfl ?_
  refine zf_push fm_1 dF1_7 (v := .inl x3) rfl ?_
  refine zf_push fm_1 dF1_9 (v := .inl x4) rfl ?_
  refine zf_cv fm_1 dF1_11 v_14_7_11 hm_137 [.inl x4, .inl x3, .inl x2, .inl x1, .inl x0] [.inl (0 : Int32), .inr (.inr (some 125))] rfl (zT_rt hS s_64 rfl) ⟨by omega, by omega⟩ rfl (zw_mono h (zi_go ?_ ?_))
  · intro v2 S1 hv
    obtain ⟨hS1, h⟩ := hv
    refine zf_stk fm_1 dF1_14 (st' := [.inr (.inl (v2.toInt64)), .inl (0 : Int32), .inr (.inr (some 125))]) rfl rfl ?_
    refine zf_one fm_1 dF1_15 (oo_las (zT_is hS1 s_125) (zT_h hS1 s_125) (a := 0) rfl ⟨by decide, by decide⟩) ?_
    refine zf_goto fm_1 dF1_16 (t := 23) rfl ?_
    refine zf_push fm_1 dF1_23 (v := .inl (0 : Int32)) rfl ?_
    exact zf_iret fm_1 dF1_24 h
  · intro x S9 hx
    exact ⟨⟨by decide, rfl⟩, hx⟩
theorem fw_1 {X : Nat × (Nat → Int32)} {d w : Nat} {S : ma_S} {Q : Option ma_V → ma_S → Prop} (x0 : Int32) (x1 : Int32) (x2 : Int32) (x3 : Int32) (x4 : Int32) (hd : 12 ≤ d) (hw : 467 ≤ w) (h : zHs S) (hte : (mI S 64 1).toInt = (mI S 94 3).toInt) (KN : ∀ v S', zCl S S' → mL S' 125 0 = v.toInt64 → (v.toInt = (mI S' 94 3).toInt + 20 ∧ (mI S' 64 1).toInt = (mI S' 94 3).toInt + 20 ∧ (mI S' 94 3).toInt ≤ 80) → Q (some (.inl 0)) S') (KX : ∀ v S', zCl S S' → ((mI S' 64 1).toInt = (mI S' 94 3).toInt ∧ 81 ≤ (mI S' 94 3).toInt) → Q (some (.inl 1)) S') : ma_fp X 1 d w 0 [(0, .inr (.inr (some 64))), (1, .inl x0), (2, .inl x1), (3, .inl x2), (4, .inl x3), (5, .inl x4), (6, .inr (.inr (some 125)))] [] S Q := by
  refine gf_1 x0 x1 x2 x3 x4 hd hw h.1.1 ?_
  exact sp_137_64 x0 x1 x2 x3 x4 (by omega) (by omega) h.1 hte (fun v S' hI hq => zi_n ⟨zG_T hI, KN v _ (cl_put (cl_A h hI h.2 (Nat.le_succ _) (Nat.le_add_right _ _))) rfl hq⟩) (fun x S' hx hI hq => zi_x (by
      subst hx
      exact ⟨_, hd_1_1, KX _ _ (cl_X h hI h.2 (Nat.le_refl _) (Nat.le_refl _)) hq⟩
      ))
theorem gf_2 {X : Nat × (Nat → Int32)} {d w : Nat} {S : ma_S} {Q : Option ma_V → ma_S → Prop} (x0 : Int32) (hd : 12 ≤ d) (hw : 471 ≤ w) (hS : zT S) (h : ma_wp X (d - 1) (w - 21) 139 0 [(0, .inr (.inr (some 64))), (1, .inl x0)] [] S (zi (fun v2 S1 => zT S1 ∧ (Q (some (.inl (0 : Int32))) (ma_put S1 125 0 (.inr (.inl (v2.toInt64)))))) (fun x S1 => ∃ c, ma_hd method_4_code 4 x 4 [(0, 9, 12, 19)] = some c ∧ Q (some (.inl c)) S1))) : ma_fp X 2 d w 0 [(0, .inr (.inr (some 64))), (1, .inl x0), (2, .inr (.inr (some 125)))] [] S Q := by
  refine zf_push fm_2 dF2_0 (v := .inr (.inr (some 125))) rfl ?_
  refine zf_push fm_2 dF2_1 (v := .inl (0 : Int32)) rfl ?_
  refine zf_push fm_2 dF2_2 (v := .inr (.inr (some 64))) rfl ?_
  refine zf_push fm_2 dF2_3 (v := .inl x0) rfl ?_
  refine zf_cv fm_2 dF2_4 v_14_15_11 hm_139 [.inl x0] [.inl (0 : Int32), .inr (.inr (some 125))] rfl (zT_rt hS s_64 rfl) ⟨by omega, by omega⟩ rfl (zw_mono h (zi_go ?_ ?_))
  · intro v2 S1 hv
    obtain ⟨hS1, h⟩ := hv
    refine zf_stk fm_2 dF2_7 (st' := [.inr (.inl (v2.toInt64)), .inl (0 : Int32), .inr (.inr (some 125))]) rfl rfl ?_
    refine zf_one fm_2 dF2_8 (oo_las (zT_is hS1 s_125) (zT_h hS1 s_125) (a := 0) rfl ⟨by decide, by decide⟩) ?_
    refine zf_goto fm_2 dF2_9 (t := 15) rfl ?_
    refine zf_push fm_2 dF2_15 (v := .inl (0 : Int32)) rfl ?_
    exact zf_iret fm_2 dF2_16 h
  · intro x S9 hx
    exact ⟨⟨by decide, rfl⟩, hx⟩
theorem fw_2 {X : Nat × (Nat → Int32)} {d w : Nat} {S : ma_S} {Q : Option ma_V → ma_S → Prop} (x0 : Int32) (hd : 12 ≤ d) (hw : 471 ≤ w) (h : zHs S) (hte : (mI S 64 1).toInt = (mI S 94 3).toInt) (KN : ∀ v S', zCl S S' → mL S' 125 0 = v.toInt64 → ((mI S' 64 1).toInt = x0.toInt ∧ 0 ≤ x0.toInt ∧ x0.toInt ≤ (mI S' 94 3).toInt) → Q (some (.inl 0)) S') (KX : ∀ v S', zCl S S' → ((mI S' 64 1).toInt = (mI S' 94 3).toInt ∧ (x0.toInt < 0 ∨ (mI S' 94 3).toInt < x0.toInt)) → Q (some (.inl v)) S') : ma_fp X 2 d w 0 [(0, .inr (.inr (some 64))), (1, .inl x0), (2, .inr (.inr (some 125)))] [] S Q := by
  refine gf_2 x0 hd hw h.1.1 ?_
  exact sp_139_64 x0 (by omega) (by omega) h.1 hte (fun v S' hI hq => zi_n ⟨zG_T hI, KN v _ (cl_put (cl_A h hI h.2 (Nat.le_succ _) (Nat.le_add_right _ _))) rfl hq⟩) (fun x S' hx hI hq => zi_x (by
      subst hx
      exact ⟨_, hd_2_2, KX _ _ (cl_X h hI h.2 (Nat.le_refl _) (Nat.le_refl _)) hq⟩
      ))
theorem gf_3 {X : Nat × (Nat → Int32)} {d w : Nat} {S : ma_S} {Q : Option ma_V → ma_S → Prop} (x0 : Int32) (x1 : Int32) (hd : 12 ≤ d) (hw : 470 ≤ w) (hS : zT S) (h : ma_wp X (d - 1) (w - 22) 140 0 [(0, .inr (.inr (some 64))), (1, .inl x0), (2, .inl x1)] [] S (zi (fun v2 S1 => zT S1 ∧ (Q (some (.inl (0 : Int32))) (ma_put S1 125 0 (.inr (.inl (v2.toInt64)))))) (fun x S1 => ∃ c, ma_hd method_5_code 5 x 5 [(0, 10, 13, 19), (0, 10, 17, 25)] = some c ∧ Q (some (.inl c)) S1))) : ma_fp X 3 d w 0 [(0, .inr (.inr (some 64))), (1, .inl x0), (2, .inl x1), (3, .inr (.inr (some 125)))] [] S Q := by
  refine zf_push fm_3 dF3_0 (v := .inr (.inr (some 125))) rfl ?_
  refine zf_push fm_3 dF3_1 (v := .inl (0 : Int32)) rfl ?_
  refine zf_push fm_3 dF3_2 (v := .inr (.inr (some 64))) rfl ?_
  refine zf_push fm_3 dF3_3 (v := .inl x0) rfl ?_
  refine zf_push fm_3 dF3_4 (v := .inl x1) rfl ?_
  refine zf_cv fm_3 dF3_5 v_14_21_11 hm_140 [.inl x1, .inl x0] [.inl (0 : Int32), .inr (.inr (some 125))] rfl (zT_rt hS s_64 rfl) ⟨by omega, by omega⟩ rfl (zw_mono h (zi_go ?_ ?_))
  · intro v2 S1 hv
    obtain ⟨hS1, h⟩ := hv
    refine zf_stk fm_3 dF3_8 (st' := [.inr (.inl (v2.toInt64)), .inl (0 : Int32), .inr (.inr (some 125))]) rfl rfl ?_
    refine zf_one fm_3 dF3_9 (oo_las (zT_is hS1 s_125) (zT_h hS1 s_125) (a := 0) rfl ⟨by decide, by decide⟩) ?_
    refine zf_goto fm_3 dF3_10 (t := 21) rfl ?_
    refine zf_push fm_3 dF3_21 (v := .inl (0 : Int32)) rfl ?_
    exact zf_iret fm_3 dF3_22 h
  · intro x S9 hx
    exact ⟨⟨by decide, rfl⟩, hx⟩
theorem fw_3 {X : Nat × (Nat → Int32)} {d w : Nat} {S : ma_S} {Q : Option ma_V → ma_S → Prop} (x0 : Int32) (x1 : Int32) (hd : 12 ≤ d) (hw : 470 ≤ w) (h : zHs S) (hte : (mI S 64 1).toInt = (mI S 94 3).toInt) (KN : ∀ v S', zCl S S' → mL S' 125 0 = v.toInt64 → ((mI S' 64 1).toInt = (mI S' 94 3).toInt) → Q (some (.inl 0)) S') (KX : ∀ v S', zCl S S' → ((mI S' 64 1).toInt = (mI S' 94 3).toInt) → Q (some (.inl v)) S') : ma_fp X 3 d w 0 [(0, .inr (.inr (some 64))), (1, .inl x0), (2, .inl x1), (3, .inr (.inr (some 125)))] [] S Q := by
  refine gf_3 x0 x1 hd hw h.1.1 ?_
  exact sp_140_64 x0 x1 (by omega) (by omega) h.1 hte (fun v S' hI hq => zi_n ⟨zG_T hI, KN v _ (cl_put (cl_A h hI h.2 (Nat.le_succ _) (Nat.le_add_right _ _))) rfl hq⟩) (fun x S' hx hI hq => zi_x (by
      rcases hx with rfl | rfl
      · exact ⟨_, hd_3_2, KX _ _ (cl_X h hI h.2 (Nat.le_refl _) (Nat.le_refl _)) hq⟩
      · exact ⟨_, hd_3_3, KX _ _ (cl_X h hI h.2 (Nat.le_refl _) (Nat.le_refl _)) hq⟩
      ))
theorem gf_4 {X : Nat × (Nat → Int32)} {d w : Nat} {S : ma_S} {Q : Option ma_V → ma_S → Prop} (x0 : Int32) (x1 : Int32) (hd : 12 ≤ d) (hw : 470 ≤ w) (hS : zT S) (h : ma_wp X (d - 1) (w - 22) 141 0 [(0, .inr (.inr (some 64))), (1, .inl x0), (2, .inl x1)] [] S (zi (fun v2 S1 => zT S1 ∧ (Q (some (.inl (0 : Int32))) (ma_put S1 125 0 (.inr (.inl (v2.toInt64)))))) (fun x S1 => ∃ c, ma_hd method_6_code 5 x 5 [(0, 10, 13, 19), (0, 10, 17, 25)] = some c ∧ Q (some (.inl c)) S1))) : ma_fp X 4 d w 0 [(0, .inr (.inr (some 64))), (1, .inl x0), (2, .inl x1), (3, .inr (.inr (some 125)))] [] S Q := by
  refine zf_push fm_4 dF4_0 (v := .inr (.inr (some 125))) rfl ?_
  refine zf_push fm_4 dF4_1 (v := .inl (0 : Int32)) rfl ?_
  refine zf_push fm_4 dF4_2 (v := .inr (.inr (some 64))) rfl ?_
  refine zf_push fm_4 dF4_3 (v := .inl x0) rfl ?_
  refine zf_push fm_4 dF4_4 (v := .inl x1) rfl ?_
  refine zf_cv fm_4 dF4_5 v_14_27_11 hm_141 [.inl x1, .inl x0] [.inl (0 : Int32), .inr (.inr (some 125))] rfl (zT_rt hS s_64 rfl) ⟨by omega, by omega⟩ rfl (zw_mono h (zi_go ?_ ?_))
  · intro v2 S1 hv
    obtain ⟨hS1, h⟩ := hv
    refine zf_stk fm_4 dF4_8 (st' := [.inr (.inl (v2.toInt64)), .inl (0 : Int32), .inr (.inr (some 125))]) rfl rfl ?_
    refine zf_one fm_4 dF4_9 (oo_las (zT_is hS1 s_125) (zT_h hS1 s_125) (a := 0) rfl ⟨by decide, by decide⟩) ?_
    refine zf_goto fm_4 dF4_10 (t := 21) rfl ?_
    refine zf_push fm_4 dF4_21 (v := .inl (0 : Int32)) rfl ?_
    exact zf_iret fm_4 dF4_22 h
  · intro x S9 hx
    exact ⟨⟨by decide, rfl⟩, hx⟩
theorem fw_4 {X : Nat × (Nat → Int32)} {d w : Nat} {S : ma_S} {Q : Option ma_V → ma_S → Prop} (x0 : Int32) (x1 : Int32) (hd : 12 ≤ d) (hw : 470 ≤ w) (h : zHs S)  (K : ∀ v S', zCl S S' → mI S' 64 1 = mI S 64 1 → Q (some (.inl v)) S') : ma_fp X 4 d w 0 [(0, .inr (.inr (some 64))), (1, .inl x0), (2, .inl x1), (3, .inr (.inr (some 125)))] [] S Q := by
  refine gf_4 x0 x1 hd hw h.1.1 ?_
  rcases h.2 with e | ⟨p, hp, e⟩
  · exact sp_141_64_p0 x0 x1 (by omega) (by omega) (zB_of h.1) e (fun v S' r' C' Z' N' s1 s2 s3 s4 hI _ => zi_n ⟨zG_T hI, K _ _ (cl_put (cl_A h (zA_of hI) (by rw [s1 64 11 (by decide)]; exact h.2) s2 s3)) (fr_B hI)⟩) (fun x S' hx hI => zi_x (by
      rcases hx with rfl | rfl
      · exact ⟨_, hd_4_2, K _ _ (cl_X h (zA_of hI) h.2 (Nat.le_refl _) (Nat.le_refl _)) (fr_B hI)⟩
      · exact ⟨_, hd_4_3, K _ _ (cl_X h (zA_of hI) h.2 (Nat.le_refl _) (Nat.le_refl _)) (fr_B hI)⟩
      ))
  · simp only [zcl7, List.mem_cons, List.not_mem_nil, or_false] at hp
    rcases hp with rfl | rfl | rfl | rfl | rfl | rfl | rfl
    · exact sp_141_64_p79 x0 x1 (by omega) (by omega) (zB_of h.1) e (fun v S' r' C' Z' N' s1 s2 s3 s4 hI _ => zi_n ⟨zG_T hI, K _ _ (cl_put (cl_A h (zA_of hI) (by rw [s1 64 11 (by decide)]; exact h.2) s2 s3)) (fr_B hI)⟩) (fun x S' hx hI => zi_x (by
      rcases hx with rfl | rfl
      · exact ⟨_, hd_4_2, K _ _ (cl_X h (zA_of hI) h.2 (Nat.le_refl _) (Nat.le_refl _)) (fr_B hI)⟩
      · exact ⟨_, hd_4_3, K _ _ (cl_X h (zA_of hI) h.2 (Nat.le_refl _) (Nat.le_refl _)) (fr_B hI)⟩
      ))
    · exact sp_141_64_p80 x0 x1 (by omega) (by omega) (zB_of h.1) e (fun v S' r' C' Z' N' s1 s2 s3 s4 hI _ => zi_n ⟨zG_T hI, K _ _ (cl_put (cl_A h (zA_of hI) (by rw [s1 64 11 (by decide)]; exact h.2) s2 s3)) (fr_B hI)⟩) (fun x S' hx hI => zi_x (by
      rcases hx with rfl | rfl
      · exact ⟨_, hd_4_2, K _ _ (cl_X h (zA_of hI) h.2 (Nat.le_refl _) (Nat.le_refl _)) (fr_B hI)⟩
      · exact ⟨_, hd_4_3, K _ _ (cl_X h (zA_of hI) h.2 (Nat.le_refl _) (Nat.le_refl _)) (fr_B hI)⟩
      ))
    · exact sp_141_64_p81 x0 x1 (by omega) (by omega) (zB_of h.1) e (fun v S' r' C' Z' N' s1 s2 s3 s4 hI _ => zi_n ⟨zG_T hI, K _ _ (cl_put (cl_A h (zA_of hI) (by rw [s1 64 11 (by decide)]; exact h.2) s2 s3)) (fr_B hI)⟩) (fun x S' hx hI => zi_x (by
      rcases hx with rfl | rfl
      · exact ⟨_, hd_4_2, K _ _ (cl_X h (zA_of hI) h.2 (Nat.le_refl _) (Nat.le_refl _)) (fr_B hI)⟩
      · exact ⟨_, hd_4_3, K _ _ (cl_X h (zA_of hI) h.2 (Nat.le_refl _) (Nat.le_refl _)) (fr_B hI)⟩
      ))
    · exact sp_141_64_p82 x0 x1 (by omega) (by omega) (zB_of h.1) e (fun v S' r' C' Z' N' s1 s2 s3 s4 hI _ => zi_n ⟨zG_T hI, K _ _ (cl_put (cl_A h (zA_of hI) (by rw [s1 64 11 (by decide)]; exact h.2) s2 s3)) (fr_B hI)⟩) (fun x S' hx hI => zi_x (by
      rcases hx with rfl | rfl
      · exact ⟨_, hd_4_2, K _ _ (cl_X h (zA_of hI) h.2 (Nat.le_refl _) (Nat.le_refl _)) (fr_B hI)⟩
      · exact ⟨_, hd_4_3, K _ _ (cl_X h (zA_of hI) h.2 (Nat.le_refl _) (Nat.le_refl _)) (fr_B hI)⟩
      ))
    · exact sp_141_64_p84 x0 x1 (by omega) (by omega) (zB_of h.1) e (fun v S' r' C' Z' N' s1 s2 s3 s4 hI _ => zi_n ⟨zG_T hI, K _ _ (cl_put (cl_A h (zA_of hI) (by rw [s1 64 11 (by decide)]; exact h.2) s2 s3)) (fr_B hI)⟩) (fun x S' hx hI => zi_x (by
      rcases hx with rfl | rfl
      · exact ⟨_, hd_4_2, K _ _ (cl_X h (zA_of hI) h.2 (Nat.le_refl _) (Nat.le_refl _)) (fr_B hI)⟩
      · exact ⟨_, hd_4_3, K _ _ (cl_X h (zA_of hI) h.2 (Nat.le_refl _) (Nat.le_refl _)) (fr_B hI)⟩
      ))
    · exact sp_141_64_p87 x0 x1 (by omega) (by omega) (zB_of h.1) e (fun v S' r' C' Z' N' s1 s2 s3 s4 hI _ => zi_n ⟨zG_T hI, K _ _ (cl_put (cl_A h (zA_of hI) (by rw [s1 64 11 (by decide)]; exact h.2) s2 s3)) (fr_B hI)⟩) (fun x S' hx hI => zi_x (by
      rcases hx with rfl | rfl
      · exact ⟨_, hd_4_2, K _ _ (cl_X h (zA_of hI) h.2 (Nat.le_refl _) (Nat.le_refl _)) (fr_B hI)⟩
      · exact ⟨_, hd_4_3, K _ _ (cl_X h (zA_of hI) h.2 (Nat.le_refl _) (Nat.le_refl _)) (fr_B hI)⟩
      ))
    · exact sp_141_64_p91 x0 x1 (by omega) (by omega) (zB_of h.1) e (fun v S' r' C' Z' N' s1 s2 s3 s4 hI _ => zi_n ⟨zG_T hI, K _ _ (cl_put (cl_A h (zA_of hI) (by rw [s1 64 11 (by decide)]; exact h.2) s2 s3)) (fr_B hI)⟩) (fun x S' hx hI => zi_x (by
      rcases hx with rfl | rfl
      · exact ⟨_, hd_4_2, K _ _ (cl_X h (zA_of hI) h.2 (Nat.le_refl _) (Nat.le_refl _)) (fr_B hI)⟩
      · exact ⟨_, hd_4_3, K _ _ (cl_X h (zA_of hI) h.2 (Nat.le_refl _) (Nat.le_refl _)) (fr_B hI)⟩
      ))
theorem gf_5 {X : Nat × (Nat → Int32)} {d w : Nat} {S : ma_S} {Q : Option ma_V → ma_S → Prop} (x0 : Int32) (x1 : Int32) (x2 : Int32) (hd : 12 ≤ d) (hw : 469 ≤ w) (hS : zT S) (h : ma_wp X (d - 1) (w - 23) 147 0 [(0, .inr (.inr (some 64))), (1, .inl x0), (2, .inl x1), (3, .inl x2)] [] S (zi (fun v2 S1 => zT S1 ∧ (Q (some (.inl (0 : Int32))) (ma_put S1 125 0 (.inr (.inl (v2.toInt64)))))) (fun x S1 => ∃ c, ma_hd method_7_code 6 x 7 [(0, 12, 15, 19), (0, 12, 19, 25)] = some c ∧ Q (some (.inl c)) S1))) : ma_fp X 5 d w 0 [(0, .inr (.inr (some 64))), (1, .inl x0), (2, .inl x1), (3, .inl x2), (4, .inr (.inr (some 125)))] [] S Q := by
  refine zf_push fm_5 dF5_0 (v := .inr (.inr (some 125))) rfl ?_
  refine zf_push fm_5 dF5_2 (v := .inl (0 : Int32)) rfl ?_
  refine zf_push fm_5 dF5_3 (v := .inr (.inr (some 64))) rfl ?_
  refine zf_push fm_5 dF5_4 (v := .inl x0) rfl ?_
  refine zf_push fm_5 dF5_5 (v := .inl x1) rfl ?_
  refine zf_push fm_5 dF5_6 (v := .inl x2) rfl ?_
  refine zf_cv fm_5 dF5_7 v_14_30_11 hm_147 [.inl x2, .inl x1, .inl x0] [.inl (0 : Int32), .inr (.inr (some 125))] rfl (zT_rt hS s_64 rfl) ⟨by omega, by omega⟩ rfl (zw_mono h (zi_go ?_ ?_))
  · intro v2 S1 hv
    obtain ⟨hS1, h⟩ := hv
    refine zf_stk fm_5 dF5_10 (st' := [.inr (.inl (v2.toInt64)), .inl (0 : Int32), .inr (.inr (some 125))]) rfl rfl ?_
    refine zf_one fm_5 dF5_11 (oo_las (zT_is hS1 s_125) (zT_h hS1 s_125) (a := 0) rfl ⟨by decide, by decide⟩) ?_
    refine zf_goto fm_5 dF5_12 (t := 23) rfl ?_
    refine zf_push fm_5 dF5_23 (v := .inl (0 : Int32)) rfl ?_
    exact zf_iret fm_5 dF5_24 h
  · intro x S9 hx
    exact ⟨⟨by decide, rfl⟩, hx⟩
theorem fw_5 {X : Nat × (Nat → Int32)} {d w : Nat} {S : ma_S} {Q : Option ma_V → ma_S → Prop} (x0 : Int32) (x1 : Int32) (x2 : Int32) (hd : 12 ≤ d) (hw : 469 ≤ w) (h : zHs S) (hb0 : x0 = 0 ∨ x0 = 1) (K : ∀ v S', zCl S S' → mI S' 64 1 = mI S 64 1 → Q (some (.inl v)) S') : ma_fp X 5 d w 0 [(0, .inr (.inr (some 64))), (1, .inl x0), (2, .inl x1), (3, .inl x2), (4, .inr (.inr (some 125)))] [] S Q := by
  refine gf_5 x0 x1 x2 hd hw h.1.1 ?_
  rcases h.2 with e | ⟨p, hp, e⟩
  · exact sp_147_64_p0 x0 x1 x2 (by omega) (by omega) (zB_of h.1) e (i_01 hb0).1 (i_01 hb0).2 (fun v S' r' C' Z' N' s1 s2 s3 s4 hI _ => zi_n ⟨zG_T hI, K _ _ (cl_put (cl_A h (zA_of hI) (by rw [s1 64 11 (by decide)]; exact h.2) s2 s3)) (fr_B hI)⟩) (fun x S' hx hI => zi_x (by
      rcases hx with rfl | rfl
      · exact ⟨_, hd_5_2, K _ _ (cl_X h (zA_of hI) h.2 (Nat.le_refl _) (Nat.le_refl _)) (fr_B hI)⟩
      · exact ⟨_, hd_5_3, K _ _ (cl_X h (zA_of hI) h.2 (Nat.le_refl _) (Nat.le_refl _)) (fr_B hI)⟩
      ))
  · simp only [zcl7, List.mem_cons, List.not_mem_nil, or_false] at hp
    rcases hp with rfl | rfl | rfl | rfl | rfl | rfl | rfl
    · exact sp_147_64_p79 x0 x1 x2 (by omega) (by omega) (zB_of h.1) e (i_01 hb0).1 (i_01 hb0).2 (fun v S' r' C' Z' N' s1 s2 s3 s4 hI _ => zi_n ⟨zG_T hI, K _ _ (cl_put (cl_A h (zA_of hI) (by rw [s1 64 11 (by decide)]; exact h.2) s2 s3)) (fr_B hI)⟩) (fun x S' hx hI => zi_x (by
      rcases hx with rfl | rfl
      · exact ⟨_, hd_5_2, K _ _ (cl_X h (zA_of hI) h.2 (Nat.le_refl _) (Nat.le_refl _)) (fr_B hI)⟩
      · exact ⟨_, hd_5_3, K _ _ (cl_X h (zA_of hI) h.2 (Nat.le_refl _) (Nat.le_refl _)) (fr_B hI)⟩
      ))
    · exact sp_147_64_p80 x0 x1 x2 (by omega) (by omega) (zB_of h.1) e (i_01 hb0).1 (i_01 hb0).2 (fun v S' r' C' Z' N' s1 s2 s3 s4 hI _ => zi_n ⟨zG_T hI, K _ _ (cl_put (cl_A h (zA_of hI) (by rw [s1 64 11 (by decide)]; exact h.2) s2 s3)) (fr_B hI)⟩) (fun x S' hx hI => zi_x (by
      rcases hx with rfl | rfl
      · exact ⟨_, hd_5_2, K _ _ (cl_X h (zA_of hI) h.2 (Nat.le_refl _) (Nat.le_refl _)) (fr_B hI)⟩
      · exact ⟨_, hd_5_3, K _ _ (cl_X h (zA_of hI) h.2 (Nat.le_refl _) (Nat.le_refl _)) (fr_B hI)⟩
      ))
    · exact sp_147_64_p81 x0 x1 x2 (by omega) (by omega) (zB_of h.1) e (i_01 hb0).1 (i_01 hb0).2 (fun v S' r' C' Z' N' s1 s2 s3 s4 hI _ => zi_n ⟨zG_T hI, K _ _ (cl_put (cl_A h (zA_of hI) (by rw [s1 64 11 (by decide)]; exact h.2) s2 s3)) (fr_B hI)⟩) (fun x S' hx hI => zi_x (by
      rcases hx with rfl | rfl
      · exact ⟨_, hd_5_2, K _ _ (cl_X h (zA_of hI) h.2 (Nat.le_refl _) (Nat.le_refl _)) (fr_B hI)⟩
      · exact ⟨_, hd_5_3, K _ _ (cl_X h (zA_of hI) h.2 (Nat.le_refl _) (Nat.le_refl _)) (fr_B hI)⟩
      ))
    · exact sp_147_64_p82 x0 x1 x2 (by omega) (by omega) (zB_of h.1) e (i_01 hb0).1 (i_01 hb0).2 (fun v S' r' C' Z' N' s1 s2 s3 s4 hI _ => zi_n ⟨zG_T hI, K _ _ (cl_put (cl_A h (zA_of hI) (by rw [s1 64 11 (by decide)]; exact h.2) s2 s3)) (fr_B hI)⟩) (fun x S' hx hI => zi_x (by
      rcases hx with rfl | rfl
      · exact ⟨_, hd_5_2, K _ _ (cl_X h (zA_of hI) h.2 (Nat.le_refl _) (Nat.le_refl _)) (fr_B hI)⟩
      · exact ⟨_, hd_5_3, K _ _ (cl_X h (zA_of hI) h.2 (Nat.le_refl _) (Nat.le_refl _)) (fr_B hI)⟩
      ))
    · exact sp_147_64_p84 x0 x1 x2 (by omega) (by omega) (zB_of h.1) e (i_01 hb0).1 (i_01 hb0).2 (fun v S' r' C' Z' N' s1 s2 s3 s4 hI _ => zi_n ⟨zG_T hI, K _ _ (cl_put (cl_A h (zA_of hI) (by rw [s1 64 11 (by decide)]; exact h.2) s2 s3)) (fr_B hI)⟩) (fun x S' hx hI => zi_x (by
      rcases hx with rfl | rfl
      · exact ⟨_, hd_5_2, K _ _ (cl_X h (zA_of hI) h.2 (Nat.le_refl _) (Nat.le_refl _)) (fr_B hI)⟩
      · exact ⟨_, hd_5_3, K _ _ (cl_X h (zA_of hI) h.2 (Nat.le_refl _) (Nat.le_refl _)) (fr_B hI)⟩
      ))
    · exact sp_147_64_p87 x0 x1 x2 (by omega) (by omega) (zB_of h.1) e (i_01 hb0).1 (i_01 hb0).2 (fun v S' r' C' Z' N' s1 s2 s3 s4 hI _ => zi_n ⟨zG_T hI, K _ _ (cl_put (cl_A h (zA_of hI) (by rw [s1 64 11 (by decide)]; exact h.2) s2 s3)) (fr_B hI)⟩) (fun x S' hx hI => zi_x (by
      rcases hx with rfl | rfl
      · exact ⟨_, hd_5_2, K _ _ (cl_X h (zA_of hI) h.2 (Nat.le_refl _) (Nat.le_refl _)) (fr_B hI)⟩
      · exact ⟨_, hd_5_3, K _ _ (cl_X h (zA_of hI) h.2 (Nat.le_refl _) (Nat.le_refl _)) (fr_B hI)⟩
      ))
    · exact sp_147_64_p91 x0 x1 x2 (by omega) (by omega) (zB_of h.1) e (i_01 hb0).1 (i_01 hb0).2 (fun v S' r' C' Z' N' s1 s2 s3 s4 hI _ => zi_n ⟨zG_T hI, K _ _ (cl_put (cl_A h (zA_of hI) (by rw [s1 64 11 (by decide)]; exact h.2) s2 s3)) (fr_B hI)⟩) (fun x S' hx hI => zi_x (by
      rcases hx with rfl | rfl
      · exact ⟨_, hd_5_2, K _ _ (cl_X h (zA_of hI) h.2 (Nat.le_refl _) (Nat.le_refl _)) (fr_B hI)⟩
      · exact ⟨_, hd_5_3, K _ _ (cl_X h (zA_of hI) h.2 (Nat.le_refl _) (Nat.le_refl _)) (fr_B hI)⟩
      ))
theorem gf_6 {X : Nat × (Nat → Int32)} {d w : Nat} {S : ma_S} {Q : Option ma_V → ma_S → Prop} (x0 : Int32) (x1 : Int32) (x2 : Int32) (hd : 12 ≤ d) (hw : 469 ≤ w) (hS : zT S) (h : ma_wp X (d - 1) (w - 24) 148 0 [(0, .inr (.inr (some 64))), (1, .inl x0), (2, .inl x1), (3, .inl x2)] [] S (zi (fun v2 S1 => zT S1 ∧ (Q (some (.inl (0 : Int32))) (ma_put S1 125 0 (.inr (.inl (v2.toInt64)))))) (fun x S1 => ∃ c, ma_hd method_8_code 6 x 7 [(0, 12, 15, 25), (0, 12, 19, 38), (0, 12, 23, 13), (0, 12, 27, 40)] = some c ∧ Q (some (.inl c)) S1))) : ma_fp X 6 d w 0 [(0, .inr (.inr (some 64))), (1, .inl x0), (2, .inl x1), (3, .inl x2), (4, .inr (.inr (some 125)))] [] S Q := by
  refine zf_push fm_6 dF6_0 (v := .inr (.inr (some 125))) rfl ?_
  refine zf_push fm_6 dF6_2 (v := .inl (0 : Int32)) rfl ?_
  refine zf_push fm_6 dF6_3 (v := .inr (.inr (some 64))) rfl ?_
  refine zf_push fm_6 dF6_4 (v := .inl x0) rfl ?_
  refine zf_push fm_6 dF6_5 (v := .inl x1) rfl ?_
  refine zf_push fm_6 dF6_6 (v := .inl x2) rfl ?_
  refine zf_cv fm_6 dF6_7 v_14_34_11 hm_148 [.inl x2, .inl x1, .inl x0] [.inl (0 : Int32), .inr (.inr (some 125))] rfl (zT_rt hS s_64 rfl) ⟨by omega, by omega⟩ rfl (zw_mono h (zi_go ?_ ?_))
  · intro v2 S1 hv
    obtain ⟨hS1, h⟩ := hv
    refine zf_stk fm_6 dF6_10 (st' := [.inr (.inl (v2.toInt64)), .inl (0 : Int32), .inr (.inr (some 125))]) rfl rfl ?_
    refine zf_one fm_6 dF6_11 (oo_las (zT_is hS1 s_125) (zT_h hS1 s_125) (a := 0) rfl ⟨by decide, by decide⟩) ?_
    refine zf_goto fm_6 dF6_12 (t := 31) rfl ?_
    refine zf_push fm_6 dF6_31 (v := .inl (0 : Int32)) rfl ?_
    exact zf_iret fm_6 dF6_32 h
  · intro x S9 hx
    exact ⟨⟨by decide, rfl⟩, hx⟩
theorem fw_6 {X : Nat × (Nat → Int32)} {d w : Nat} {S : ma_S} {Q : Option ma_V → ma_S → Prop} (x0 : Int32) (x1 : Int32) (x2 : Int32) (hd : 12 ≤ d) (hw : 469 ≤ w) (h : zHs S)  (K : ∀ v S', zCl S S' → mI S' 64 1 = mI S 64 1 → Q (some (.inl v)) S') : ma_fp X 6 d w 0 [(0, .inr (.inr (some 64))), (1, .inl x0), (2, .inl x1), (3, .inl x2), (4, .inr (.inr (some 125)))] [] S Q := by
  refine gf_6 x0 x1 x2 hd hw h.1.1 ?_
  exact sp_148_64 x0 x1 x2 (by omega) (by omega) (zB_of h.1)  (fun v S' hI _ => zi_n ⟨zG_T hI, K _ _ (cl_put (cl_A h (zA_of hI) h.2 (Nat.le_succ _) (Nat.le_add_right _ _))) (fr_B hI)⟩) (fun x S' hx hI => zi_x (by
      rcases hx with rfl | rfl | rfl | rfl
      · exact ⟨_, hd_6_1, K _ _ (cl_X h (zA_of hI) h.2 (Nat.le_refl _) (Nat.le_refl _)) (fr_B hI)⟩
      · exact ⟨_, hd_6_3, K _ _ (cl_X h (zA_of hI) h.2 (Nat.le_refl _) (Nat.le_refl _)) (fr_B hI)⟩
      · exact ⟨_, hd_6_4, K _ _ (cl_X h (zA_of hI) h.2 (Nat.le_refl _) (Nat.le_refl _)) (fr_B hI)⟩
      · exact ⟨_, hd_6_5, K _ _ (cl_X h (zA_of hI) h.2 (Nat.le_refl _) (Nat.le_refl _)) (fr_B hI)⟩
      ))
theorem gf_7 {X : Nat × (Nat → Int32)} {d w : Nat} {S : ma_S} {Q : Option ma_V → ma_S → Prop} (x0 : Int32) (x1 : Int32) (x2 : Int32) (hd : 12 ≤ d) (hw : 469 ≤ w) (hS : zT S) (h : ma_wp X (d - 1) (w - 27) 150 0 [(0, .inr (.inr (some 64))), (1, .inl x0), (2, .inl x1), (3, .inl x2)] [] S (zi (fun v2 S1 => zT S1 ∧ (Q (some (.inl (0 : Int32))) (ma_put S1 125 0 (.inr (.inl (v2.toInt64)))))) (fun x S1 => ∃ c, ma_hd method_9_code 6 x 7 [(0, 12, 15, 25), (0, 12, 19, 38), (0, 12, 23, 13), (0, 12, 27, 40)] = some c ∧ Q (some (.inl c)) S1))) : ma_fp X 7 d w 0 [(0, .inr (.inr (some 64))), (1, .inl x0), (2, .inl x1), (3, .inl x2), (4, .inr (.inr (some 125)))] [] S Q := by
  refine zf_push fm_7 dF7_0 (v := .inr (.inr (some 125))) rfl ?_
  refine zf_push fm_7 dF7_2 (v := .inl (0 : Int32)) rfl ?_
  refine zf_push fm_7 dF7_3 (v := .inr (.inr (some 64))) rfl ?_
  refine zf_push fm_7 dF7_4 (v := .inl x0) rfl ?_
  refine zf_push fm_7 dF7_5 (v := .inl x1) rfl ?_
  refine zf_push fm_7 dF7_6 (v := .inl x2) rfl ?_
  refine zf_cv fm_7 dF7_7 v_14_42_11 hm_150 [.inl x2, .inl x1, .inl x0] [.inl (0 : Int32), .inr (.inr (some 125))] rfl (zT_rt hS s_64 rfl) ⟨by omega, by omega⟩ rfl (zw_mono h (zi_go ?_ ?_))
  · intro v2 S1 hv
    obtain ⟨hS1, h⟩ := hv
    refine zf_stk fm_7 dF7_10 (st' := [.inr (.inl (v2.toInt64)), .inl (0 : Int32), .inr (.inr (some 125))]) rfl rfl ?_
    refine zf_one fm_7 dF7_11 (oo_las (zT_is hS1 s_125) (zT_h hS1 s_125) (a := 0) rfl ⟨by decide, by decide⟩) ?_
    refine zf_goto fm_7 dF7_12 (t := 31) rfl ?_
    refine zf_push fm_7 dF7_31 (v := .inl (0 : Int32)) rfl ?_
    exact zf_iret fm_7 dF7_32 h
  · intro x S9 hx
    exact ⟨⟨by decide, rfl⟩, hx⟩
theorem fw_7 {X : Nat × (Nat → Int32)} {d w : Nat} {S : ma_S} {Q : Option ma_V → ma_S → Prop} (x0 : Int32) (x1 : Int32) (x2 : Int32) (hd : 12 ≤ d) (hw : 469 ≤ w) (h : zHs S)  (K : ∀ v S', zCl S S' → mI S' 64 1 = mI S 64 1 → Q (some (.inl v)) S') : ma_fp X 7 d w 0 [(0, .inr (.inr (some 64))), (1, .inl x0), (2, .inl x1), (3, .inl x2), (4, .inr (.inr (some 125)))] [] S Q := by
  refine gf_7 x0 x1 x2 hd hw h.1.1 ?_
  rcases h.2 with e | ⟨p, hp, e⟩
  · exact sp_150_64_p0 x0 x1 x2 (by omega) (by omega) (zB_of h.1) e (fun v S' hI _ => zi_n ⟨zG_T hI, K _ _ (cl_put (cl_A h (zA_of hI) h.2 (Nat.le_succ _) (Nat.le_add_right _ _))) (fr_B hI)⟩) (fun x S' hx hI => zi_x (by
      rcases hx with rfl | rfl | rfl | rfl
      · exact ⟨_, hd_7_1, K _ _ (cl_X h (zA_of hI) h.2 (Nat.le_refl _) (Nat.le_refl _)) (fr_B hI)⟩
      · exact ⟨_, hd_7_3, K _ _ (cl_X h (zA_of hI) h.2 (Nat.le_refl _) (Nat.le_refl _)) (fr_B hI)⟩
      · exact ⟨_, hd_7_4, K _ _ (cl_X h (zA_of hI) h.2 (Nat.le_refl _) (Nat.le_refl _)) (fr_B hI)⟩
      · exact ⟨_, hd_7_5, K _ _ (cl_X h (zA_of hI) h.2 (Nat.le_refl _) (Nat.le_refl _)) (fr_B hI)⟩
      ))
  · simp only [zcl7, List.mem_cons, List.not_mem_nil, or_false] at hp
    rcases hp with rfl | rfl | rfl | rfl | rfl | rfl | rfl
    · exact sp_150_64_p79 x0 x1 x2 (by omega) (by omega) (zB_of h.1) e (fun v S' hI _ => zi_n ⟨zG_T hI, K _ _ (cl_put (cl_A h (zA_of hI) h.2 (Nat.le_succ _) (Nat.le_add_right _ _))) (fr_B hI)⟩) (fun x S' hx hI => zi_x (by
      rcases hx with rfl | rfl | rfl | rfl
      · exact ⟨_, hd_7_1, K _ _ (cl_X h (zA_of hI) h.2 (Nat.le_refl _) (Nat.le_refl _)) (fr_B hI)⟩
      · exact ⟨_, hd_7_3, K _ _ (cl_X h (zA_of hI) h.2 (Nat.le_refl _) (Nat.le_refl _)) (fr_B hI)⟩
      · exact ⟨_, hd_7_4, K _ _ (cl_X h (zA_of hI) h.2 (Nat.le_refl _) (Nat.le_refl _)) (fr_B hI)⟩
      · exact ⟨_, hd_7_5, K _ _ (cl_X h (zA_of hI) h.2 (Nat.le_refl _) (Nat.le_refl _)) (fr_B hI)⟩
      ))
    · exact sp_150_64_p80 x0 x1 x2 (by omega) (by omega) (zB_of h.1) e (fun v S' hI _ => zi_n ⟨zG_T hI, K _ _ (cl_put (cl_A h (zA_of hI) h.2 (Nat.le_succ _) (Nat.le_add_right _ _))) (fr_B hI)⟩) (fun x S' hx hI => zi_x (by
      rcases hx with rfl | rfl | rfl | rfl
      · exact ⟨_, hd_7_1, K _ _ (cl_X h (zA_of hI) h.2 (Nat.le_refl _) (Nat.le_refl _)) (fr_B hI)⟩
      · exact ⟨_, hd_7_3, K _ _ (cl_X h (zA_of hI) h.2 (Nat.le_refl _) (Nat.le_refl _)) (fr_B hI)⟩
      · exact ⟨_, hd_7_4, K _ _ (cl_X h (zA_of hI) h.2 (Nat.le_refl _) (Nat.le_refl _)) (fr_B hI)⟩
      · exact ⟨_, hd_7_5, K _ _ (cl_X h (zA_of hI) h.2 (Nat.le_refl _) (Nat.le_refl _)) (fr_B hI)⟩
      ))
    · exact sp_150_64_p81 x0 x1 x2 (by omega) (by omega) (zB_of h.1) e (fun v S' hI _ => zi_n ⟨zG_T hI, K _ _ (cl_put (cl_A h (zA_of hI) h.2 (Nat.le_succ _) (Nat.le_add_right _ _))) (fr_B hI)⟩) (fun x S' hx hI => zi_x (by
      rcases hx with rfl | rfl | rfl | rfl
      · exact ⟨_, hd_7_1, K _ _ (cl_X h (zA_of hI) h.2 (Nat.le_refl _) (Nat.le_refl _)) (fr_B hI)⟩
      · exact ⟨_, hd_7_3, K _ _ (cl_X h (zA_of hI) h.2 (Nat.le_refl _) (Nat.le_refl _)) (fr_B hI)⟩
      · exact ⟨_, hd_7_4, K _ _ (cl_X h (zA_of hI) h.2 (Nat.le_refl _) (Nat.le_refl _)) (fr_B hI)⟩
      · exact ⟨_, hd_7_5, K _ _ (cl_X h (zA_of hI) h.2 (Nat.le_refl _) (Nat.le_refl _)) (fr_B hI)⟩
      ))
    · exact sp_150_64_p82 x0 x1 x2 (by omega) (by omega) (zB_of h.1) e (fun v S' hI _ => zi_n ⟨zG_T hI, K _ _ (cl_put (cl_A h (zA_of hI) h.2 (Nat.le_succ _) (Nat.le_add_right _ _))) (fr_B hI)⟩) (fun x S' hx hI => zi_x (by
      rcases hx with rfl | rfl | rfl | rfl
      · exact ⟨_, hd_7_1, K _ _ (cl_X h (zA_of hI) h.2 (Nat.le_refl _) (Nat.le_refl _)) (fr_B hI)⟩
      · exact ⟨_, hd_7_3, K _ _ (cl_X h (zA_of hI) h.2 (Nat.le_refl _) (Nat.le_refl _)) (fr_B hI)⟩
      · exact ⟨_, hd_7_4, K _ _ (cl_X h (zA_of hI) h.2 (Nat.le_refl _) (Nat.le_refl _)) (fr_B hI)⟩
      · exact ⟨_, hd_7_5, K _ _ (cl_X h (zA_of hI) h.2 (Nat.le_refl _) (Nat.le_refl _)) (fr_B hI)⟩
      ))
    · exact sp_150_64_p84 x0 x1 x2 (by omega) (by omega) (zB_of h.1) e (fun v S' hI _ => zi_n ⟨zG_T hI, K _ _ (cl_put (cl_A h (zA_of hI) h.2 (Nat.le_succ _) (Nat.le_add_right _ _))) (fr_B hI)⟩) (fun x S' hx hI => zi_x (by
      rcases hx with rfl | rfl | rfl | rfl
      · exact ⟨_, hd_7_1, K _ _ (cl_X h (zA_of hI) h.2 (Nat.le_refl _) (Nat.le_refl _)) (fr_B hI)⟩
      · exact ⟨_, hd_7_3, K _ _ (cl_X h (zA_of hI) h.2 (Nat.le_refl _) (Nat.le_refl _)) (fr_B hI)⟩
      · exact ⟨_, hd_7_4, K _ _ (cl_X h (zA_of hI) h.2 (Nat.le_refl _) (Nat.le_refl _)) (fr_B hI)⟩
      · exact ⟨_, hd_7_5, K _ _ (cl_X h (zA_of hI) h.2 (Nat.le_refl _) (Nat.le_refl _)) (fr_B hI)⟩
      ))
    · exact sp_150_64_p87 x0 x1 x2 (by omega) (by omega) (zB_of h.1) e (fun v S' hI _ => zi_n ⟨zG_T hI, K _ _ (cl_put (cl_A h (zA_of hI) h.2 (Nat.le_succ _) (Nat.le_add_right _ _))) (fr_B hI)⟩) (fun x S' hx hI => zi_x (by
      rcases hx with rfl | rfl | rfl | rfl
      · exact ⟨_, hd_7_1, K _ _ (cl_X h (zA_of hI) h.2 (Nat.le_refl _) (Nat.le_refl _)) (fr_B hI)⟩
      · exact ⟨_, hd_7_3, K _ _ (cl_X h (zA_of hI) h.2 (Nat.le_refl _) (Nat.le_refl _)) (fr_B hI)⟩
      · exact ⟨_, hd_7_4, K _ _ (cl_X h (zA_of hI) h.2 (Nat.le_refl _) (Nat.le_refl _)) (fr_B hI)⟩
      · exact ⟨_, hd_7_5, K _ _ (cl_X h (zA_of hI) h.2 (Nat.le_refl _) (Nat.le_refl _)) (fr_B hI)⟩
      ))
    · exact sp_150_64_p91 x0 x1 x2 (by omega) (by omega) (zB_of h.1) e (fun v S' hI _ => zi_n ⟨zG_T hI, K _ _ (cl_put (cl_A h (zA_of hI) h.2 (Nat.le_succ _) (Nat.le_add_right _ _))) (fr_B hI)⟩) (fun x S' hx hI => zi_x (by
      rcases hx with rfl | rfl | rfl | rfl
      · exact ⟨_, hd_7_1, K _ _ (cl_X h (zA_of hI) h.2 (Nat.le_refl _) (Nat.le_refl _)) (fr_B hI)⟩
      · exact ⟨_, hd_7_3, K _ _ (cl_X h (zA_of hI) h.2 (Nat.le_refl _) (Nat.le_refl _)) (fr_B hI)⟩
      · exact ⟨_, hd_7_4, K _ _ (cl_X h (zA_of hI) h.2 (Nat.le_refl _) (Nat.le_refl _)) (fr_B hI)⟩
      · exact ⟨_, hd_7_5, K _ _ (cl_X h (zA_of hI) h.2 (Nat.le_refl _) (Nat.le_refl _)) (fr_B hI)⟩
      ))
theorem gf_8 {X : Nat × (Nat → Int32)} {d w : Nat} {S : ma_S} {Q : Option ma_V → ma_S → Prop} (x0 : Int32) (x1 : Int32) (hd : 12 ≤ d) (hw : 470 ≤ w) (hS : zT S) (h : ma_wp X (d - 1) (w - 23) 152 0 [(0, .inr (.inr (some 64))), (1, .inl x0), (2, .inl x1)] [] S (zi (fun v2 S1 => zT S1 ∧ (Q (some (.inl (0 : Int32))) (ma_put S1 125 0 (.inr (.inl (v2.toInt64)))))) (fun x S1 => ∃ c, ma_hd method_10_code 5 x 5 [(0, 10, 13, 25), (0, 10, 17, 38), (0, 10, 21, 13)] = some c ∧ Q (some (.inl c)) S1))) : ma_fp X 8 d w 0 [(0, .inr (.inr (some 64))), (1, .inl x0), (2, .inl x1), (3, .inr (.inr (some 125)))] [] S Q := by
  refine zf_push fm_8 dF8_0 (v := .inr (.inr (some 125))) rfl ?_
  refine zf_push fm_8 dF8_1 (v := .inl (0 : Int32)) rfl ?_
  refine zf_push fm_8 dF8_2 (v := .inr (.inr (some 64))) rfl ?_
  refine zf_push fm_8 dF8_3 (v := .inl x0) rfl ?_
  refine zf_push fm_8 dF8_4 (v := .inl x1) rfl ?_
  refine zf_cv fm_8 dF8_5 v_14_45_11 hm_152 [.inl x1, .inl x0] [.inl (0 : Int32), .inr (.inr (some 125))] rfl (zT_rt hS s_64 rfl) ⟨by omega, by omega⟩ rfl (zw_mono h (zi_go ?_ ?_))
  · intro v2 S1 hv
    obtain ⟨hS1, h⟩ := hv
    refine zf_stk fm_8 dF8_8 (st' := [.inr (.inl (v2.toInt64)), .inl (0 : Int32), .inr (.inr (some 125))]) rfl rfl ?_
    refine zf_one fm_8 dF8_9 (oo_las (zT_is hS1 s_125) (zT_h hS1 s_125) (a := 0) rfl ⟨by decide, by decide⟩) ?_
    refine zf_goto fm_8 dF8_10 (t := 25) rfl ?_
    refine zf_push fm_8 dF8_25 (v := .inl (0 : Int32)) rfl ?_
    exact zf_iret fm_8 dF8_26 h
  · intro x S9 hx
    exact ⟨⟨by decide, rfl⟩, hx⟩
theorem fw_8 {X : Nat × (Nat → Int32)} {d w : Nat} {S : ma_S} {Q : Option ma_V → ma_S → Prop} (x0 : Int32) (x1 : Int32) (hd : 12 ≤ d) (hw : 470 ≤ w) (h : zHs S)  (K : ∀ v S', zCl S S' → mI S' 64 1 = mI S 64 1 → Q (some (.inl v)) S') : ma_fp X 8 d w 0 [(0, .inr (.inr (some 64))), (1, .inl x0), (2, .inl x1), (3, .inr (.inr (some 125)))] [] S Q := by
  refine gf_8 x0 x1 hd hw h.1.1 ?_
  exact sp_152_64 x0 x1 (by omega) (by omega) (zB_of h.1)  (fun v S' hI _ => zi_n ⟨zG_T hI, K _ _ (cl_put (cl_A h (zA_of hI) h.2 (Nat.le_succ _) (Nat.le_add_right _ _))) (fr_B hI)⟩) (fun x S' hx hI => zi_x (by
      rcases hx with rfl | rfl | rfl
      · exact ⟨_, hd_8_1, K _ _ (cl_X h (zA_of hI) h.2 (Nat.le_refl _) (Nat.le_refl _)) (fr_B hI)⟩
      · exact ⟨_, hd_8_3, K _ _ (cl_X h (zA_of hI) h.2 (Nat.le_refl _) (Nat.le_refl _)) (fr_B hI)⟩
      · exact ⟨_, hd_8_4, K _ _ (cl_X h (zA_of hI) h.2 (Nat.le_refl _) (Nat.le_refl _)) (fr_B hI)⟩
      ))
theorem gf_9 {X : Nat × (Nat → Int32)} {d w : Nat} {S : ma_S} {Q : Option ma_V → ma_S → Prop} (x0 : Int32) (x1 : Int32) (hd : 12 ≤ d) (hw : 470 ≤ w) (hS : zT S) (h : ma_wp X (d - 1) (w - 24) 153 0 [(0, .inr (.inr (some 64))), (1, .inl x0), (2, .inl x1)] [] S (zi (fun v2 S1 => zT S1 ∧ (Q (some (.inl (0 : Int32))) (ma_put S1 125 0 (.inr (.inl (v2.toInt64)))))) (fun x S1 => ∃ c, ma_hd method_11_code 5 x 5 [(0, 10, 13, 19), (0, 10, 17, 25), (0, 10, 21, 38)] = some c ∧ Q (some (.inl c)) S1))) : ma_fp X 9 d w 0 [(0, .inr (.inr (some 64))), (1, .inl x0), (2, .inl x1), (3, .inr (.inr (some 125)))] [] S Q := by
  refine zf_push fm_9 dF9_0 (v := .inr (.inr (some 125))) rfl ?_
  refine zf_push fm_9 dF9_1 (v := .inl (0 : Int32)) rfl ?_
  refine zf_push fm_9 dF9_2 (v := .inr (.inr (some 64))) rfl ?_
  refine zf_push fm_9 dF9_3 (v := .inl x0) rfl ?_
  refine zf_push fm_9 dF9_4 (v := .inl x1) rfl ?_
  refine zf_cv fm_9 dF9_5 v_14_48_11 hm_153 [.inl x1, .inl x0] [.inl (0 : Int32), .inr (.inr (some 125))] rfl (zT_rt hS s_64 rfl) ⟨by omega, by omega⟩ rfl (zw_mono h (zi_go ?_ ?_))
  · intro v2 S1 hv
    obtain ⟨hS1, h⟩ := hv
    refine zf_stk fm_9 dF9_8 (st' := [.inr (.inl (v2.toInt64)), .inl (0 : Int32), .inr (.inr (some 125))]) rfl rfl ?_
    refine zf_one fm_9 dF9_9 (oo_las (zT_is hS1 s_125) (zT_h hS1 s_125) (a := 0) rfl ⟨by decide, by decide⟩) ?_
    refine zf_goto fm_9 dF9_10 (t := 25) rfl ?_
    refine zf_push fm_9 dF9_25 (v := .inl (0 : Int32)) rfl ?_
    exact zf_iret fm_9 dF9_26 h
  · intro x S9 hx
    exact ⟨⟨by decide, rfl⟩, hx⟩
theorem fw_9 {X : Nat × (Nat → Int32)} {d w : Nat} {S : ma_S} {Q : Option ma_V → ma_S → Prop} (x0 : Int32) (x1 : Int32) (hd : 12 ≤ d) (hw : 470 ≤ w) (h : zHs S)  (K : ∀ v S', zCl S S' → mI S' 64 1 = mI S 64 1 → Q (some (.inl v)) S') : ma_fp X 9 d w 0 [(0, .inr (.inr (some 64))), (1, .inl x0), (2, .inl x1), (3, .inr (.inr (some 125)))] [] S Q := by
  refine gf_9 x0 x1 hd hw h.1.1 ?_
  rcases h.2 with e | ⟨p, hp, e⟩
  · exact sp_153_64_p0 x0 x1 (by omega) (by omega) (zB_of h.1) e (fun v S' hI _ => zi_n ⟨zG_T hI, K _ _ (cl_put (cl_A h (zA_of hI) h.2 (Nat.le_succ _) (Nat.le_add_right _ _))) (fr_B hI)⟩) (fun x S' hx hI => zi_x (by
      rcases hx with rfl | rfl | rfl
      · exact ⟨_, hd_9_2, K _ _ (cl_X h (zA_of hI) h.2 (Nat.le_refl _) (Nat.le_refl _)) (fr_B hI)⟩
      · exact ⟨_, hd_9_3, K _ _ (cl_X h (zA_of hI) h.2 (Nat.le_refl _) (Nat.le_refl _)) (fr_B hI)⟩
      · exact ⟨_, hd_9_4, K _ _ (cl_X h (zA_of hI) h.2 (Nat.le_refl _) (Nat.le_refl _)) (fr_B hI)⟩
      ))
  · simp only [zcl7, List.mem_cons, List.not_mem_nil, or_false] at hp
    rcases hp with rfl | rfl | rfl | rfl | rfl | rfl | rfl
    · exact sp_153_64_p79 x0 x1 (by omega) (by omega) (zB_of h.1) e (fun v S' hI _ => zi_n ⟨zG_T hI, K _ _ (cl_put (cl_A h (zA_of hI) h.2 (Nat.le_succ _) (Nat.le_add_right _ _))) (fr_B hI)⟩) (fun x S' hx hI => zi_x (by
      rcases hx with rfl | rfl | rfl
      · exact ⟨_, hd_9_2, K _ _ (cl_X h (zA_of hI) h.2 (Nat.le_refl _) (Nat.le_refl _)) (fr_B hI)⟩
      · exact ⟨_, hd_9_3, K _ _ (cl_X h (zA_of hI) h.2 (Nat.le_refl _) (Nat.le_refl _)) (fr_B hI)⟩
      · exact ⟨_, hd_9_4, K _ _ (cl_X h (zA_of hI) h.2 (Nat.le_refl _) (Nat.le_refl _)) (fr_B hI)⟩
      ))
    · exact sp_153_64_p80 x0 x1 (by omega) (by omega) (zB_of h.1) e (fun v S' hI _ => zi_n ⟨zG_T hI, K _ _ (cl_put (cl_A h (zA_of hI) h.2 (Nat.le_succ _) (Nat.le_add_right _ _))) (fr_B hI)⟩) (fun x S' hx hI => zi_x (by
      rcases hx with rfl | rfl | rfl
      · exact ⟨_, hd_9_2, K _ _ (cl_X h (zA_of hI) h.2 (Nat.le_refl _) (Nat.le_refl _)) (fr_B hI)⟩
      · exact ⟨_, hd_9_3, K _ _ (cl_X h (zA_of hI) h.2 (Nat.le_refl _) (Nat.le_refl _)) (fr_B hI)⟩
      · exact ⟨_, hd_9_4, K _ _ (cl_X h (zA_of hI) h.2 (Nat.le_refl _) (Nat.le_refl _)) (fr_B hI)⟩
      ))
    · exact sp_153_64_p81 x0 x1 (by omega) (by omega) (zB_of h.1) e (fun v S' hI _ => zi_n ⟨zG_T hI, K _ _ (cl_put (cl_A h (zA_of hI) h.2 (Nat.le_succ _) (Nat.le_add_right _ _))) (fr_B hI)⟩) (fun x S' hx hI => zi_x (by
      rcases hx with rfl | rfl | rfl
      · exact ⟨_, hd_9_2, K _ _ (cl_X h (zA_of hI) h.2 (Nat.le_refl _) (Nat.le_refl _)) (fr_B hI)⟩
      · exact ⟨_, hd_9_3, K _ _ (cl_X h (zA_of hI) h.2 (Nat.le_refl _) (Nat.le_refl _)) (fr_B hI)⟩
      · exact ⟨_, hd_9_4, K _ _ (cl_X h (zA_of hI) h.2 (Nat.le_refl _) (Nat.le_refl _)) (fr_B hI)⟩
      ))
    · exact sp_153_64_p82 x0 x1 (by omega) (by omega) (zB_of h.1) e (fun v S' hI _ => zi_n ⟨zG_T hI, K _ _ (cl_put (cl_A h (zA_of hI) h.2 (Nat.le_succ _) (Nat.le_add_right _ _))) (fr_B hI)⟩) (fun x S' hx hI => zi_x (by
      rcases hx with rfl | rfl | rfl
      · exact ⟨_, hd_9_2, K _ _ (cl_X h (zA_of hI) h.2 (Nat.le_refl _) (Nat.le_refl _)) (fr_B hI)⟩
      · exact ⟨_, hd_9_3, K _ _ (cl_X h (zA_of hI) h.2 (Nat.le_refl _) (Nat.le_refl _)) (fr_B hI)⟩
      · exact ⟨_, hd_9_4, K _ _ (cl_X h (zA_of hI) h.2 (Nat.le_refl _) (Nat.le_refl _)) (fr_B hI)⟩
      ))
    · exact sp_153_64_p84 x0 x1 (by omega) (by omega) (zB_of h.1) e (fun v S' hI _ => zi_n ⟨zG_T hI, K _ _ (cl_put (cl_A h (zA_of hI) h.2 (Nat.le_succ _) (Nat.le_add_right _ _))) (fr_B hI)⟩) (fun x S' hx hI => zi_x (by
      rcases hx with rfl | rfl | rfl
      · exact ⟨_, hd_9_2, K _ _ (cl_X h (zA_of hI) h.2 (Nat.le_refl _) (Nat.le_refl _)) (fr_B hI)⟩
      · exact ⟨_, hd_9_3, K _ _ (cl_X h (zA_of hI) h.2 (Nat.le_refl _) (Nat.le_refl _)) (fr_B hI)⟩
      · exact ⟨_, hd_9_4, K _ _ (cl_X h (zA_of hI) h.2 (Nat.le_refl _) (Nat.le_refl _)) (fr_B hI)⟩
      ))
    · exact sp_153_64_p87 x0 x1 (by omega) (by omega) (zB_of h.1) e (fun v S' hI _ => zi_n ⟨zG_T hI, K _ _ (cl_put (cl_A h (zA_of hI) h.2 (Nat.le_succ _) (Nat.le_add_right _ _))) (fr_B hI)⟩) (fun x S' hx hI => zi_x (by
      rcases hx with rfl | rfl | rfl
      · exact ⟨_, hd_9_2, K _ _ (cl_X h (zA_of hI) h.2 (Nat.le_refl _) (Nat.le_refl _)) (fr_B hI)⟩
      · exact ⟨_, hd_9_3, K _ _ (cl_X h (zA_of hI) h.2 (Nat.le_refl _) (Nat.le_refl _)) (fr_B hI)⟩
      · exact ⟨_, hd_9_4, K _ _ (cl_X h (zA_of hI) h.2 (Nat.le_refl _) (Nat.le_refl _)) (fr_B hI)⟩
      ))
    · exact sp_153_64_p91 x0 x1 (by omega) (by omega) (zB_of h.1) e (fun v S' hI _ => zi_n ⟨zG_T hI, K _ _ (cl_put (cl_A h (zA_of hI) h.2 (Nat.le_succ _) (Nat.le_add_right _ _))) (fr_B hI)⟩) (fun x S' hx hI => zi_x (by
      rcases hx with rfl | rfl | rfl
      · exact ⟨_, hd_9_2, K _ _ (cl_X h (zA_of hI) h.2 (Nat.le_refl _) (Nat.le_refl _)) (fr_B hI)⟩
      · exact ⟨_, hd_9_3, K _ _ (cl_X h (zA_of hI) h.2 (Nat.le_refl _) (Nat.le_refl _)) (fr_B hI)⟩
      · exact ⟨_, hd_9_4, K _ _ (cl_X h (zA_of hI) h.2 (Nat.le_refl _) (Nat.le_refl _)) (fr_B hI)⟩
      ))
theorem gf_10 {X : Nat × (Nat → Int32)} {d w : Nat} {S : ma_S} {Q : Option ma_V → ma_S → Prop} (x0 : Int32) (x1 : Int32) (hd : 12 ≤ d) (hw : 470 ≤ w) (hS : zT S) (h : ma_wp X (d - 1) (w - 24) 154 0 [(0, .inr (.inr (some 64))), (1, .inl x0), (2, .inl x1)] [] S (zi (fun v2 S1 => zT S1 ∧ (Q (some (.inl (0 : Int32))) (ma_put S1 125 0 (.inr (.inl (v2.toInt64)))))) (fun x S1 => ∃ c, ma_hd method_12_code 5 x 5 [(0, 10, 13, 19), (0, 10, 17, 25), (0, 10, 21, 38)] = some c ∧ Q (some (.inl c)) S1))) : ma_fp X 10 d w 0 [(0, .inr (.inr (some 64))), (1, .inl x0), (2, .inl x1), (3, .inr (.inr (some 125)))] [] S Q := by
  refine zf_push fm_10 dF10_0 (v := .inr (.inr (some 125))) rfl ?_
  refine zf_push fm_10 dF10_1 (v := .inl (0 : Int32)) rfl ?_
  refine zf_push fm_10 dF10_2 (v := .inr (.inr (some 64))) rfl ?_
  refine zf_push fm_10 dF10_3 (v := .inl x0) rfl ?_
  refine zf_push fm_10 dF10_4 (v := .inl x1) rfl ?_
  refine zf_cv fm_10 dF10_5 v_14_51_11 hm_154 [.inl x1, .inl x0] [.inl (0 : Int32), .inr (.inr (some 125))] rfl (zT_rt hS s_64 rfl) ⟨by omega, by omega⟩ rfl (zw_mono h (zi_go ?_ ?_))
  · intro v2 S1 hv
    obtain ⟨hS1, h⟩ := hv
    refine zf_stk fm_10 dF10_8 (st' := [.inr (.inl (v2.toInt64)), .inl (0 : Int32), .inr (.inr (some 125))]) rfl rfl ?_
    refine zf_one fm_10 dF10_9 (oo_las (zT_is hS1 s_125) (zT_h hS1 s_125) (a := 0) rfl ⟨by decide, by decide⟩) ?_
    refine zf_goto fm_10 dF10_10 (t := 25) rfl ?_
    refine zf_push fm_10 dF10_25 (v := .inl (0 : Int32)) rfl ?_
    exact zf_iret fm_10 dF10_26 h
  · intro x S9 hx
    exact ⟨⟨by decide, rfl⟩, hx⟩
theorem fw_10 {X : Nat × (Nat → Int32)} {d w : Nat} {S : ma_S} {Q : Option ma_V → ma_S → Prop} (x0 : Int32) (x1 : Int32) (hd : 12 ≤ d) (hw : 470 ≤ w) (h : zHs S)  (K : ∀ v S', zCl S S' → mI S' 64 1 = mI S 64 1 → Q (some (.inl v)) S') : ma_fp X 10 d w 0 [(0, .inr (.inr (some 64))), (1, .inl x0), (2, .inl x1), (3, .inr (.inr (some 125)))] [] S Q := by
  refine gf_10 x0 x1 hd hw h.1.1 ?_
  exact sp_154_64 x0 x1 (by omega) (by omega) (zB_of h.1)  (fun v S' hI _ => zi_n ⟨zG_T hI, K _ _ (cl_put (cl_A h (zA_of hI) h.2 (Nat.le_succ _) (Nat.le_add_right _ _))) (fr_B hI)⟩) (fun x S' hx hI => zi_x (by
      rcases hx with rfl | rfl | rfl
      · exact ⟨_, hd_10_2, K _ _ (cl_X h (zA_of hI) h.2 (Nat.le_refl _) (Nat.le_refl _)) (fr_B hI)⟩
      · exact ⟨_, hd_10_3, K _ _ (cl_X h (zA_of hI) h.2 (Nat.le_refl _) (Nat.le_refl _)) (fr_B hI)⟩
      · exact ⟨_, hd_10_4, K _ _ (cl_X h (zA_of hI) h.2 (Nat.le_refl _) (Nat.le_refl _)) (fr_B hI)⟩
      ))
theorem gf_11 {X : Nat × (Nat → Int32)} {d w : Nat} {S : ma_S} {Q : Option ma_V → ma_S → Prop} (x0 : Int32) (x1 : Int32) (hd : 12 ≤ d) (hw : 470 ≤ w) (hS : zT S) (h : ma_wp X (d - 1) (w - 24) 155 0 [(0, .inr (.inr (some 64))), (1, .inl x0), (2, .inl x1)] [] S (zi (fun v2 S1 => zT S1 ∧ (Q (some (.inl (0 : Int32))) (ma_put S1 125 0 (.inr (.inl (v2.toInt64)))))) (fun x S1 => ∃ c, ma_hd method_13_code 5 x 5 [(0, 10, 13, 19), (0, 10, 17, 25)] = some c ∧ Q (some (.inl c)) S1))) : ma_fp X 11 d w 0 [(0, .inr (.inr (some 64))), (1, .inl x0), (2, .inl x1), (3, .inr (.inr (some 125)))] [] S Q := by
  refine zf_push fm_11 dF11_0 (v := .inr (.inr (some 125))) rfl ?_
  refine zf_push fm_11 dF11_1 (v := .inl (0 : Int32)) rfl ?_
  refine zf_push fm_11 dF11_2 (v := .inr (.inr (some 64))) rfl ?_
  refine zf_push fm_11 dF11_3 (v := .inl x0) rfl ?_
  refine zf_push fm_11 dF11_4 (v := .inl x1) rfl ?_
  refine zf_cv fm_11 dF11_5 v_14_54_11 hm_155 [.inl x1, .inl x0] [.inl (0 : Int32), .inr (.inr (some 125))] rfl (zT_rt hS s_64 rfl) ⟨by omega, by omega⟩ rfl (zw_mono h (zi_go ?_ ?_))
  · intro v2 S1 hv
    obtain ⟨hS1, h⟩ := hv
    refine zf_stk fm_11 dF11_8 (st' := [.inr (.inl (v2.toInt64)), .inl (0 : Int32), .inr (.inr (some 125))]) rfl rfl ?_
    refine zf_one fm_11 dF11_9 (oo_las (zT_is hS1 s_125) (zT_h hS1 s_125) (a := 0) rfl ⟨by decide, by decide⟩) ?_
    refine zf_goto fm_11 dF11_10 (t := 21) rfl ?_
    refine zf_push fm_11 dF11_21 (v := .inl (0 : Int32)) rfl ?_
    exact zf_iret fm_11 dF11_22 h
  · intro x S9 hx
    exact ⟨⟨by decide, rfl⟩, hx⟩
theorem fw_11 {X : Nat × (Nat → Int32)} {d w : Nat} {S : ma_S} {Q : Option ma_V → ma_S → Prop} (x0 : Int32) (x1 : Int32) (hd : 12 ≤ d) (hw : 470 ≤ w) (h : zHs S)  (K : ∀ v S', zCl S S' → mI S' 64 1 = mI S 64 1 → Q (some (.inl v)) S') : ma_fp X 11 d w 0 [(0, .inr (.inr (some 64))), (1, .inl x0), (2, .inl x1), (3, .inr (.inr (some 125)))] [] S Q := by
  refine gf_11 x0 x1 hd hw h.1.1 ?_
  rcases h.2 with e | ⟨p, hp, e⟩
  · exact sp_155_64_p0 x0 x1 (by omega) (by omega) (zB_of h.1) e (fun v S' hI _ => zi_n ⟨zG_T hI, K _ _ (cl_put (cl_A h (zA_of hI) h.2 (Nat.le_succ _) (Nat.le_add_right _ _))) (fr_B hI)⟩) (fun x S' hx hI => zi_x (by
      rcases hx with rfl | rfl
      · exact ⟨_, hd_11_2, K _ _ (cl_X h (zA_of hI) h.2 (Nat.le_refl _) (Nat.le_refl _)) (fr_B hI)⟩
      · exact ⟨_, hd_11_3, K _ _ (cl_X h (zA_of hI) h.2 (Nat.le_refl _) (Nat.le_refl _)) (fr_B hI)⟩
      ))
  · simp only [zcl7, List.mem_cons, List.not_mem_nil, or_false] at hp
    rcases hp with rfl | rfl | rfl | rfl | rfl | rfl | rfl
    · exact sp_155_64_p79 x0 x1 (by omega) (by omega) (zB_of h.1) e (fun v S' hI _ => zi_n ⟨zG_T hI, K _ _ (cl_put (cl_A h (zA_of hI) h.2 (Nat.le_succ _) (Nat.le_add_right _ _))) (fr_B hI)⟩) (fun x S' hx hI => zi_x (by
      rcases hx with rfl | rfl
      · exact ⟨_, hd_11_2, K _ _ (cl_X h (zA_of hI) h.2 (Nat.le_refl _) (Nat.le_refl _)) (fr_B hI)⟩
      · exact ⟨_, hd_11_3, K _ _ (cl_X h (zA_of hI) h.2 (Nat.le_refl _) (Nat.le_refl _)) (fr_B hI)⟩
      ))
    · exact sp_155_64_p80 x0 x1 (by omega) (by omega) (zB_of h.1) e (fun v S' hI _ => zi_n ⟨zG_T hI, K _ _ (cl_put (cl_A h (zA_of hI) h.2 (Nat.le_succ _) (Nat.le_add_right _ _))) (fr_B hI)⟩) (fun x S' hx hI => zi_x (by
      rcases hx with rfl | rfl
      · exact ⟨_, hd_11_2, K _ _ (cl_X h (zA_of hI) h.2 (Nat.le_refl _) (Nat.le_refl _)) (fr_B hI)⟩
      · exact ⟨_, hd_11_3, K _ _ (cl_X h (zA_of hI) h.2 (Nat.le_refl _) (Nat.le_refl _)) (fr_B hI)⟩
      ))
    · exact sp_155_64_p81 x0 x1 (by omega) (by omega) (zB_of h.1) e (fun v S' hI _ => zi_n ⟨zG_T hI, K _ _ (cl_put (cl_A h (zA_of hI) h.2 (Nat.le_succ _) (Nat.le_add_right _ _))) (fr_B hI)⟩) (fun x S' hx hI => zi_x (by
      rcases hx with rfl | rfl
      · exact ⟨_, hd_11_2, K _ _ (cl_X h (zA_of hI) h.2 (Nat.le_refl _) (Nat.le_refl _)) (fr_B hI)⟩
      · exact ⟨_, hd_11_3, K _ _ (cl_X h (zA_of hI) h.2 (Nat.le_refl _) (Nat.le_refl _)) (fr_B hI)⟩
      ))
    · exact sp_155_64_p82 x0 x1 (by omega) (by omega) (zB_of h.1) e (fun v S' hI _ => zi_n ⟨zG_T hI, K _ _ (cl_put (cl_A h (zA_of hI) h.2 (Nat.le_succ _) (Nat.le_add_right _ _))) (fr_B hI)⟩) (fun x S' hx hI => zi_x (by
      rcases hx with rfl | rfl
      · exact ⟨_, hd_11_2, K _ _ (cl_X h (zA_of hI) h.2 (Nat.le_refl _) (Nat.le_refl _)) (fr_B hI)⟩
      · exact ⟨_, hd_11_3, K _ _ (cl_X h (zA_of hI) h.2 (Nat.le_refl _) (Nat.le_refl _)) (fr_B hI)⟩
      ))
    · exact sp_155_64_p84 x0 x1 (by omega) (by omega) (zB_of h.1) e (fun v S' hI _ => zi_n ⟨zG_T hI, K _ _ (cl_put (cl_A h (zA_of hI) h.2 (Nat.le_succ _) (Nat.le_add_right _ _))) (fr_B hI)⟩) (fun x S' hx hI => zi_x (by
      rcases hx with rfl | rfl
      · exact ⟨_, hd_11_2, K _ _ (cl_X h (zA_of hI) h.2 (Nat.le_refl _) (Nat.le_refl _)) (fr_B hI)⟩
      · exact ⟨_, hd_11_3, K _ _ (cl_X h (zA_of hI) h.2 (Nat.le_refl _) (Nat.le_refl _)) (fr_B hI)⟩
      ))
    · exact sp_155_64_p87 x0 x1 (by omega) (by omega) (zB_of h.1) e (fun v S' hI _ => zi_n ⟨zG_T hI, K _ _ (cl_put (cl_A h (zA_of hI) h.2 (Nat.le_succ _) (Nat.le_add_right _ _))) (fr_B hI)⟩) (fun x S' hx hI => zi_x (by
      rcases hx with rfl | rfl
      · exact ⟨_, hd_11_2, K _ _ (cl_X h (zA_of hI) h.2 (Nat.le_refl _) (Nat.le_refl _)) (fr_B hI)⟩
      · exact ⟨_, hd_11_3, K _ _ (cl_X h (zA_of hI) h.2 (Nat.le_refl _) (Nat.le_refl _)) (fr_B hI)⟩
      ))
    · exact sp_155_64_p91 x0 x1 (by omega) (by omega) (zB_of h.1) e (fun v S' hI _ => zi_n ⟨zG_T hI, K _ _ (cl_put (cl_A h (zA_of hI) h.2 (Nat.le_succ _) (Nat.le_add_right _ _))) (fr_B hI)⟩) (fun x S' hx hI => zi_x (by
      rcases hx with rfl | rfl
      · exact ⟨_, hd_11_2, K _ _ (cl_X h (zA_of hI) h.2 (Nat.le_refl _) (Nat.le_refl _)) (fr_B hI)⟩
      · exact ⟨_, hd_11_3, K _ _ (cl_X h (zA_of hI) h.2 (Nat.le_refl _) (Nat.le_refl _)) (fr_B hI)⟩
      ))
theorem gf_12 {X : Nat × (Nat → Int32)} {d w : Nat} {S : ma_S} {Q : Option ma_V → ma_S → Prop} (x0 : Int32) (x1 : Int32) (hd : 12 ≤ d) (hw : 470 ≤ w) (hS : zT S) (h : ma_wp X (d - 1) (w - 24) 156 0 [(0, .inr (.inr (some 64))), (1, .inl x0), (2, .inl x1)] [] S (zi (fun v2 S1 => zT S1 ∧ (Q (some (.inl (0 : Int32))) (ma_put S1 125 0 (.inr (.inl (v2.toInt64)))))) (fun x S1 => ∃ c, ma_hd method_14_code 5 x 5 [(0, 10, 13, 25), (0, 10, 17, 38), (0, 10, 21, 61)] = some c ∧ Q (some (.inl c)) S1))) : ma_fp X 12 d w 0 [(0, .inr (.inr (some 64))), (1, .inl x0), (2, .inl x1), (3, .inr (.inr (some 125)))] [] S Q := by
  refine zf_push fm_12 dF12_0 (v := .inr (.inr (some 125))) rfl ?_
  refine zf_push fm_12 dF12_1 (v := .inl (0 : Int32)) rfl ?_
  refine zf_push fm_12 dF12_2 (v := .inr (.inr (some 64))) rfl ?_
  refine zf_push fm_12 dF12_3 (v := .inl x0) rfl ?_
  refine zf_push fm_12 dF12_4 (v := .inl x1) rfl ?_
  refine zf_cv fm_12 dF12_5 v_14_57_11 hm_156 [.inl x1, .inl x0] [.inl (0 : Int32), .inr (.inr (some 125))] rfl (zT_rt hS s_64 rfl) ⟨by omega, by omega⟩ rfl (zw_mono h (zi_go ?_ ?_))
  · intro v2 S1 hv
    obtain ⟨hS1, h⟩ := hv
    refine zf_stk fm_12 dF12_8 (st' := [.inr (.inl (v2.toInt64)), .inl (0 : Int32), .inr (.inr (some 125))]) rfl rfl ?_
    refine zf_one fm_12 dF12_9 (oo_las (zT_is hS1 s_125) (zT_h hS1 s_125) (a := 0) rfl ⟨by decide, by decide⟩) ?_
    refine zf_goto fm_12 dF12_10 (t := 25) rfl ?_
    refine zf_push fm_12 dF12_25 (v := .inl (0 : Int32)) rfl ?_
    exact zf_iret fm_12 dF12_26 h
  · intro x S9 hx
    exact ⟨⟨by decide, rfl⟩, hx⟩
theorem fw_12 {X : Nat × (Nat → Int32)} {d w : Nat} {S : ma_S} {Q : Option ma_V → ma_S → Prop} (x0 : Int32) (x1 : Int32) (hd : 12 ≤ d) (hw : 470 ≤ w) (h : zHs S) (hb1 : x1 = 0 ∨ x1 = 1) (K : ∀ v S', zCl S S' → mI S' 64 1 = mI S 64 1 → Q (some (.inl v)) S') : ma_fp X 12 d w 0 [(0, .inr (.inr (some 64))), (1, .inl x0), (2, .inl x1), (3, .inr (.inr (some 125)))] [] S Q := by
  refine gf_12 x0 x1 hd hw h.1.1 ?_
  rcases h.2 with e | ⟨p, hp, e⟩
  · exact sp_156_64_p0 x0 x1 (by omega) (by omega) (zB_of h.1) e (i_01 hb1).1 (i_01 hb1).2 (fun v S' hI _ => zi_n ⟨zG_T hI, K _ _ (cl_put (cl_A h (zA_of hI) h.2 (Nat.le_succ _) (Nat.le_add_right _ _))) (fr_B hI)⟩) (fun x S' hx hI => zi_x (by
      rcases hx with rfl | rfl | rfl
      · exact ⟨_, hd_12_3, K _ _ (cl_X h (zA_of hI) h.2 (Nat.le_refl _) (Nat.le_refl _)) (fr_B hI)⟩
      · exact ⟨_, hd_12_4, K _ _ (cl_X h (zA_of hI) h.2 (Nat.le_refl _) (Nat.le_refl _)) (fr_B hI)⟩
      · exact ⟨_, hd_12_6, K _ _ (cl_X h (zA_of hI) h.2 (Nat.le_refl _) (Nat.le_refl _)) (fr_B hI)⟩
      ))
  · simp only [zcl7, List.mem_cons, List.not_mem_nil, or_false] at hp
    rcases hp with rfl | rfl | rfl | rfl | rfl | rfl | rfl
    · exact sp_156_64_p79 x0 x1 (by omega) (by omega) (zB_of h.1) e (i_01 hb1).1 (i_01 hb1).2 (fun v S' hI _ => zi_n ⟨zG_T hI, K _ _ (cl_put (cl_A h (zA_of hI) h.2 (Nat.le_succ _) (Nat.le_add_right _ _))) (fr_B hI)⟩) (fun x S' hx hI => zi_x (by
      rcases hx with rfl | rfl | rfl
      · exact ⟨_, hd_12_3, K _ _ (cl_X h (zA_of hI) h.2 (Nat.le_refl _) (Nat.le_refl _)) (fr_B hI)⟩
      · exact ⟨_, hd_12_4, K _ _ (cl_X h (zA_of hI) h.2 (Nat.le_refl _) (Nat.le_refl _)) (fr_B hI)⟩
      · exact ⟨_, hd_12_6, K _ _ (cl_X h (zA_of hI) h.2 (Nat.le_refl _) (Nat.le_refl _)) (fr_B hI)⟩
      ))
    · exact sp_156_64_p80 x0 x1 (by omega) (by omega) (zB_of h.1) e (i_01 hb1).1 (i_01 hb1).2 (fun v S' hI _ => zi_n ⟨zG_T hI, K _ _ (cl_put (cl_A h (zA_of hI) h.2 (Nat.le_succ _) (Nat.le_add_right _ _))) (fr_B hI)⟩) (fun x S' hx hI => zi_x (by
      rcases hx with rfl | rfl | rfl
      · exact ⟨_, hd_12_3, K _ _ (cl_X h (zA_of hI) h.2 (Nat.le_refl _) (Nat.le_refl _)) (fr_B hI)⟩
      · exact ⟨_, hd_12_4, K _ _ (cl_X h (zA_of hI) h.2 (Nat.le_refl _) (Nat.le_refl _)) (fr_B hI)⟩
      · exact ⟨_, hd_12_6, K _ _ (cl_X h (zA_of hI) h.2 (Nat.le_refl _) (Nat.le_refl _)) (fr_B hI)⟩
      ))
    · exact sp_156_64_p81 x0 x1 (by omega) (by omega) (zB_of h.1) e (i_01 hb1).1 (i_01 hb1).2 (fun v S' hI _ => zi_n ⟨zG_T hI, K _ _ (cl_put (cl_A h (zA_of hI) h.2 (Nat.le_succ _) (Nat.le_add_right _ _))) (fr_B hI)⟩) (fun x S' hx hI => zi_x (by
      rcases hx with rfl | rfl | rfl
      · exact ⟨_, hd_12_3, K _ _ (cl_X h (zA_of hI) h.2 (Nat.le_refl _) (Nat.le_refl _)) (fr_B hI)⟩
      · exact ⟨_, hd_12_4, K _ _ (cl_X h (zA_of hI) h.2 (Nat.le_refl _) (Nat.le_refl _)) (fr_B hI)⟩
      · exact ⟨_, hd_12_6, K _ _ (cl_X h (zA_of hI) h.2 (Nat.le_refl _) (Nat.le_refl _)) (fr_B hI)⟩
      ))
    · exact sp_156_64_p82 x0 x1 (by omega) (by omega) (zB_of h.1) e (i_01 hb1).1 (i_01 hb1).2 (fun v S' hI _ => zi_n ⟨zG_T hI, K _ _ (cl_put (cl_A h (zA_of hI) h.2 (Nat.le_succ _) (Nat.le_add_right _ _))) (fr_B hI)⟩) (fun x S' hx hI => zi_x (by
      rcases hx with rfl | rfl | rfl
      · exact ⟨_, hd_12_3, K _ _ (cl_X h (zA_of hI) h.2 (Nat.le_refl _) (Nat.le_refl _)) (fr_B hI)⟩
      · exact ⟨_, hd_12_4, K _ _ (cl_X h (zA_of hI) h.2 (Nat.le_refl _) (Nat.le_refl _)) (fr_B hI)⟩
      · exact ⟨_, hd_12_6, K _ _ (cl_X h (zA_of hI) h.2 (Nat.le_refl _) (Nat.le_refl _)) (fr_B hI)⟩
      ))
    · exact sp_156_64_p84 x0 x1 (by omega) (by omega) (zB_of h.1) e (i_01 hb1).1 (i_01 hb1).2 (fun v S' hI _ => zi_n ⟨zG_T hI, K _ _ (cl_put (cl_A h (zA_of hI) h.2 (Nat.le_succ _) (Nat.le_add_right _ _))) (fr_B hI)⟩) (fun x S' hx hI => zi_x (by
      rcases hx with rfl | rfl | rfl
      · exact ⟨_, hd_12_3, K _ _ (cl_X h (zA_of hI) h.2 (Nat.le_refl _) (Nat.le_refl _)) (fr_B hI)⟩
      · exact ⟨_, hd_12_4, K _ _ (cl_X h (zA_of hI) h.2 (Nat.le_refl _) (Nat.le_refl _)) (fr_B hI)⟩
      · exact ⟨_, hd_12_6, K _ _ (cl_X h (zA_of hI) h.2 (Nat.le_refl _) (Nat.le_refl _)) (fr_B hI)⟩
      ))
    · exact sp_156_64_p87 x0 x1 (by omega) (by omega) (zB_of h.1) e (i_01 hb1).1 (i_01 hb1).2 (fun v S' hI _ => zi_n ⟨zG_T hI, K _ _ (cl_put (cl_A h (zA_of hI) h.2 (Nat.le_succ _) (Nat.le_add_right _ _))) (fr_B hI)⟩) (fun x S' hx hI => zi_x (by
      rcases hx with rfl | rfl | rfl
      · exact ⟨_, hd_12_3, K _ _ (cl_X h (zA_of hI) h.2 (Nat.le_refl _) (Nat.le_refl _)) (fr_B hI)⟩
      · exact ⟨_, hd_12_4, K _ _ (cl_X h (zA_of hI) h.2 (Nat.le_refl _) (Nat.le_refl _)) (fr_B hI)⟩
      · exact ⟨_, hd_12_6, K _ _ (cl_X h (zA_of hI) h.2 (Nat.le_refl _) (Nat.le_refl _)) (fr_B hI)⟩
      ))
    · exact sp_156_64_p91 x0 x1 (by omega) (by omega) (zB_of h.1) e (i_01 hb1).1 (i_01 hb1).2 (fun v S' hI _ => zi_n ⟨zG_T hI, K _ _ (cl_put (cl_A h (zA_of hI) h.2 (Nat.le_succ _) (Nat.le_add_right _ _))) (fr_B hI)⟩) (fun x S' hx hI => zi_x (by
      rcases hx with rfl | rfl | rfl
      · exact ⟨_, hd_12_3, K _ _ (cl_X h (zA_of hI) h.2 (Nat.le_refl _) (Nat.le_refl _)) (fr_B hI)⟩
      · exact ⟨_, hd_12_4, K _ _ (cl_X h (zA_of hI) h.2 (Nat.le_refl _) (Nat.le_refl _)) (fr_B hI)⟩
      · exact ⟨_, hd_12_6, K _ _ (cl_X h (zA_of hI) h.2 (Nat.le_refl _) (Nat.le_refl _)) (fr_B hI)⟩
      ))
theorem gf_13 {X : Nat × (Nat → Int32)} {d w : Nat} {S : ma_S} {Q : Option ma_V → ma_S → Prop} (x0 : Int32) (hd : 12 ≤ d) (hw : 471 ≤ w) (hS : zT S) (h : ma_wp X (d - 1) (w - 23) 157 0 [(0, .inr (.inr (some 64))), (1, .inl x0)] [] S (zi (fun v2 S1 => zT S1 ∧ (Q (some (.inl (0 : Int32))) (ma_put S1 125 0 (.inr (.inl (v2.toInt64)))))) (fun x S1 => ∃ c, ma_hd method_15_code 4 x 4 [(0, 9, 12, 25), (0, 9, 15, 38)] = some c ∧ Q (some (.inl c)) S1))) : ma_fp X 13 d w 0 [(0, .inr (.inr (some 64))), (1, .inl x0), (2, .inr (.inr (some 125)))] [] S Q := by
  refine zf_push fm_13 dF13_0 (v := .inr (.inr (some 125))) rfl ?_
  refine zf_push fm_13 dF13_1 (v := .inl (0 : Int32)) rfl ?_
  refine zf_push fm_13 dF13_2 (v := .inr (.inr (some 64))) rfl ?_
  refine zf_push fm_13 dF13_3 (v := .inl x0) rfl ?_
  refine zf_cv fm_13 dF13_4 v_14_63_11 hm_157 [.inl x0] [.inl (0 : Int32), .inr (.inr (some 125))] rfl (zT_rt hS s_64 rfl) ⟨by omega, by omega⟩ rfl (zw_mono h (zi_go ?_ ?_))
  · intro v2 S1 hv
    obtain ⟨hS1, h⟩ := hv
    refine zf_stk fm_13 dF13_7 (st' := [.inr (.inl (v2.toInt64)), .inl (0 : Int32), .inr (.inr (some 125))]) rfl rfl ?_
    refine zf_one fm_13 dF13_8 (oo_las (zT_is hS1 s_125) (zT_h hS1 s_125) (a := 0) rfl ⟨by decide, by decide⟩) ?_
    refine zf_goto fm_13 dF13_9 (t := 18) rfl ?_
    refine zf_push fm_13 dF13_18 (v := .inl (0 : Int32)) rfl ?_
    exact zf_iret fm_13 dF13_19 h
  · intro x S9 hx
    exact ⟨⟨by decide, rfl⟩, hx⟩
theorem fw_13 {X : Nat × (Nat → Int32)} {d w : Nat} {S : ma_S} {Q : Option ma_V → ma_S → Prop} (x0 : Int32) (hd : 12 ≤ d) (hw : 471 ≤ w) (h : zHs S)  (K : ∀ v S', zCl S S' → mI S' 64 1 = mI S 64 1 → Q (some (.inl v)) S') : ma_fp X 13 d w 0 [(0, .inr (.inr (some 64))), (1, .inl x0), (2, .inr (.inr (some 125)))] [] S Q := by
  refine gf_13 x0 hd hw h.1.1 ?_
  exact sp_157_64 x0 (by omega) (by omega) (zB_of h.1)  (fun v S' hI _ => zi_n ⟨zG_T hI, K _ _ (cl_put (cl_A h (zA_of hI) h.2 (Nat.le_succ _) (Nat.le_add_right _ _))) (fr_B hI)⟩) (fun x S' hx hI => zi_x (by
      rcases hx with rfl | rfl
      · exact ⟨_, hd_13_3, K _ _ (cl_X h (zA_of hI) h.2 (Nat.le_refl _) (Nat.le_refl _)) (fr_B hI)⟩
      · exact ⟨_, hd_13_4, K _ _ (cl_X h (zA_of hI) h.2 (Nat.le_refl _) (Nat.le_refl _)) (fr_B hI)⟩
      ))
theorem gf_14 {X : Nat × (Nat → Int32)} {d w : Nat} {S : ma_S} {Q : Option ma_V → ma_S → Prop} (x0 : Int32) (hd : 12 ≤ d) (hw : 471 ≤ w) (hS : zT S) (h : ma_wp X (d - 1) (w - 23) 158 0 [(0, .inr (.inr (some 64))), (1, .inl x0)] [] S (zi (fun v2 S1 => zT S1 ∧ (Q (some (.inl (0 : Int32))) (ma_put S1 125 0 (.inr (.inl (v2.toInt64)))))) (fun x S1 => ∃ c, ma_hd method_16_code 4 x 4 [(0, 9, 12, 19), (0, 9, 15, 25)] = some c ∧ Q (some (.inl c)) S1))) : ma_fp X 14 d w 0 [(0, .inr (.inr (some 64))), (1, .inl x0), (2, .inr (.inr (some 125)))] [] S Q := by
  refine zf_push fm_14 dF14_0 (v := .inr (.inr (some 125))) rfl ?_
  refine zf_push fm_14 dF14_1 (v := .inl (0 : Int32)) rfl ?_
  refine zf_push fm_14 dF14_2 (v := .inr (.inr (some 64))) rfl ?_
  refine zf_push fm_14 dF14_3 (v := .inl x0) rfl ?_
  refine zf_cv fm_14 dF14_4 v_14_66_11 hm_158 [.inl x0] [.inl (0 : Int32), .inr (.inr (some 125))] rfl (zT_rt hS s_64 rfl) ⟨by omega, by omega⟩ rfl (zw_mono h (zi_go ?_ ?_))
  · intro v2 S1 hv
    obtain ⟨hS1, h⟩ := hv
    refine zf_stk fm_14 dF14_7 (st' := [.inr (.inl (v2.toInt64)), .inl (0 : Int32), .inr (.inr (some 125))]) rfl rfl ?_
    refine zf_one fm_14 dF14_8 (oo_las (zT_is hS1 s_125) (zT_h hS1 s_125) (a := 0) rfl ⟨by decide, by decide⟩) ?_
    refine zf_goto fm_14 dF14_9 (t := 18) rfl ?_
    refine zf_push fm_14 dF14_18 (v := .inl (0 : Int32)) rfl ?_
    exact zf_iret fm_14 dF14_19 h
  · intro x S9 hx
    exact ⟨⟨by decide, rfl⟩, hx⟩
theorem fw_14 {X : Nat × (Nat → Int32)} {d w : Nat} {S : ma_S} {Q : Option ma_V → ma_S → Prop} (x0 : Int32) (hd : 12 ≤ d) (hw : 471 ≤ w) (h : zHs S)  (K : ∀ v S', zCl S S' → mI S' 64 1 = mI S 64 1 → Q (some (.inl v)) S') : ma_fp X 14 d w 0 [(0, .inr (.inr (some 64))), (1, .inl x0), (2, .inr (.inr (some 125)))] [] S Q := by
  refine gf_14 x0 hd hw h.1.1 ?_
  rcases h.2 with e | ⟨p, hp, e⟩
  · exact sp_158_64_p0 x0 (by omega) (by omega) (zB_of h.1) e (fun v S' hI _ => zi_n ⟨zG_T hI, K _ _ (cl_put (cl_A h (zA_of hI) h.2 (Nat.le_succ _) (Nat.le_add_right _ _))) (fr_B hI)⟩) (fun x S' hx hI => zi_x (by
      rcases hx with rfl | rfl
      · exact ⟨_, hd_14_2, K _ _ (cl_X h (zA_of hI) h.2 (Nat.le_refl _) (Nat.le_refl _)) (fr_B hI)⟩
      · exact ⟨_, hd_14_3, K _ _ (cl_X h (zA_of hI) h.2 (Nat.le_refl _) (Nat.le_refl _)) (fr_B hI)⟩
      ))
  · simp only [zcl7, List.mem_cons, List.not_mem_nil, or_false] at hp
    rcases hp with rfl | rfl | rfl | rfl | rfl | rfl | rfl
    · exact sp_158_64_p79 x0 (by omega) (by omega) (zB_of h.1) e (fun v S' hI _ => zi_n ⟨zG_T hI, K _ _ (cl_put (cl_A h (zA_of hI) h.2 (Nat.le_succ _) (Nat.le_add_right _ _))) (fr_B hI)⟩) (fun x S' hx hI => zi_x (by
      rcases hx with rfl | rfl
      · exact ⟨_, hd_14_2, K _ _ (cl_X h (zA_of hI) h.2 (Nat.le_refl _) (Nat.le_refl _)) (fr_B hI)⟩
      · exact ⟨_, hd_14_3, K _ _ (cl_X h (zA_of hI) h.2 (Nat.le_refl _) (Nat.le_refl _)) (fr_B hI)⟩
      ))
    · exact sp_158_64_p80 x0 (by omega) (by omega) (zB_of h.1) e (fun v S' hI _ => zi_n ⟨zG_T hI, K _ _ (cl_put (cl_A h (zA_of hI) h.2 (Nat.le_succ _) (Nat.le_add_right _ _))) (fr_B hI)⟩) (fun x S' hx hI => zi_x (by
      rcases hx with rfl | rfl
      · exact ⟨_, hd_14_2, K _ _ (cl_X h (zA_of hI) h.2 (Nat.le_refl _) (Nat.le_refl _)) (fr_B hI)⟩
      · exact ⟨_, hd_14_3, K _ _ (cl_X h (zA_of hI) h.2 (Nat.le_refl _) (Nat.le_refl _)) (fr_B hI)⟩
      ))
    · exact sp_158_64_p81 x0 (by omega) (by omega) (zB_of h.1) e (fun v S' hI _ => zi_n ⟨zG_T hI, K _ _ (cl_put (cl_A h (zA_of hI) h.2 (Nat.le_succ _) (Nat.le_add_right _ _))) (fr_B hI)⟩) (fun x S' hx hI => zi_x (by
      rcases hx with rfl | rfl
      · exact ⟨_, hd_14_2, K _ _ (cl_X h (zA_of hI) h.2 (Nat.le_refl _) (Nat.le_refl _)) (fr_B hI)⟩
      · exact ⟨_, hd_14_3, K _ _ (cl_X h (zA_of hI) h.2 (Nat.le_refl _) (Nat.le_refl _)) (fr_B hI)⟩
      ))
    · exact sp_158_64_p82 x0 (by omega) (by omega) (zB_of h.1) e (fun v S' hI _ => zi_n ⟨zG_T hI, K _ _ (cl_put (cl_A h (zA_of hI) h.2 (Nat.le_succ _) (Nat.le_add_right _ _))) (fr_B hI)⟩) (fun x S' hx hI => zi_x (by
      rcases hx with rfl | rfl
      · exact ⟨_, hd_14_2, K _ _ (cl_X h (zA_of hI) h.2 (Nat.le_refl _) (Nat.le_refl _)) (fr_B hI)⟩
      · exact ⟨_, hd_14_3, K _ _ (cl_X h (zA_of hI) h.2 (Nat.le_refl _) (Nat.le_refl _)) (fr_B hI)⟩
      ))
    · exact sp_158_64_p84 x0 (by omega) (by omega) (zB_of h.1) e (fun v S' hI _ => zi_n ⟨zG_T hI, K _ _ (cl_put (cl_A h (zA_of hI) h.2 (Nat.le_succ _) (Nat.le_add_right _ _))) (fr_B hI)⟩) (fun x S' hx hI => zi_x (by
      rcases hx with rfl | rfl
      · exact ⟨_, hd_14_2, K _ _ (cl_X h (zA_of hI) h.2 (Nat.le_refl _) (Nat.le_refl _)) (fr_B hI)⟩
      · exact ⟨_, hd_14_3, K _ _ (cl_X h (zA_of hI) h.2 (Nat.le_refl _) (Nat.le_refl _)) (fr_B hI)⟩
      ))
    · exact sp_158_64_p87 x0 (by omega) (by omega) (zB_of h.1) e (fun v S' hI _ => zi_n ⟨zG_T hI, K _ _ (cl_put (cl_A h (zA_of hI) h.2 (Nat.le_succ _) (Nat.le_add_right _ _))) (fr_B hI)⟩) (fun x S' hx hI => zi_x (by
      rcases hx with rfl | rfl
      · exact ⟨_, hd_14_2, K _ _ (cl_X h (zA_of hI) h.2 (Nat.le_refl _) (Nat.le_refl _)) (fr_B hI)⟩
      · exact ⟨_, hd_14_3, K _ _ (cl_X h (zA_of hI) h.2 (Nat.le_refl _) (Nat.le_refl _)) (fr_B hI)⟩
      ))
    · exact sp_158_64_p91 x0 (by omega) (by omega) (zB_of h.1) e (fun v S' hI _ => zi_n ⟨zG_T hI, K _ _ (cl_put (cl_A h (zA_of hI) h.2 (Nat.le_succ _) (Nat.le_add_right _ _))) (fr_B hI)⟩) (fun x S' hx hI => zi_x (by
      rcases hx with rfl | rfl
      · exact ⟨_, hd_14_2, K _ _ (cl_X h (zA_of hI) h.2 (Nat.le_refl _) (Nat.le_refl _)) (fr_B hI)⟩
      · exact ⟨_, hd_14_3, K _ _ (cl_X h (zA_of hI) h.2 (Nat.le_refl _) (Nat.le_refl _)) (fr_B hI)⟩
      ))
theorem gf_15 {X : Nat × (Nat → Int32)} {d w : Nat} {S : ma_S} {Q : Option ma_V → ma_S → Prop}  (hd : 12 ≤ d) (hw : 472 ≤ w) (hS : zT S) (h : ma_wp X (d - 1) (w - 20) 159 0 [(0, .inr (.inr (some 64)))] [] S (zi (fun v2 S1 => zT S1 ∧ (Q (some (.inl (0 : Int32))) (ma_put S1 125 0 (.inr (.inl (v2.toInt64)))))) (fun x S1 => ∃ c, ma_hd method_17_code 3 x 3 [(0, 8, 11, 25)] = some c ∧ Q (some (.inl c)) S1))) : ma_fp X 15 d w 0 [(0, .inr (.inr (some 64))), (1, .inr (.inr (some 125)))] [] S Q := by
  refine zf_push fm_15 dF15_0 (v := .inr (.inr (some 125))) rfl ?_
  refine zf_push fm_15 dF15_1 (v := .inl (0 : Int32)) rfl ?_
  refine zf_push fm_15 dF15_2 (v := .inr (.inr (some 64))) rfl ?_
  refine zf_cv fm_15 dF15_3 v_14_69_11 hm_159 [] [.inl (0 : Int32), .inr (.inr (some 125))] rfl (zT_rt hS s_64 rfl) ⟨by omega, by omega⟩ rfl (zw_mono h (zi_go ?_ ?_))
  · intro v2 S1 hv
    obtain ⟨hS1, h⟩ := hv
    refine zf_stk fm_15 dF15_6 (st' := [.inr (.inl (v2.toInt64)), .inl (0 : Int32), .inr (.inr (some 125))]) rfl rfl ?_
    refine zf_one fm_15 dF15_7 (oo_las (zT_is hS1 s_125) (zT_h hS1 s_125) (a := 0) rfl ⟨by decide, by decide⟩) ?_
    refine zf_goto fm_15 dF15_8 (t := 14) rfl ?_
    refine zf_push fm_15 dF15_14 (v := .inl (0 : Int32)) rfl ?_
    exact zf_iret fm_15 dF15_15 h
  · intro x S9 hx
    exact ⟨⟨by decide, rfl⟩, hx⟩
theorem fw_15 {X : Nat × (Nat → Int32)} {d w : Nat} {S : ma_S} {Q : Option ma_V → ma_S → Prop}  (hd : 12 ≤ d) (hw : 472 ≤ w) (h : zHs S)  (K : ∀ v S', zCl S S' → mI S' 64 1 = mI S 64 1 → Q (some (.inl v)) S') : ma_fp X 15 d w 0 [(0, .inr (.inr (some 64))), (1, .inr (.inr (some 125)))] [] S Q := by
  refine gf_15  hd hw h.1.1 ?_
  rcases h.2 with e | ⟨p, hp, e⟩
  · exact sp_159_64_p0  (by omega) (by omega) (zB_of h.1) e (fun v S' hI _ => zi_n ⟨zG_T hI, K _ _ (cl_put (cl_A h (zA_of hI) h.2 (Nat.le_succ _) (Nat.le_add_right _ _))) (fr_B hI)⟩) (fun x S' hx hI => zi_x (by
      subst hx
      exact ⟨_, hd_15_3, K _ _ (cl_X h (zA_of hI) h.2 (Nat.le_refl _) (Nat.le_refl _)) (fr_B hI)⟩
      ))
  · simp only [zcl7, List.mem_cons, List.not_mem_nil, or_false] at hp
    rcases hp with rfl | rfl | rfl | rfl | rfl | rfl | rfl
    · exact sp_159_64_p79  (by omega) (by omega) (zB_of h.1) e (fun v S' hI _ => zi_n ⟨zG_T hI, K _ _ (cl_put (cl_A h (zA_of hI) h.2 (Nat.le_succ _) (Nat.le_add_right _ _))) (fr_B hI)⟩) (fun x S' hx hI => zi_x (by
      subst hx
      exact ⟨_, hd_15_3, K _ _ (cl_X h (zA_of hI) h.2 (Nat.le_refl _) (Nat.le_refl _)) (fr_B hI)⟩
      ))
    · exact sp_159_64_p80  (by omega) (by omega) (zB_of h.1) e (fun v S' hI _ => zi_n ⟨zG_T hI, K _ _ (cl_put (cl_A h (zA_of hI) h.2 (Nat.le_succ _) (Nat.le_add_right _ _))) (fr_B hI)⟩) (fun x S' hx hI => zi_x (by
      subst hx
      exact ⟨_, hd_15_3, K _ _ (cl_X h (zA_of hI) h.2 (Nat.le_refl _) (Nat.le_refl _)) (fr_B hI)⟩
      ))
    · exact sp_159_64_p81  (by omega) (by omega) (zB_of h.1) e (fun v S' hI _ => zi_n ⟨zG_T hI, K _ _ (cl_put (cl_A h (zA_of hI) h.2 (Nat.le_succ _) (Nat.le_add_right _ _))) (fr_B hI)⟩) (fun x S' hx hI => zi_x (by
      subst hx
      exact ⟨_, hd_15_3, K _ _ (cl_X h (zA_of hI) h.2 (Nat.le_refl _) (Nat.le_refl _)) (fr_B hI)⟩
      ))
    · exact sp_159_64_p82  (by omega) (by omega) (zB_of h.1) e (fun v S' hI _ => zi_n ⟨zG_T hI, K _ _ (cl_put (cl_A h (zA_of hI) h.2 (Nat.le_succ _) (Nat.le_add_right _ _))) (fr_B hI)⟩) (fun x S' hx hI => zi_x (by
      subst hx
      exact ⟨_, hd_15_3, K _ _ (cl_X h (zA_of hI) h.2 (Nat.le_refl _) (Nat.le_refl _)) (fr_B hI)⟩
      ))
    · exact sp_159_64_p84  (by omega) (by omega) (zB_of h.1) e (fun v S' hI _ => zi_n ⟨zG_T hI, K _ _ (cl_put (cl_A h (zA_of hI) h.2 (Nat.le_succ _) (Nat.le_add_right _ _))) (fr_B hI)⟩) (fun x S' hx hI => zi_x (by
      subst hx
      exact ⟨_, hd_15_3, K _ _ (cl_X h (zA_of hI) h.2 (Nat.le_refl _) (Nat.le_refl _)) (fr_B hI)⟩
      ))
    · exact sp_159_64_p87  (by omega) (by omega) (zB_of h.1) e (fun v S' hI _ => zi_n ⟨zG_T hI, K _ _ (cl_put (cl_A h (zA_of hI) h.2 (Nat.le_succ _) (Nat.le_add_right _ _))) (fr_B hI)⟩) (fun x S' hx hI => zi_x (by
      subst hx
      exact ⟨_, hd_15_3, K _ _ (cl_X h (zA_of hI) h.2 (Nat.le_refl _) (Nat.le_refl _)) (fr_B hI)⟩
      ))
    · exact sp_159_64_p91  (by omega) (by omega) (zB_of h.1) e (fun v S' hI _ => zi_n ⟨zG_T hI, K _ _ (cl_put (cl_A h (zA_of hI) h.2 (Nat.le_succ _) (Nat.le_add_right _ _))) (fr_B hI)⟩) (fun x S' hx hI => zi_x (by
      subst hx
      exact ⟨_, hd_15_3, K _ _ (cl_X h (zA_of hI) h.2 (Nat.le_refl _) (Nat.le_refl _)) (fr_B hI)⟩
      ))
theorem gf_16 {X : Nat × (Nat → Int32)} {d w : Nat} {S : ma_S} {Q : Option ma_V → ma_S → Prop} (x0 : Int32) (hd : 12 ≤ d) (hw : 471 ≤ w) (hS : zT S) (h : ma_wp X (d - 1) (w - 23) 160 0 [(0, .inr (.inr (some 64))), (1, .inl x0)] [] S (zi (fun v2 S1 => zT S1 ∧ (Q (some (.inl (0 : Int32))) (ma_put S1 125 0 (.inr (.inl (v2.toInt64)))))) (fun x S1 => ∃ c, ma_hd method_18_code 4 x 4 [(0, 9, 12, 19), (0, 9, 15, 25), (0, 9, 18, 61)] = some c ∧ Q (some (.inl c)) S1))) : ma_fp X 16 d w 0 [(0, .inr (.inr (some 64))), (1, .inl x0), (2, .inr (.inr (some 125)))] [] S Q := by
  refine zf_push fm_16 dF16_0 (v := .inr (.inr (some 125))) rfl ?_
  refine zf_push fm_16 dF16_1 (v := .inl (0 : Int32)) rfl ?_
  refine zf_push fm_16 dF16_2 (v := .inr (.inr (some 64))) rfl ?_
  refine zf_push fm_16 dF16_3 (v := .inl x0) rfl ?_
  refine zf_cv fm_16 dF16_4 v_14_73_11 hm_160 [.inl x0] [.inl (0 : Int32), .inr (.inr (some 125))] rfl (zT_rt hS s_64 rfl) ⟨by omega, by omega⟩ rfl (zw_mono h (zi_go ?_ ?_))
  · intro v2 S1 hv
    obtain ⟨hS1, h⟩ := hv
    refine zf_stk fm_16 dF16_7 (st' := [.inr (.inl (v2.toInt64)), .inl (0 : Int32), .inr (.inr (some 125))]) rfl rfl ?_
    refine zf_one fm_16 dF16_8 (oo_las (zT_is hS1 s_125) (zT_h hS1 s_125) (a := 0) rfl ⟨by decide, by decide⟩) ?_
    refine zf_goto fm_16 dF16_9 (t := 21) rfl ?_
    refine zf_push fm_16 dF16_21 (v := .inl (0 : Int32)) rfl ?_
    exact zf_iret fm_16 dF16_22 h
  · intro x S9 hx
    exact ⟨⟨by decide, rfl⟩, hx⟩
theorem fw_16 {X : Nat × (Nat → Int32)} {d w : Nat} {S : ma_S} {Q : Option ma_V → ma_S → Prop} (x0 : Int32) (hd : 12 ≤ d) (hw : 471 ≤ w) (h : zHs S)  (K : ∀ v S', zCl S S' → mI S' 64 1 = mI S 64 1 → Q (some (.inl v)) S') : ma_fp X 16 d w 0 [(0, .inr (.inr (some 64))), (1, .inl x0), (2, .inr (.inr (some 125)))] [] S Q := by
  refine gf_16 x0 hd hw h.1.1 ?_
  rcases h.2 with e | ⟨p, hp, e⟩
  · exact sp_160_64_p0 x0 (by omega) (by omega) (zB_of h.1) e (fun v S' hI _ => zi_n ⟨zG_T hI, K _ _ (cl_put (cl_A h (zA_of hI) h.2 (Nat.le_succ _) (Nat.le_add_right _ _))) (fr_B hI)⟩) (fun x S' hx hI => zi_x (by
      rcases hx with rfl | rfl | rfl
      · exact ⟨_, hd_16_2, K _ _ (cl_X h (zA_of hI) h.2 (Nat.le_refl _) (Nat.le_refl _)) (fr_B hI)⟩
      · exact ⟨_, hd_16_3, K _ _ (cl_X h (zA_of hI) h.2 (Nat.le_refl _) (Nat.le_refl _)) (fr_B hI)⟩
      · exact ⟨_, hd_16_6, K _ _ (cl_X h (zA_of hI) h.2 (Nat.le_refl _) (Nat.le_refl _)) (fr_B hI)⟩
      ))
  · simp only [zcl7, List.mem_cons, List.not_mem_nil, or_false] at hp
    rcases hp with rfl | rfl | rfl | rfl | rfl | rfl | rfl
    · exact sp_160_64_p79 x0 (by omega) (by omega) (zB_of h.1) e (fun v S' hI _ => zi_n ⟨zG_T hI, K _ _ (cl_put (cl_A h (zA_of hI) h.2 (Nat.le_succ _) (Nat.le_add_right _ _))) (fr_B hI)⟩) (fun x S' hx hI => zi_x (by
      rcases hx with rfl | rfl | rfl
      · exact ⟨_, hd_16_2, K _ _ (cl_X h (zA_of hI) h.2 (Nat.le_refl _) (Nat.le_refl _)) (fr_B hI)⟩
      · exact ⟨_, hd_16_3, K _ _ (cl_X h (zA_of hI) h.2 (Nat.le_refl _) (Nat.le_refl _)) (fr_B hI)⟩
      · exact ⟨_, hd_16_6, K _ _ (cl_X h (zA_of hI) h.2 (Nat.le_refl _) (Nat.le_refl _)) (fr_B hI)⟩
      ))
    · exact sp_160_64_p80 x0 (by omega) (by omega) (zB_of h.1) e (fun v S' hI _ => zi_n ⟨zG_T hI, K _ _ (cl_put (cl_A h (zA_of hI) h.2 (Nat.le_succ _) (Nat.le_add_right _ _))) (fr_B hI)⟩) (fun x S' hx hI => zi_x (by
      rcases hx with rfl | rfl | rfl
      · exact ⟨_, hd_16_2, K _ _ (cl_X h (zA_of hI) h.2 (Nat.le_refl _) (Nat.le_refl _)) (fr_B hI)⟩
      · exact ⟨_, hd_16_3, K _ _ (cl_X h (zA_of hI) h.2 (Nat.le_refl _) (Nat.le_refl _)) (fr_B hI)⟩
      · exact ⟨_, hd_16_6, K _ _ (cl_X h (zA_of hI) h.2 (Nat.le_refl _) (Nat.le_refl _)) (fr_B hI)⟩
      ))
    · exact sp_160_64_p81 x0 (by omega) (by omega) (zB_of h.1) e (fun v S' hI _ => zi_n ⟨zG_T hI, K _ _ (cl_put (cl_A h (zA_of hI) h.2 (Nat.le_succ _) (Nat.le_add_right _ _))) (fr_B hI)⟩) (fun x S' hx hI => zi_x (by
      rcases hx with rfl | rfl | rfl
      · exact ⟨_, hd_16_2, K _ _ (cl_X h (zA_of hI) h.2 (Nat.le_refl _) (Nat.le_refl _)) (fr_B hI)⟩
      · exact ⟨_, hd_16_3, K _ _ (cl_X h (zA_of hI) h.2 (Nat.le_refl _) (Nat.le_refl _)) (fr_B hI)⟩
      · exact ⟨_, hd_16_6, K _ _ (cl_X h (zA_of hI) h.2 (Nat.le_refl _) (Nat.le_refl _)) (fr_B hI)⟩
      ))
    · exact sp_160_64_p82 x0 (by omega) (by omega) (zB_of h.1) e (fun v S' hI _ => zi_n ⟨zG_T hI, K _ _ (cl_put (cl_A h (zA_of hI) h.2 (Nat.le_succ _) (Nat.le_add_right _ _))) (fr_B hI)⟩) (fun x S' hx hI => zi_x (by
      rcases hx with rfl | rfl | rfl
      · exact ⟨_, hd_16_2, K _ _ (cl_X h (zA_of hI) h.2 (Nat.le_refl _) (Nat.le_refl _)) (fr_B hI)⟩
      · exact ⟨_, hd_16_3, K _ _ (cl_X h (zA_of hI) h.2 (Nat.le_refl _) (Nat.le_refl _)) (fr_B hI)⟩
      · exact ⟨_, hd_16_6, K _ _ (cl_X h (zA_of hI) h.2 (Nat.le_refl _) (Nat.le_refl _)) (fr_B hI)⟩
      ))
    · exact sp_160_64_p84 x0 (by omega) (by omega) (zB_of h.1) e (fun v S' hI _ => zi_n ⟨zG_T hI, K _ _ (cl_put (cl_A h (zA_of hI) h.2 (Nat.le_succ _) (Nat.le_add_right _ _))) (fr_B hI)⟩) (fun x S' hx hI => zi_x (by
      rcases hx with rfl | rfl | rfl
      · exact ⟨_, hd_16_2, K _ _ (cl_X h (zA_of hI) h.2 (Nat.le_refl _) (Nat.le_refl _)) (fr_B hI)⟩
      · exact ⟨_, hd_16_3, K _ _ (cl_X h (zA_of hI) h.2 (Nat.le_refl _) (Nat.le_refl _)) (fr_B hI)⟩
      · exact ⟨_, hd_16_6, K _ _ (cl_X h (zA_of hI) h.2 (Nat.le_refl _) (Nat.le_refl _)) (fr_B hI)⟩
      ))
    · exact sp_160_64_p87 x0 (by omega) (by omega) (zB_of h.1) e (fun v S' hI _ => zi_n ⟨zG_T hI, K _ _ (cl_put (cl_A h (zA_of hI) h.2 (Nat.le_succ _) (Nat.le_add_right _ _))) (fr_B hI)⟩) (fun x S' hx hI => zi_x (by
      rcases hx with rfl | rfl | rfl
      · exact ⟨_, hd_16_2, K _ _ (cl_X h (zA_of hI) h.2 (Nat.le_refl _) (Nat.le_refl _)) (fr_B hI)⟩
      · exact ⟨_, hd_16_3, K _ _ (cl_X h (zA_of hI) h.2 (Nat.le_refl _) (Nat.le_refl _)) (fr_B hI)⟩
      · exact ⟨_, hd_16_6, K _ _ (cl_X h (zA_of hI) h.2 (Nat.le_refl _) (Nat.le_refl _)) (fr_B hI)⟩
      ))
    · exact sp_160_64_p91 x0 (by omega) (by omega) (zB_of h.1) e (fun v S' hI _ => zi_n ⟨zG_T hI, K _ _ (cl_put (cl_A h (zA_of hI) h.2 (Nat.le_succ _) (Nat.le_add_right _ _))) (fr_B hI)⟩) (fun x S' hx hI => zi_x (by
      rcases hx with rfl | rfl | rfl
      · exact ⟨_, hd_16_2, K _ _ (cl_X h (zA_of hI) h.2 (Nat.le_refl _) (Nat.le_refl _)) (fr_B hI)⟩
      · exact ⟨_, hd_16_3, K _ _ (cl_X h (zA_of hI) h.2 (Nat.le_refl _) (Nat.le_refl _)) (fr_B hI)⟩
      · exact ⟨_, hd_16_6, K _ _ (cl_X h (zA_of hI) h.2 (Nat.le_refl _) (Nat.le_refl _)) (fr_B hI)⟩
      ))
theorem gf_17 {X : Nat × (Nat → Int32)} {d w : Nat} {S : ma_S} {Q : Option ma_V → ma_S → Prop} (x0 : Int32) (x1 : Int32) (hd : 12 ≤ d) (hw : 470 ≤ w) (hS : zT S) (h : ma_wp X (d - 1) (w - 24) 161 0 [(0, .inr (.inr (some 64))), (1, .inl x0), (2, .inl x1)] [] S (zi (fun v2 S1 => zT S1 ∧ (Q (some (.inl (0 : Int32))) (ma_put S1 125 0 (.inr (.inl (v2.toInt64)))))) (fun x S1 => ∃ c, ma_hd method_19_code 5 x 5 [(0, 10, 13, 19), (0, 10, 17, 25), (0, 10, 21, 38)] = some c ∧ Q (some (.inl c)) S1))) : ma_fp X 17 d w 0 [(0, .inr (.inr (some 64))), (1, .inl x0), (2, .inl x1), (3, .inr (.inr (some 125)))] [] S Q := by
  refine zf_push fm_17 dF17_0 (v := .inr (.inr (some 125))) rfl ?_
  refine zf_push fm_17 dF17_1 (v := .inl (0 : Int32)) rfl ?_
  refine zf_push fm_17 dF17_2 (v := .inr (.inr (some 64))) rfl ?_
  refine zf_push fm_17 dF17_3 (v := .inl x0) rfl ?_
  refine zf_push fm_17 dF17_4 (v := .inl x1) rfl ?_
  refine zf_cv fm_17 dF17_5 v_14_76_11 hm_161 [.inl x1, .inl x0] [.inl (0 : Int32), .inr (.inr (some 125))] rfl (zT_rt hS s_64 rfl) ⟨by omega, by omega⟩ rfl (zw_mono h (zi_go ?_ ?_))
  · intro v2 S1 hv
    obtain ⟨hS1, h⟩ := hv
    refine zf_stk fm_17 dF17_8 (st' := [.inr (.inl (v2.toInt64)), .inl (0 : Int32), .inr (.inr (some 125))]) rfl rfl ?_
    refine zf_one fm_17 dF17_9 (oo_las (zT_is hS1 s_125) (zT_h hS1 s_125) (a := 0) rfl ⟨by decide, by decide⟩) ?_
    refine zf_goto fm_17 dF17_10 (t := 25) rfl ?_
    refine zf_push fm_17 dF17_25 (v := .inl (0 : Int32)) rfl ?_
    exact zf_iret fm_17 dF17_26 h
  · intro x S9 hx
    exact ⟨⟨by decide, rfl⟩, hx⟩
theorem fw_17 {X : Nat × (Nat → Int32)} {d w : Nat} {S : ma_S} {Q : Option ma_V → ma_S → Prop} (x0 : Int32) (x1 : Int32) (hd : 12 ≤ d) (hw : 470 ≤ w) (h : zHs S)  (K : ∀ v S', zCl S S' → mI S' 64 1 = mI S 64 1 → Q (some (.inl v)) S') : ma_fp X 17 d w 0 [(0, .inr (.inr (some 64))), (1, .inl x0), (2, .inl x1), (3, .inr (.inr (some 125)))] [] S Q := by
  refine gf_17 x0 x1 hd hw h.1.1 ?_
  rcases h.2 with e | ⟨p, hp, e⟩
  · exact sp_161_64_p0 x0 x1 (by omega) (by omega) (zB_of h.1) e (fun v S' hI _ => zi_n ⟨zG_T hI, K _ _ (cl_put (cl_A h (zA_of hI) h.2 (Nat.le_succ _) (Nat.le_add_right _ _))) (fr_B hI)⟩) (fun x S' hx hI => zi_x (by
      rcases hx with rfl | rfl | rfl
      · exact ⟨_, hd_17_2, K _ _ (cl_X h (zA_of hI) h.2 (Nat.le_refl _) (Nat.le_refl _)) (fr_B hI)⟩
      · exact ⟨_, hd_17_3, K _ _ (cl_X h (zA_of hI) h.2 (Nat.le_refl _) (Nat.le_refl _)) (fr_B hI)⟩
      · exact ⟨_, hd_17_4, K _ _ (cl_X h (zA_of hI) h.2 (Nat.le_refl _) (Nat.le_refl _)) (fr_B hI)⟩
      ))
  · simp only [zcl7, List.mem_cons, List.not_mem_nil, or_false] at hp
    rcases hp with rfl | rfl | rfl | rfl | rfl | rfl | rfl
    · exact sp_161_64_p79 x0 x1 (by omega) (by omega) (zB_of h.1) e (fun v S' hI _ => zi_n ⟨zG_T hI, K _ _ (cl_put (cl_A h (zA_of hI) h.2 (Nat.le_succ _) (Nat.le_add_right _ _))) (fr_B hI)⟩) (fun x S' hx hI => zi_x (by
      rcases hx with rfl | rfl | rfl
      · exact ⟨_, hd_17_2, K _ _ (cl_X h (zA_of hI) h.2 (Nat.le_refl _) (Nat.le_refl _)) (fr_B hI)⟩
      · exact ⟨_, hd_17_3, K _ _ (cl_X h (zA_of hI) h.2 (Nat.le_refl _) (Nat.le_refl _)) (fr_B hI)⟩
      · exact ⟨_, hd_17_4, K _ _ (cl_X h (zA_of hI) h.2 (Nat.le_refl _) (Nat.le_refl _)) (fr_B hI)⟩
      ))
    · exact sp_161_64_p80 x0 x1 (by omega) (by omega) (zB_of h.1) e (fun v S' hI _ => zi_n ⟨zG_T hI, K _ _ (cl_put (cl_A h (zA_of hI) h.2 (Nat.le_succ _) (Nat.le_add_right _ _))) (fr_B hI)⟩) (fun x S' hx hI => zi_x (by
      rcases hx with rfl | rfl | rfl
      · exact ⟨_, hd_17_2, K _ _ (cl_X h (zA_of hI) h.2 (Nat.le_refl _) (Nat.le_refl _)) (fr_B hI)⟩
      · exact ⟨_, hd_17_3, K _ _ (cl_X h (zA_of hI) h.2 (Nat.le_refl _) (Nat.le_refl _)) (fr_B hI)⟩
      · exact ⟨_, hd_17_4, K _ _ (cl_X h (zA_of hI) h.2 (Nat.le_refl _) (Nat.le_refl _)) (fr_B hI)⟩
      ))
    · exact sp_161_64_p81 x0 x1 (by omega) (by omega) (zB_of h.1) e (fun v S' hI _ => zi_n ⟨zG_T hI, K _ _ (cl_put (cl_A h (zA_of hI) h.2 (Nat.le_succ _) (Nat.le_add_right _ _))) (fr_B hI)⟩) (fun x S' hx hI => zi_x (by
      rcases hx with rfl | rfl | rfl
      · exact ⟨_, hd_17_2, K _ _ (cl_X h (zA_of hI) h.2 (Nat.le_refl _) (Nat.le_refl _)) (fr_B hI)⟩
      · exact ⟨_, hd_17_3, K _ _ (cl_X h (zA_of hI) h.2 (Nat.le_refl _) (Nat.le_refl _)) (fr_B hI)⟩
      · exact ⟨_, hd_17_4, K _ _ (cl_X h (zA_of hI) h.2 (Nat.le_refl _) (Nat.le_refl _)) (fr_B hI)⟩
      ))
    · exact sp_161_64_p82 x0 x1 (by omega) (by omega) (zB_of h.1) e (fun v S' hI _ => zi_n ⟨zG_T hI, K _ _ (cl_put (cl_A h (zA_of hI) h.2 (Nat.le_succ _) (Nat.le_add_right _ _))) (fr_B hI)⟩) (fun x S' hx hI => zi_x (by
      rcases hx with rfl | rfl | rfl
      · exact ⟨_, hd_17_2, K _ _ (cl_X h (zA_of hI) h.2 (Nat.le_refl _) (Nat.le_refl _)) (fr_B hI)⟩
      · exact ⟨_, hd_17_3, K _ _ (cl_X h (zA_of hI) h.2 (Nat.le_refl _) (Nat.le_refl _)) (fr_B hI)⟩
      · exact ⟨_, hd_17_4, K _ _ (cl_X h (zA_of hI) h.2 (Nat.le_refl _) (Nat.le_refl _)) (fr_B hI)⟩
      ))
    · exact sp_161_64_p84 x0 x1 (by omega) (by omega) (zB_of h.1) e (fun v S' hI _ => zi_n ⟨zG_T hI, K _ _ (cl_put (cl_A h (zA_of hI) h.2 (Nat.le_succ _) (Nat.le_add_right _ _))) (fr_B hI)⟩) (fun x S' hx hI => zi_x (by
      rcases hx with rfl | rfl | rfl
      · exact ⟨_, hd_17_2, K _ _ (cl_X h (zA_of hI) h.2 (Nat.le_refl _) (Nat.le_refl _)) (fr_B hI)⟩
      · exact ⟨_, hd_17_3, K _ _ (cl_X h (zA_of hI) h.2 (Nat.le_refl _) (Nat.le_refl _)) (fr_B hI)⟩
      · exact ⟨_, hd_17_4, K _ _ (cl_X h (zA_of hI) h.2 (Nat.le_refl _) (Nat.le_refl _)) (fr_B hI)⟩
      ))
    · exact sp_161_64_p87 x0 x1 (by omega) (by omega) (zB_of h.1) e (fun v S' hI _ => zi_n ⟨zG_T hI, K _ _ (cl_put (cl_A h (zA_of hI) h.2 (Nat.le_succ _) (Nat.le_add_right _ _))) (fr_B hI)⟩) (fun x S' hx hI => zi_x (by
      rcases hx with rfl | rfl | rfl
      · exact ⟨_, hd_17_2, K _ _ (cl_X h (zA_of hI) h.2 (Nat.le_refl _) (Nat.le_refl _)) (fr_B hI)⟩
      · exact ⟨_, hd_17_3, K _ _ (cl_X h (zA_of hI) h.2 (Nat.le_refl _) (Nat.le_refl _)) (fr_B hI)⟩
      · exact ⟨_, hd_17_4, K _ _ (cl_X h (zA_of hI) h.2 (Nat.le_refl _) (Nat.le_refl _)) (fr_B hI)⟩
      ))
    · exact sp_161_64_p91 x0 x1 (by omega) (by omega) (zB_of h.1) e (fun v S' hI _ => zi_n ⟨zG_T hI, K _ _ (cl_put (cl_A h (zA_of hI) h.2 (Nat.le_succ _) (Nat.le_add_right _ _))) (fr_B hI)⟩) (fun x S' hx hI => zi_x (by
      rcases hx with rfl | rfl | rfl
      · exact ⟨_, hd_17_2, K _ _ (cl_X h (zA_of hI) h.2 (Nat.le_refl _) (Nat.le_refl _)) (fr_B hI)⟩
      · exact ⟨_, hd_17_3, K _ _ (cl_X h (zA_of hI) h.2 (Nat.le_refl _) (Nat.le_refl _)) (fr_B hI)⟩
      · exact ⟨_, hd_17_4, K _ _ (cl_X h (zA_of hI) h.2 (Nat.le_refl _) (Nat.le_refl _)) (fr_B hI)⟩
      ))
theorem gf_18 {X : Nat × (Nat → Int32)} {d w : Nat} {S : ma_S} {Q : Option ma_V → ma_S → Prop} (x0 : Int32) (x1 : Int32) (hd : 12 ≤ d) (hw : 470 ≤ w) (hS : zT S) (h : ma_wp X (d - 1) (w - 24) 162 0 [(0, .inr (.inr (some 64))), (1, .inl x0), (2, .inl x1)] [] S (zi (fun v2 S1 => zT S1 ∧ (Q (some (.inl (0 : Int32))) (ma_put S1 125 0 (.inr (.inl (v2.toInt64)))))) (fun x S1 => ∃ c, ma_hd method_20_code 5 x 5 [(0, 10, 13, 19), (0, 10, 17, 25), (0, 10, 21, 61), (0, 10, 25, 13)] = some c ∧ Q (some (.inl c)) S1))) : ma_fp X 18 d w 0 [(0, .inr (.inr (some 64))), (1, .inl x0), (2, .inl x1), (3, .inr (.inr (some 125)))] [] S Q := by
  refine zf_push fm_18 dF18_0 (v := .inr (.inr (some 125))) rfl ?_
  refine zf_push fm_18 dF18_1 (v := .inl (0 : Int32)) rfl ?_
  refine zf_push fm_18 dF18_2 (v := .inr (.inr (some 64))) rfl ?_
  refine zf_push fm_18 dF18_3 (v := .inl x0) rfl ?_
  refine zf_push fm_18 dF18_4 (v := .inl x1) rfl ?_
  refine zf_cv fm_18 dF18_5 v_14_79_11 hm_162 [.inl x1, .inl x0] [.inl (0 : Int32), .inr (.inr (some 125))] rfl (zT_rt hS s_64 rfl) ⟨by omega, by omega⟩ rfl (zw_mono h (zi_go ?_ ?_))
  · intro v2 S1 hv
    obtain ⟨hS1, h⟩ := hv
    refine zf_stk fm_18 dF18_8 (st' := [.inr (.inl (v2.toInt64)), .inl (0 : Int32), .inr (.inr (some 125))]) rfl rfl ?_
    refine zf_one fm_18 dF18_9 (oo_las (zT_is hS1 s_125) (zT_h hS1 s_125) (a := 0) rfl ⟨by decide, by decide⟩) ?_
    refine zf_goto fm_18 dF18_10 (t := 29) rfl ?_
    refine zf_push fm_18 dF18_29 (v := .inl (0 : Int32)) rfl ?_
    exact zf_iret fm_18 dF18_30 h
  · intro x S9 hx
    exact ⟨⟨by decide, rfl⟩, hx⟩
theorem fw_18 {X : Nat × (Nat → Int32)} {d w : Nat} {S : ma_S} {Q : Option ma_V → ma_S → Prop} (x0 : Int32) (x1 : Int32) (hd : 12 ≤ d) (hw : 470 ≤ w) (h : zHs S)  (K : ∀ v S', zCl S S' → mI S' 64 1 = mI S 64 1 → Q (some (.inl v)) S') : ma_fp X 18 d w 0 [(0, .inr (.inr (some 64))), (1, .inl x0), (2, .inl x1), (3, .inr (.inr (some 125)))] [] S Q := by
  refine gf_18 x0 x1 hd hw h.1.1 ?_
  rcases h.2 with e | ⟨p, hp, e⟩
  · exact sp_162_64_p0 x0 x1 (by omega) (by omega) (zB_of h.1) e (fun v S' hI _ => zi_n ⟨zG_T hI, K _ _ (cl_put (cl_A h (zA_of hI) h.2 (Nat.le_succ _) (Nat.le_add_right _ _))) (fr_B hI)⟩) (fun x S' hx hI => zi_x (by
      rcases hx with rfl | rfl | rfl | rfl
      · exact ⟨_, hd_18_1, K _ _ (cl_X h (zA_of hI) h.2 (Nat.le_refl _) (Nat.le_refl _)) (fr_B hI)⟩
      · exact ⟨_, hd_18_2, K _ _ (cl_X h (zA_of hI) h.2 (Nat.le_refl _) (Nat.le_refl _)) (fr_B hI)⟩
      · exact ⟨_, hd_18_3, K _ _ (cl_X h (zA_of hI) h.2 (Nat.le_refl _) (Nat.le_refl _)) (fr_B hI)⟩
      · exact ⟨_, hd_18_6, K _ _ (cl_X h (zA_of hI) h.2 (Nat.le_refl _) (Nat.le_refl _)) (fr_B hI)⟩
      ))
  · simp only [zcl7, List.mem_cons, List.not_mem_nil, or_false] at hp
    rcases hp with rfl | rfl | rfl | rfl | rfl | rfl | rfl
    · exact sp_162_64_p79 x0 x1 (by omega) (by omega) (zB_of h.1) e (fun v S' hI _ => zi_n ⟨zG_T hI, K _ _ (cl_put (cl_A h (zA_of hI) h.2 (Nat.le_succ _) (Nat.le_add_right _ _))) (fr_B hI)⟩) (fun x S' hx hI => zi_x (by
      rcases hx with rfl | rfl | rfl | rfl
      · exact ⟨_, hd_18_1, K _ _ (cl_X h (zA_of hI) h.2 (Nat.le_refl _) (Nat.le_refl _)) (fr_B hI)⟩
      · exact ⟨_, hd_18_2, K _ _ (cl_X h (zA_of hI) h.2 (Nat.le_refl _) (Nat.le_refl _)) (fr_B hI)⟩
      · exact ⟨_, hd_18_3, K _ _ (cl_X h (zA_of hI) h.2 (Nat.le_refl _) (Nat.le_refl _)) (fr_B hI)⟩
      · exact ⟨_, hd_18_6, K _ _ (cl_X h (zA_of hI) h.2 (Nat.le_refl _) (Nat.le_refl _)) (fr_B hI)⟩
      ))
    · exact sp_162_64_p80 x0 x1 (by omega) (by omega) (zB_of h.1) e (fun v S' hI _ => zi_n ⟨zG_T hI, K _ _ (cl_put (cl_A h (zA_of hI) h.2 (Nat.le_succ _) (Nat.le_add_right _ _))) (fr_B hI)⟩) (fun x S' hx hI => zi_x (by
      rcases hx with rfl | rfl | rfl | rfl
      · exact ⟨_, hd_18_1, K _ _ (cl_X h (zA_of hI) h.2 (Nat.le_refl _) (Nat.le_refl _)) (fr_B hI)⟩
      · exact ⟨_, hd_18_2, K _ _ (cl_X h (zA_of hI) h.2 (Nat.le_refl _) (Nat.le_refl _)) (fr_B hI)⟩
      · exact ⟨_, hd_18_3, K _ _ (cl_X h (zA_of hI) h.2 (Nat.le_refl _) (Nat.le_refl _)) (fr_B hI)⟩
      · exact ⟨_, hd_18_6, K _ _ (cl_X h (zA_of hI) h.2 (Nat.le_refl _) (Nat.le_refl _)) (fr_B hI)⟩
      ))
    · exact sp_162_64_p81 x0 x1 (by omega) (by omega) (zB_of h.1) e (fun v S' hI _ => zi_n ⟨zG_T hI, K _ _ (cl_put (cl_A h (zA_of hI) h.2 (Nat.le_succ _) (Nat.le_add_right _ _))) (fr_B hI)⟩) (fun x S' hx hI => zi_x (by
      rcases hx with rfl | rfl | rfl | rfl
      · exact ⟨_, hd_18_1, K _ _ (cl_X h (zA_of hI) h.2 (Nat.le_refl _) (Nat.le_refl _)) (fr_B hI)⟩
      · exact ⟨_, hd_18_2, K _ _ (cl_X h (zA_of hI) h.2 (Nat.le_refl _) (Nat.le_refl _)) (fr_B hI)⟩
      · exact ⟨_, hd_18_3, K _ _ (cl_X h (zA_of hI) h.2 (Nat.le_refl _) (Nat.le_refl _)) (fr_B hI)⟩
      · exact ⟨_, hd_18_6, K _ _ (cl_X h (zA_of hI) h.2 (Nat.le_refl _) (Nat.le_refl _)) (fr_B hI)⟩
      ))
    · exact sp_162_64_p82 x0 x1 (by omega) (by omega) (zB_of h.1) e (fun v S' hI _ => zi_n ⟨zG_T hI, K _ _ (cl_put (cl_A h (zA_of hI) h.2 (Nat.le_succ _) (Nat.le_add_right _ _))) (fr_B hI)⟩) (fun x S' hx hI => zi_x (by
      rcases hx with rfl | rfl | rfl | rfl
      · exact ⟨_, hd_18_1, K _ _ (cl_X h (zA_of hI) h.2 (Nat.le_refl _) (Nat.le_refl _)) (fr_B hI)⟩
      · exact ⟨_, hd_18_2, K _ _ (cl_X h (zA_of hI) h.2 (Nat.le_refl _) (Nat.le_refl _)) (fr_B hI)⟩
      · exact ⟨_, hd_18_3, K _ _ (cl_X h (zA_of hI) h.2 (Nat.le_refl _) (Nat.le_refl _)) (fr_B hI)⟩
      · exact ⟨_, hd_18_6, K _ _ (cl_X h (zA_of hI) h.2 (Nat.le_refl _) (Nat.le_refl _)) (fr_B hI)⟩
      ))
    · exact sp_162_64_p84 x0 x1 (by omega) (by omega) (zB_of h.1) e (fun v S' hI _ => zi_n ⟨zG_T hI, K _ _ (cl_put (cl_A h (zA_of hI) h.2 (Nat.le_succ _) (Nat.le_add_right _ _))) (fr_B hI)⟩) (fun x S' hx hI => zi_x (by
      rcases hx with rfl | rfl | rfl | rfl
      · exact ⟨_, hd_18_1, K _ _ (cl_X h (zA_of hI) h.2 (Nat.le_refl _) (Nat.le_refl _)) (fr_B hI)⟩
      · exact ⟨_, hd_18_2, K _ _ (cl_X h (zA_of hI) h.2 (Nat.le_refl _) (Nat.le_refl _)) (fr_B hI)⟩
      · exact ⟨_, hd_18_3, K _ _ (cl_X h (zA_of hI) h.2 (Nat.le_refl _) (Nat.le_refl _)) (fr_B hI)⟩
      · exact ⟨_, hd_18_6, K _ _ (cl_X h (zA_of hI) h.2 (Nat.le_refl _) (Nat.le_refl _)) (fr_B hI)⟩
      ))
    · exact sp_162_64_p87 x0 x1 (by omega) (by omega) (zB_of h.1) e (fun v S' hI _ => zi_n ⟨zG_T hI, K _ _ (cl_put (cl_A h (zA_of hI) h.2 (Nat.le_succ _) (Nat.le_add_right _ _))) (fr_B hI)⟩) (fun x S' hx hI => zi_x (by
      rcases hx with rfl | rfl | rfl | rfl
      · exact ⟨_, hd_18_1, K _ _ (cl_X h (zA_of hI) h.2 (Nat.le_refl _) (Nat.le_refl _)) (fr_B hI)⟩
      · exact ⟨_, hd_18_2, K _ _ (cl_X h (zA_of hI) h.2 (Nat.le_refl _) (Nat.le_refl _)) (fr_B hI)⟩
      · exact ⟨_, hd_18_3, K _ _ (cl_X h (zA_of hI) h.2 (Nat.le_refl _) (Nat.le_refl _)) (fr_B hI)⟩
      · exact ⟨_, hd_18_6, K _ _ (cl_X h (zA_of hI) h.2 (Nat.le_refl _) (Nat.le_refl _)) (fr_B hI)⟩
      ))
    · exact sp_162_64_p91 x0 x1 (by omega) (by omega) (zB_of h.1) e (fun v S' hI _ => zi_n ⟨zG_T hI, K _ _ (cl_put (cl_A h (zA_of hI) h.2 (Nat.le_succ _) (Nat.le_add_right _ _))) (fr_B hI)⟩) (fun x S' hx hI => zi_x (by
      rcases hx with rfl | rfl | rfl | rfl
      · exact ⟨_, hd_18_1, K _ _ (cl_X h (zA_of hI) h.2 (Nat.le_refl _) (Nat.le_refl _)) (fr_B hI)⟩
      · exact ⟨_, hd_18_2, K _ _ (cl_X h (zA_of hI) h.2 (Nat.le_refl _) (Nat.le_refl _)) (fr_B hI)⟩
      · exact ⟨_, hd_18_3, K _ _ (cl_X h (zA_of hI) h.2 (Nat.le_refl _) (Nat.le_refl _)) (fr_B hI)⟩
      · exact ⟨_, hd_18_6, K _ _ (cl_X h (zA_of hI) h.2 (Nat.le_refl _) (Nat.le_refl _)) (fr_B hI)⟩
      ))
theorem gf_19 {X : Nat × (Nat → Int32)} {d w : Nat} {S : ma_S} {Q : Option ma_V → ma_S → Prop} (x0 : Int32) (hd : 12 ≤ d) (hw : 471 ≤ w) (hS : zT S) (h : ma_wp X (d - 1) (w - 22) 163 0 [(0, .inr (.inr (some 64))), (1, .inl x0)] [] S (zi (fun v2 S1 => zT S1 ∧ (Q (some (.inl (0 : Int32))) (ma_put S1 125 0 (.inr (.inl (v2.toInt64)))))) (fun x S1 => ∃ c, ma_hd method_21_code 4 x 4 [(0, 9, 12, 19), (0, 9, 15, 25)] = some c ∧ Q (some (.inl c)) S1))) : ma_fp X 19 d w 0 [(0, .inr (.inr (some 64))), (1, .inl x0), (2, .inr (.inr (some 125)))] [] S Q := by
  refine zf_push fm_19 dF19_0 (v := .inr (.inr (some 125))) rfl ?_
  refine zf_push fm_19 dF19_1 (v := .inl (0 : Int32)) rfl ?_
  refine zf_push fm_19 dF19_2 (v := .inr (.inr (some 64))) rfl ?_
  refine zf_push fm_19 dF19_3 (v := .inl x0) rfl ?_
  refine zf_cv fm_19 dF19_4 v_14_82_11 hm_163 [.inl x0] [.inl (0 : Int32), .inr (.inr (some 125))] rfl (zT_rt hS s_64 rfl) ⟨by omega, by omega⟩ rfl (zw_mono h (zi_go ?_ ?_))
  · intro v2 S1 hv
    obtain ⟨hS1, h⟩ := hv
    refine zf_stk fm_19 dF19_7 (st' := [.inr (.inl (v2.toInt64)), .inl (0 : Int32), .inr (.inr (some 125))]) rfl rfl ?_
    refine zf_one fm_19 dF19_8 (oo_las (zT_is hS1 s_125) (zT_h hS1 s_125) (a := 0) rfl ⟨by decide, by decide⟩) ?_
    refine zf_goto fm_19 dF19_9 (t := 18) rfl ?_
    refine zf_push fm_19 dF19_18 (v := .inl (0 : Int32)) rfl ?_
    exact zf_iret fm_19 dF19_19 h
  · intro x S9 hx
    exact ⟨⟨by decide, rfl⟩, hx⟩
theorem fw_19 {X : Nat × (Nat → Int32)} {d w : Nat} {S : ma_S} {Q : Option ma_V → ma_S → Prop} (x0 : Int32) (hd : 12 ≤ d) (hw : 471 ≤ w) (h : zHs S)  (K : ∀ v S', zCl S S' → mI S' 64 1 = mI S 64 1 → Q (some (.inl v)) S') : ma_fp X 19 d w 0 [(0, .inr (.inr (some 64))), (1, .inl x0), (2, .inr (.inr (some 125)))] [] S Q := by
  refine gf_19 x0 hd hw h.1.1 ?_
  rcases h.2 with e | ⟨p, hp, e⟩
  · exact sp_163_64_p0 x0 (by omega) (by omega) (zB_of h.1) e (fun v S' hI _ => zi_n ⟨zG_T hI, K _ _ (cl_put (cl_A h (zA_of hI) h.2 (Nat.le_succ _) (Nat.le_add_right _ _))) (fr_B hI)⟩) (fun x S' hx hI => zi_x (by
      rcases hx with rfl | rfl
      · exact ⟨_, hd_19_2, K _ _ (cl_X h (zA_of hI) h.2 (Nat.le_refl _) (Nat.le_refl _)) (fr_B hI)⟩
      · exact ⟨_, hd_19_3, K _ _ (cl_X h (zA_of hI) h.2 (Nat.le_refl _) (Nat.le_refl _)) (fr_B hI)⟩
      ))
  · simp only [zcl7, List.mem_cons, List.not_mem_nil, or_false] at hp
    rcases hp with rfl | rfl | rfl | rfl | rfl | rfl | rfl
    · exact sp_163_64_p79 x0 (by omega) (by omega) (zB_of h.1) e (fun v S' hI _ => zi_n ⟨zG_T hI, K _ _ (cl_put (cl_A h (zA_of hI) h.2 (Nat.le_succ _) (Nat.le_add_right _ _))) (fr_B hI)⟩) (fun x S' hx hI => zi_x (by
      rcases hx with rfl | rfl
      · exact ⟨_, hd_19_2, K _ _ (cl_X h (zA_of hI) h.2 (Nat.le_refl _) (Nat.le_refl _)) (fr_B hI)⟩
      · exact ⟨_, hd_19_3, K _ _ (cl_X h (zA_of hI) h.2 (Nat.le_refl _) (Nat.le_refl _)) (fr_B hI)⟩
      ))
    · exact sp_163_64_p80 x0 (by omega) (by omega) (zB_of h.1) e (fun v S' hI _ => zi_n ⟨zG_T hI, K _ _ (cl_put (cl_A h (zA_of hI) h.2 (Nat.le_succ _) (Nat.le_add_right _ _))) (fr_B hI)⟩) (fun x S' hx hI => zi_x (by
      rcases hx with rfl | rfl
      · exact ⟨_, hd_19_2, K _ _ (cl_X h (zA_of hI) h.2 (Nat.le_refl _) (Nat.le_refl _)) (fr_B hI)⟩
      · exact ⟨_, hd_19_3, K _ _ (cl_X h (zA_of hI) h.2 (Nat.le_refl _) (Nat.le_refl _)) (fr_B hI)⟩
      ))
    · exact sp_163_64_p81 x0 (by omega) (by omega) (zB_of h.1) e (fun v S' hI _ => zi_n ⟨zG_T hI, K _ _ (cl_put (cl_A h (zA_of hI) h.2 (Nat.le_succ _) (Nat.le_add_right _ _))) (fr_B hI)⟩) (fun x S' hx hI => zi_x (by
      rcases hx with rfl | rfl
      · exact ⟨_, hd_19_2, K _ _ (cl_X h (zA_of hI) h.2 (Nat.le_refl _) (Nat.le_refl _)) (fr_B hI)⟩
      · exact ⟨_, hd_19_3, K _ _ (cl_X h (zA_of hI) h.2 (Nat.le_refl _) (Nat.le_refl _)) (fr_B hI)⟩
      ))
    · exact sp_163_64_p82 x0 (by omega) (by omega) (zB_of h.1) e (fun v S' hI _ => zi_n ⟨zG_T hI, K _ _ (cl_put (cl_A h (zA_of hI) h.2 (Nat.le_succ _) (Nat.le_add_right _ _))) (fr_B hI)⟩) (fun x S' hx hI => zi_x (by
      rcases hx with rfl | rfl
      · exact ⟨_, hd_19_2, K _ _ (cl_X h (zA_of hI) h.2 (Nat.le_refl _) (Nat.le_refl _)) (fr_B hI)⟩
      · exact ⟨_, hd_19_3, K _ _ (cl_X h (zA_of hI) h.2 (Nat.le_refl _) (Nat.le_refl _)) (fr_B hI)⟩
      ))
    · exact sp_163_64_p84 x0 (by omega) (by omega) (zB_of h.1) e (fun v S' hI _ => zi_n ⟨zG_T hI, K _ _ (cl_put (cl_A h (zA_of hI) h.2 (Nat.le_succ _) (Nat.le_add_right _ _))) (fr_B hI)⟩) (fun x S' hx hI => zi_x (by
      rcases hx with rfl | rfl
      · exact ⟨_, hd_19_2, K _ _ (cl_X h (zA_of hI) h.2 (Nat.le_refl _) (Nat.le_refl _)) (fr_B hI)⟩
      · exact ⟨_, hd_19_3, K _ _ (cl_X h (zA_of hI) h.2 (Nat.le_refl _) (Nat.le_refl _)) (fr_B hI)⟩
      ))
    · exact sp_163_64_p87 x0 (by omega) (by omega) (zB_of h.1) e (fun v S' hI _ => zi_n ⟨zG_T hI, K _ _ (cl_put (cl_A h (zA_of hI) h.2 (Nat.le_succ _) (Nat.le_add_right _ _))) (fr_B hI)⟩) (fun x S' hx hI => zi_x (by
      rcases hx with rfl | rfl
      · exact ⟨_, hd_19_2, K _ _ (cl_X h (zA_of hI) h.2 (Nat.le_refl _) (Nat.le_refl _)) (fr_B hI)⟩
      · exact ⟨_, hd_19_3, K _ _ (cl_X h (zA_of hI) h.2 (Nat.le_refl _) (Nat.le_refl _)) (fr_B hI)⟩
      ))
    · exact sp_163_64_p91 x0 (by omega) (by omega) (zB_of h.1) e (fun v S' hI _ => zi_n ⟨zG_T hI, K _ _ (cl_put (cl_A h (zA_of hI) h.2 (Nat.le_succ _) (Nat.le_add_right _ _))) (fr_B hI)⟩) (fun x S' hx hI => zi_x (by
      rcases hx with rfl | rfl
      · exact ⟨_, hd_19_2, K _ _ (cl_X h (zA_of hI) h.2 (Nat.le_refl _) (Nat.le_refl _)) (fr_B hI)⟩
      · exact ⟨_, hd_19_3, K _ _ (cl_X h (zA_of hI) h.2 (Nat.le_refl _) (Nat.le_refl _)) (fr_B hI)⟩
      ))
