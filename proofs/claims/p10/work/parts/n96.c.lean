/-! tables; the methods that catch -/
theorem fm_0 : ma_fi 0 = some (code, 7, some .boolean, []) := rfl
theorem fm_1 : ma_fi 1 = some (method_3_code, 8, some .int, [(0, 16, 19, 13)]) := rfl
theorem fm_2 : ma_fi 2 = some (method_4_code, 4, some .int, [(0, 9, 12, 19)]) := rfl
theorem fm_3 : ma_fi 3 = some (method_5_code, 5, some .int, [(0, 10, 13, 19), (0, 10, 17, 25)]) := rfl
theorem fm_4 : ma_fi 4 = some (method_6_code, 5, some .int, [(0, 10, 13, 19), (0, 10, 17, 25)]) := rfl
theorem fm_5 : ma_fi 5 = some (method_7_code, 6, some .int, [(0, 12, 15, 19), (0, 12, 19, 25)]) := rfl
theorem fm_6 : ma_fi 6 = some (method_8_code, 6, some .int, [(0, 12, 15, 25), (0, 12, 19, 38), (0, 12, 23, 13), (0, 12, 27, 40)]) := rfl
theorem fm_7 : ma_fi 7 = some (method_9_code, 6, some .int, [(0, 12, 15, 25), (0, 12, 19, 38), (0, 12, 23, 13), (0, 12, 27, 40)]) := rfl
theorem fm_8 : ma_fi 8 = some (method_10_code, 5, some .int, [(0, 10, 13, 25), (0, 10, 17, 38), (0, 10, 21, 13)]) := rfl
theorem fm_9 : ma_fi 9 = some (method_11_code, 5, some .int, [(0, 10, 13, 19), (0, 10, 17, 25), (0, 10, 21, 38)]) := rfl
theorem fm_10 : ma_fi 10 = some (method_12_code, 5, some .int, [(0, 10, 13, 19), (0, 10, 17, 25), (0, 10, 21, 38)]) := rfl
theorem fm_11 : ma_fi 11 = some (method_13_code, 5, some .int, [(0, 10, 13, 19), (0, 10, 17, 25)]) := rfl
theorem fm_12 : ma_fi 12 = some (method_14_code, 5, some .int, [(0, 10, 13, 25), (0, 10, 17, 38), (0, 10, 21, 61)]) := rfl
theorem fm_13 : ma_fi 13 = some (method_15_code, 4, some .int, [(0, 9, 12, 25), (0, 9, 15, 38)]) := rfl
theorem fm_14 : ma_fi 14 = some (method_16_code, 4, some .int, [(0, 9, 12, 19), (0, 9, 15, 25)]) := rfl
theorem fm_15 : ma_fi 15 = some (method_17_code, 3, some .int, [(0, 8, 11, 25)]) := rfl
theorem fm_16 : ma_fi 16 = some (method_18_code, 4, some .int, [(0, 9, 12, 19), (0, 9, 15, 25), (0, 9, 18, 61)]) := rfl
theorem fm_17 : ma_fi 17 = some (method_19_code, 5, some .int, [(0, 10, 13, 19), (0, 10, 17, 25), (0, 10, 21, 38)]) := rfl
theorem fm_18 : ma_fi 18 = some (method_20_code, 5, some .int, [(0, 10, 13, 19), (0, 10, 17, 25), (0, 10, 21, 61), (0, 10, 25, 13)]) := rfl
theorem fm_19 : ma_fi 19 = some (method_21_code, 4, some .int, [(0, 9, 12, 19), (0, 9, 15, 25)]) := rfl
theorem s_125 : zs 125 = some (23, 1) := rfl
theorem v_14_7_11 : ma_vl 14 7 11 = some (0, 137, 5) := by decide +kernel
theorem v_14_15_11 : ma_vl 14 15 11 = some (0, 139, 1) := by decide +kernel
theorem v_14_21_11 : ma_vl 14 21 11 = some (0, 140, 2) := by decide +kernel
theorem v_14_27_11 : ma_vl 14 27 11 = some (0, 141, 2) := by decide +kernel
theorem v_14_30_11 : ma_vl 14 30 11 = some (0, 147, 3) := by decide +kernel
theorem v_14_34_11 : ma_vl 14 34 11 = some (0, 148, 3) := by decide +kernel
theorem v_14_42_11 : ma_vl 14 42 11 = some (0, 150, 3) := by decide +kernel
theorem v_14_45_11 : ma_vl 14 45 11 = some (0, 152, 2) := by decide +kernel
theorem v_14_48_11 : ma_vl 14 48 11 = some (0, 153, 2) := by decide +kernel
theorem v_14_51_11 : ma_vl 14 51 11 = some (0, 154, 2) := by decide +kernel
theorem v_14_54_11 : ma_vl 14 54 11 = some (0, 155, 2) := by decide +kernel
theorem v_14_57_11 : ma_vl 14 57 11 = some (0, 156, 2) := by decide +kernel
theorem v_14_63_11 : ma_vl 14 63 11 = some (0, 157, 1) := by decide +kernel
theorem v_14_66_11 : ma_vl 14 66 11 = some (0, 158, 1) := by decide +kernel
theorem v_14_69_11 : ma_vl 14 69 11 = some (0, 159, 0) := by decide +kernel
theorem v_14_73_11 : ma_vl 14 73 11 = some (0, 160, 1) := by decide +kernel
theorem v_14_76_11 : ma_vl 14 76 11 = some (0, 161, 2) := by decide +kernel
theorem v_14_79_11 : ma_vl 14 79 11 = some (0, 162, 2) := by decide +kernel
theorem v_14_82_11 : ma_vl 14 82 11 = some (0, 163, 1) := by decide +kernel
theorem v_14_94_12 : ma_vl 14 94 12 = some (0, 166, 5) := by decide +kernel
theorem v_14_98_12 : ma_vl 14 98 12 = some (0, 169, 1) := by decide +kernel
theorem v_14_102_12 : ma_vl 14 102 12 = some (0, 170, 2) := by decide +kernel
theorem v_14_103_11 : ma_vl 14 103 11 = some (0, 127, 0) := by decide +kernel
theorem v_14_106_12 : ma_vl 14 106 12 = some (0, 171, 0) := by decide +kernel
theorem v_14_109_12 : ma_vl 14 109 12 = some (0, 181, 2) := by decide +kernel
theorem v_14_113_12 : ma_vl 14 113 12 = some (0, 243, 3) := by decide +kernel
theorem v_14_117_12 : ma_vl 14 117 12 = some (0, 244, 3) := by decide +kernel
theorem v_14_120_12 : ma_vl 14 120 12 = some (0, 247, 3) := by decide +kernel
theorem v_14_123_12 : ma_vl 14 123 12 = some (0, 249, 2) := by decide +kernel
theorem v_14_124_12 : ma_vl 14 124 12 = some (0, 164, 0) := by decide +kernel
theorem v_14_129_12 : ma_vl 14 129 12 = some (0, 250, 2) := by decide +kernel
theorem v_14_132_12 : ma_vl 14 132 12 = some (0, 251, 2) := by decide +kernel
theorem v_14_135_12 : ma_vl 14 135 12 = some (0, 252, 2) := by decide +kernel
theorem v_14_139_12 : ma_vl 14 139 12 = some (0, 253, 2) := by decide +kernel
theorem v_14_142_12 : ma_vl 14 142 12 = some (0, 254, 1) := by decide +kernel
theorem v_14_145_12 : ma_vl 14 145 12 = some (0, 255, 1) := by decide +kernel
theorem v_14_149_12 : ma_vl 14 149 12 = some (0, 256, 0) := by decide +kernel
theorem v_14_152_12 : ma_vl 14 152 12 = some (0, 257, 1) := by decide +kernel
theorem v_14_155_12 : ma_vl 14 155 12 = some (0, 258, 2) := by decide +kernel
theorem v_14_158_12 : ma_vl 14 158 12 = some (0, 259, 2) := by decide +kernel
theorem v_14_161_12 : ma_vl 14 161 12 = some (0, 260, 1) := by decide +kernel
theorem cw_89 : ma_cwl 89 = some (1, 7) := by decide +kernel
theorem cw_95 : ma_cwl 95 = some (2, 3) := by decide +kernel
theorem cw_99 : ma_cwl 99 = some (3, 4) := by decide +kernel
theorem cw_107 : ma_cwl 107 = some (4, 4) := by decide +kernel
theorem cw_110 : ma_cwl 110 = some (5, 5) := by decide +kernel
theorem cw_114 : ma_cwl 114 = some (6, 5) := by decide +kernel
theorem cw_118 : ma_cwl 118 = some (7, 5) := by decide +kernel
theorem cw_121 : ma_cwl 121 = some (8, 4) := by decide +kernel
theorem cw_127 : ma_cwl 127 = some (9, 4) := by decide +kernel
theorem cw_130 : ma_cwl 130 = some (10, 4) := by decide +kernel
theorem cw_133 : ma_cwl 133 = some (11, 4) := by decide +kernel
theorem cw_136 : ma_cwl 136 = some (12, 4) := by decide +kernel
theorem cw_140 : ma_cwl 140 = some (13, 3) := by decide +kernel
theorem cw_143 : ma_cwl 143 = some (14, 3) := by decide +kernel
theorem cw_146 : ma_cwl 146 = some (15, 2) := by decide +kernel
theorem cw_150 : ma_cwl 150 = some (16, 3) := by decide +kernel
theorem cw_153 : ma_cwl 153 = some (17, 4) := by decide +kernel
theorem cw_156 : ma_cwl 156 = some (18, 4) := by decide +kernel
theorem cw_159 : ma_cwl 159 = some (19, 3) := by decide +kernel
theorem dF1_0 : decode method_3_code 0 = .ok (.aload 6, 2) := by decide +kernel
theorem dF1_2 : decode method_3_code 2 = .ok (.iconst 0, 1) := by decide +kernel
theorem dF1_3 : decode method_3_code 3 = .ok (.aload_n 0, 1) := by decide +kernel
theorem dF1_4 : decode method_3_code 4 = .ok (.iload_n 1, 1) := by decide +kernel
theorem dF1_5 : decode method_3_code 5 = .ok (.iload_n 2, 1) := by decide +kernel
theorem dF1_6 : decode method_3_code 6 = .ok (.iload_n 3, 1) := by decide +kernel
theorem dF1_7 : decode method_3_code 7 = .ok (.iload 4, 2) := by decide +kernel
theorem dF1_9 : decode method_3_code 9 = .ok (.iload 5, 2) := by decide +kernel
theorem dF1_11 : decode method_3_code 11 = .ok (.invokevirtual 7, 3) := by decide +kernel
theorem dF1_14 : decode method_3_code 14 = .ok (.i2l, 1) := by decide +kernel
theorem dF1_15 : decode method_3_code 15 = .ok (.lastore, 1) := by decide +kernel
theorem dF1_16 : decode method_3_code 16 = .ok (.goto 7, 3) := by decide +kernel
theorem dF1_23 : decode method_3_code 23 = .ok (.iconst 0, 1) := by decide +kernel
theorem dF1_24 : decode method_3_code 24 = .ok (.ireturn, 1) := by decide +kernel
theorem dF2_0 : decode method_4_code 0 = .ok (.aload_n 2, 1) := by decide +kernel
theorem dF2_1 : decode method_4_code 1 = .ok (.iconst 0, 1) := by decide +kernel
theorem dF2_2 : decode method_4_code 2 = .ok (.aload_n 0, 1) := by decide +kernel
theorem dF2_3 : decode method_4_code 3 = .ok (.iload_n 1, 1) := by decide +kernel
theorem dF2_4 : decode method_4_code 4 = .ok (.invokevirtual 15, 3) := by decide +kernel
theorem dF2_7 : decode method_4_code 7 = .ok (.i2l, 1) := by decide +kernel
theorem dF2_8 : decode method_4_code 8 = .ok (.lastore, 1) := by decide +kernel
theorem dF2_9 : decode method_4_code 9 = .ok (.goto 6, 3) := by decide +kernel
theorem dF2_15 : decode method_4_code 15 = .ok (.iconst 0, 1) := by decide +kernel
theorem dF2_16 : decode method_4_code 16 = .ok (.ireturn, 1) := by decide +kernel
theorem dF3_0 : decode method_5_code 0 = .ok (.aload_n 3, 1) := by decide +kernel
theorem dF3_1 : decode method_5_code 1 = .ok (.iconst 0, 1) := by decide +kernel
theorem dF3_2 : decode method_5_code 2 = .ok (.aload_n 0, 1) := by decide +kernel
theorem dF3_3 : decode method_5_code 3 = .ok (.iload_n 1, 1) := by decide +kernel
theorem dF3_4 : decode method_5_code 4 = .ok (.iload_n 2, 1) := by decide +kernel
theorem dF3_5 : decode method_5_code 5 = .ok (.invokevirtual 21, 3) := by decide +kernel
theorem dF3_8 : decode method_5_code 8 = .ok (.i2l, 1) := by decide +kernel
theorem dF3_9 : decode method_5_code 9 = .ok (.lastore, 1) := by decide +kernel
theorem dF3_10 : decode method_5_code 10 = .ok (.goto 11, 3) := by decide +kernel
theorem dF3_21 : decode method_5_code 21 = .ok (.iconst 0, 1) := by decide +kernel
theorem dF3_22 : decode method_5_code 22 = .ok (.ireturn, 1) := by decide +kernel
theorem dF4_0 : decode method_6_code 0 = .ok (.aload_n 3, 1) := by decide +kernel
theorem dF4_1 : decode method_6_code 1 = .ok (.iconst 0, 1) := by decide +kernel
theorem dF4_2 : decode method_6_code 2 = .ok (.aload_n 0, 1) := by decide +kernel
theorem dF4_3 : decode method_6_code 3 = .ok (.iload_n 1, 1) := by decide +kernel
theorem dF4_4 : decode method_6_code 4 = .ok (.iload_n 2, 1) := by decide +kernel
theorem dF4_5 : decode method_6_code 5 = .ok (.invokevirtual 27, 3) := by decide +kernel
theorem dF4_8 : decode method_6_code 8 = .ok (.i2l, 1) := by decide +kernel
theorem dF4_9 : decode method_6_code 9 = .ok (.lastore, 1) := by decide +kernel
theorem dF4_10 : decode method_6_code 10 = .ok (.goto 11, 3) := by decide +kernel
theorem dF4_21 : decode method_6_code 21 = .ok (.iconst 0, 1) := by decide +kernel
theorem dF4_22 : decode method_6_code 22 = .ok (.ireturn, 1) := by decide +kernel
theorem dF5_0 : decode method_7_code 0 = .ok (.aload 4, 2) := by decide +kernel
theorem dF5_2 : decode method_7_code 2 = .ok (.iconst 0, 1) := by decide +kernel
theorem dF5_3 : decode method_7_code 3 = .ok (.aload_n 0, 1) := by decide +kernel
theorem dF5_4 : decode method_7_code 4 = .ok (.iload_n 1, 1) := by decide +kernel
theorem dF5_5 : decode method_7_code 5 = .ok (.iload_n 2, 1) := by decide +kernel
theorem dF5_6 : decode method_7_code 6 = .ok (.iload_n 3, 1) := by decide +kernel
theorem dF5_7 : decode method_7_code 7 = .ok (.invokevirtual 30, 3) := by decide +kernel
theorem dF5_10 : decode method_7_code 10 = .ok (.i2l, 1) := by decide +kernel
theorem dF5_11 : decode method_7_code 11 = .ok (.lastore, 1) := by decide +kernel
theorem dF5_12 : decode method_7_code 12 = .ok (.goto 11, 3) := by decide +kernel
theorem dF5_23 : decode method_7_code 23 = .ok (.iconst 0, 1) := by decide +kernel
theorem dF5_24 : decode method_7_code 24 = .ok (.ireturn, 1) := by decide +kernel
theorem dF6_0 : decode method_8_code 0 = .ok (.aload 4, 2) := by decide +kernel
theorem dF6_2 : decode method_8_code 2 = .ok (.iconst 0, 1) := by decide +kernel
theorem dF6_3 : decode method_8_code 3 = .ok (.aload_n 0, 1) := by decide +kernel
theorem dF6_4 : decode method_8_code 4 = .ok (.iload_n 1, 1) := by decide +kernel
theorem dF6_5 : decode method_8_code 5 = .ok (.iload_n 2, 1) := by decide +kernel
theorem dF6_6 : decode method_8_code 6 = .ok (.iload_n 3, 1) := by decide +kernel
theorem dF6_7 : decode method_8_code 7 = .ok (.invokevirtual 34, 3) := by decide +kernel
theorem dF6_10 : decode method_8_code 10 = .ok (.i2l, 1) := by decide +kernel
theorem dF6_11 : decode method_8_code 11 = .ok (.lastore, 1) := by decide +kernel
theorem dF6_12 : decode method_8_code 12 = .ok (.goto 19, 3) := by decide +kernel
theorem dF6_31 : decode method_8_code 31 = .ok (.iconst 0, 1) := by decide +kernel
theorem dF6_32 : decode method_8_code 32 = .ok (.ireturn, 1) := by decide +kernel
theorem dF7_0 : decode method_9_code 0 = .ok (.aload 4, 2) := by decide +kernel
theorem dF7_2 : decode method_9_code 2 = .ok (.iconst 0, 1) := by decide +kernel
theorem dF7_3 : decode method_9_code 3 = .ok (.aload_n 0, 1) := by decide +kernel
theorem dF7_4 : decode method_9_code 4 = .ok (.iload_n 1, 1) := by decide +kernel
theorem dF7_5 : decode method_9_code 5 = .ok (.iload_n 2, 1) := by decide +kernel
theorem dF7_6 : decode method_9_code 6 = .ok (.iload_n 3, 1) := by decide +kernel
theorem dF7_7 : decode method_9_code 7 = .ok (.invokevirtual 42, 3) := by decide +kernel
theorem dF7_10 : decode method_9_code 10 = .ok (.i2l, 1) := by decide +kernel
theorem dF7_11 : decode method_9_code 11 = .ok (.lastore, 1) := by decide +kernel
theorem dF7_12 : decode method_9_code 12 = .ok (.goto 19, 3) := by decide +kernel
theorem dF7_31 : decode method_9_code 31 = .ok (.iconst 0, 1) := by decide +kernel
theorem dF7_32 : decode method_9_code 32 = .ok (.ireturn, 1) := by decide +kernel
theorem dF8_0 : decode method_10_code 0 = .ok (.aload_n 3, 1) := by decide +kernel
theorem dF8_1 : decode method_10_code 1 = .ok (.iconst 0, 1) := by decide +kernel
theorem dF8_2 : decode method_10_code 2 = .ok (.aload_n 0, 1) := by decide +kernel
theorem dF8_3 : decode method_10_code 3 = .ok (.iload_n 1, 1) := by decide +kernel
theorem dF8_4 : decode method_10_code 4 = .ok (.iload_n 2, 1) := by decide +kernel
theorem dF8_5 : decode method_10_code 5 = .ok (.invokevirtual 45, 3) := by decide +kernel
theorem dF8_8 : decode method_10_code 8 = .ok (.i2l, 1) := by decide +kernel
theorem dF8_9 : decode method_10_code 9 = .ok (.lastore, 1) := by decide +kernel
theorem dF8_10 : decode method_10_code 10 = .ok (.goto 15, 3) := by decide +kernel
theorem dF8_25 : decode method_10_code 25 = .ok (.iconst 0, 1) := by decide +kernel
theorem dF8_26 : decode method_10_code 26 = .ok (.ireturn, 1) := by decide +kernel
theorem dF9_0 : decode method_11_code 0 = .ok (.aload_n 3, 1) := by decide +kernel
theorem dF9_1 : decode method_11_code 1 = .ok (.iconst 0, 1) := by decide +kernel
theorem dF9_2 : decode method_11_code 2 = .ok (.aload_n 0, 1) := by decide +kernel
theorem dF9_3 : decode method_11_code 3 = .ok (.iload_n 1, 1) := by decide +kernel
theorem dF9_4 : decode method_11_code 4 = .ok (.iload_n 2, 1) := by decide +kernel
theorem dF9_5 : decode method_11_code 5 = .ok (.invokevirtual 48, 3) := by decide +kernel
theorem dF9_8 : decode method_11_code 8 = .ok (.i2l, 1) := by decide +kernel
theorem dF9_9 : decode method_11_code 9 = .ok (.lastore, 1) := by decide +kernel
theorem dF9_10 : decode method_11_code 10 = .ok (.goto 15, 3) := by decide +kernel
theorem dF9_25 : decode method_11_code 25 = .ok (.iconst 0, 1) := by decide +kernel
theorem dF9_26 : decode method_11_code 26 = .ok (.ireturn, 1) := by decide +kernel
theorem dF10_0 : decode method_12_code 0 = .ok (.aload_n 3, 1) := by decide +kernel
theorem dF10_1 : decode method_12_code 1 = .ok (.iconst 0, 1) := by decide +kernel
theorem dF10_2 : decode method_12_code 2 = .ok (.aload_n 0, 1) := by decide +kernel
theorem dF10_3 : decode method_12_code 3 = .ok (.iload_n 1, 1) := by decide +kernel
theorem dF10_4 : decode method_12_code 4 = .ok (.iload_n 2, 1) := by decide +kernel
theorem dF10_5 : decode method_12_code 5 = .ok (.invokevirtual 51, 3) := by decide +kernel
theorem dF10_8 : decode method_12_code 8 = .ok (.i2l, 1) := by decide +kernel
theorem dF10_9 : decode method_12_code 9 = .ok (.lastore, 1) := by decide +kernel
theorem dF10_10 : decode method_12_code 10 = .ok (.goto 15, 3) := by decide +kernel
theorem dF10_25 : decode method_12_code 25 = .ok (.iconst 0, 1) := by decide +kernel
theorem dF10_26 : decode method_12_code 26 = .ok (.ireturn, 1) := by decide +kernel
theorem dF11_0 : decode method_13_code 0 = .ok (.aload_n 3, 1) := by decide +kernel
theorem dF11_1 : decode method_13_code 1 = .ok (.iconst 0, 1) := by decide +kernel
theorem dF11_2 : decode method_13_code 2 = .ok (.aload_n 0, 1) := by decide +kernel
theorem dF11_3 : decode method_13_code 3 = .ok (.iload_n 1, 1) := by decide +kernel
theorem dF11_4 : decode method_13_code 4 = .ok (.iload_n 2, 1) := by decide +kernel
theorem dF11_5 : decode method_13_code 5 = .ok (.invokevirtual 54, 3) := by decide +kernel
theorem dF11_8 : decode method_13_code 8 = .ok (.i2l, 1) := by decide +kernel
theorem dF11_9 : decode method_13_code 9 = .ok (.lastore, 1) := by decide +kernel
theorem dF11_10 : decode method_13_code 10 = .ok (.goto 11, 3) := by decide +kernel
theorem dF11_21 : decode method_13_code 21 = .ok (.iconst 0, 1) := by decide +kernel
theorem dF11_22 : decode method_13_code 22 = .ok (.ireturn, 1) := by decide +kernel
theorem dF12_0 : decode method_14_code 0 = .ok (.aload_n 3, 1) := by decide +kernel
theorem dF12_1 : decode method_14_code 1 = .ok (.iconst 0, 1) := by decide +kernel
theorem dF12_2 : decode method_14_code 2 = .ok (.aload_n 0, 1) := by decide +kernel
theorem dF12_3 : decode method_14_code 3 = .ok (.iload_n 1, 1) := by decide +kernel
theorem dF12_4 : decode method_14_code 4 = .ok (.iload_n 2, 1) := by decide +kernel
theorem dF12_5 : decode method_14_code 5 = .ok (.invokevirtual 57, 3) := by decide +kernel
theorem dF12_8 : decode method_14_code 8 = .ok (.i2l, 1) := by decide +kernel
theorem dF12_9 : decode method_14_code 9 = .ok (.lastore, 1) := by decide +kernel
theorem dF12_10 : decode method_14_code 10 = .ok (.goto 15, 3) := by decide +kernel
theorem dF12_25 : decode method_14_code 25 = .ok (.iconst 0, 1) := by decide +kernel
theorem dF12_26 : decode method_14_code 26 = .ok (.ireturn, 1) := by decide +kernel
theorem dF13_0 : decode method_15_code 0 = .ok (.aload_n 2, 1) := by decide +kernel
theorem dF13_1 : decode method_15_code 1 = .ok (.iconst 0, 1) := by decide +kernel
theorem dF13_2 : decode method_15_code 2 = .ok (.aload_n 0, 1) := by decide +kernel
theorem dF13_3 : decode method_15_code 3 = .ok (.iload_n 1, 1) := by decide +kernel
theorem dF13_4 : decode method_15_code 4 = .ok (.invokevirtual 63, 3) := by decide +kernel
theorem dF13_7 : decode method_15_code 7 = .ok (.i2l, 1) := by decide +kernel
theorem dF13_8 : decode method_15_code 8 = .ok (.lastore, 1) := by decide +kernel
theorem dF13_9 : decode method_15_code 9 = .ok (.goto 9, 3) := by decide +kernel
theorem dF13_18 : decode method_15_code 18 = .ok (.iconst 0, 1) := by decide +kernel
theorem dF13_19 : decode method_15_code 19 = .ok (.ireturn, 1) := by decide +kernel
theorem dF14_0 : decode method_16_code 0 = .ok (.aload_n 2, 1) := by decide +kernel
theorem dF14_1 : decode method_16_code 1 = .ok (.iconst 0, 1) := by decide +kernel
theorem dF14_2 : decode method_16_code 2 = .ok (.aload_n 0, 1) := by decide +kernel
theorem dF14_3 : decode method_16_code 3 = .ok (.iload_n 1, 1) := by decide +kernel
theorem dF14_4 : decode method_16_code 4 = .ok (.invokevirtual 66, 3) := by decide +kernel
theorem dF14_7 : decode method_16_code 7 = .ok (.i2l, 1) := by decide +kernel
theorem dF14_8 : decode method_16_code 8 = .ok (.lastore, 1) := by decide +kernel
theorem dF14_9 : decode method_16_code 9 = .ok (.goto 9, 3) := by decide +kernel
theorem dF14_18 : decode method_16_code 18 = .ok (.iconst 0, 1) := by decide +kernel
theorem dF14_19 : decode method_16_code 19 = .ok (.ireturn, 1) := by decide +kernel
theorem dF15_0 : decode method_17_code 0 = .ok (.aload_n 1, 1) := by decide +kernel
theorem dF15_1 : decode method_17_code 1 = .ok (.iconst 0, 1) := by decide +kernel
theorem dF15_2 : decode method_17_code 2 = .ok (.aload_n 0, 1) := by decide +kernel
theorem dF15_3 : decode method_17_code 3 = .ok (.invokevirtual 69, 3) := by decide +kernel
theorem dF15_6 : decode method_17_code 6 = .ok (.i2l, 1) := by decide +kernel
theorem dF15_7 : decode method_17_code 7 = .ok (.lastore, 1) := by decide +kernel
theorem dF15_8 : decode method_17_code 8 = .ok (.goto 6, 3) := by decide +kernel
theorem dF15_14 : decode method_17_code 14 = .ok (.iconst 0, 1) := by decide +kernel
theorem dF15_15 : decode method_17_code 15 = .ok (.ireturn, 1) := by decide +kernel
theorem dF16_0 : decode method_18_code 0 = .ok (.aload_n 2, 1) := by decide +kernel
theorem dF16_1 : decode method_18_code 1 = .ok (.iconst 0, 1) := by decide +kernel
theorem dF16_2 : decode method_18_code 2 = .ok (.aload_n 0, 1) := by decide +kernel
theorem dF16_3 : decode method_18_code 3 = .ok (.iload_n 1, 1) := by decide +kernel
theorem dF16_4 : decode method_18_code 4 = .ok (.invokevirtual 73, 3) := by decide +kernel
theorem dF16_7 : decode method_18_code 7 = .ok (.i2l, 1) := by decide +kernel
theorem dF16_8 : decode method_18_code 8 = .ok (.lastore, 1) := by decide +kernel
theorem dF16_9 : decode method_18_code 9 = .ok (.goto 12, 3) := by decide +kernel
theorem dF16_21 : decode method_18_code 21 = .ok (.iconst 0, 1) := by decide +kernel
theorem dF16_22 : decode method_18_code 22 = .ok (.ireturn, 1) := by decide +kernel
theorem dF17_0 : decode method_19_code 0 = .ok (.aload_n 3, 1) := by decide +kernel
theorem dF17_1 : decode method_19_code 1 = .ok (.iconst 0, 1) := by decide +kernel
theorem dF17_2 : decode method_19_code 2 = .ok (.aload_n 0, 1) := by decide +kernel
theorem dF17_3 : decode method_19_code 3 = .ok (.iload_n 1, 1) := by decide +kernel
theorem dF17_4 : decode method_19_code 4 = .ok (.iload_n 2, 1) := by decide +kernel
theorem dF17_5 : decode method_19_code 5 = .ok (.invokevirtual 76, 3) := by decide +kernel
theorem dF17_8 : decode method_19_code 8 = .ok (.i2l, 1) := by decide +kernel
theorem dF17_9 : decode method_19_code 9 = .ok (.lastore, 1) := by decide +kernel
theorem dF17_10 : decode method_19_code 10 = .ok (.goto 15, 3) := by decide +kernel
theorem dF17_25 : decode method_19_code 25 = .ok (.iconst 0, 1) := by decide +kernel
theorem dF17_26 : decode method_19_code 26 = .ok (.ireturn, 1) := by decide +kernel
theorem dF18_0 : decode method_20_code 0 = .ok (.aload_n 3, 1) := by decide +kernel
theorem dF18_1 : decode method_20_code 1 = .ok (.iconst 0, 1) := by decide +kernel
theorem dF18_2 : decode method_20_code 2 = .ok (.aload_n 0, 1) := by decide +kernel
theorem dF18_3 : decode method_20_code 3 = .ok (.iload_n 1, 1) := by decide +kernel
theorem dF18_4 : decode method_20_code 4 = .ok (.iload_n 2, 1) := by decide +kernel
theorem dF18_5 : decode method_20_code 5 = .ok (.invokevirtual 79, 3) := by decide +kernel
theorem dF18_8 : decode method_20_code 8 = .ok (.i2l, 1) := by decide +kernel
theorem dF18_9 : decode method_20_code 9 = .ok (.lastore, 1) := by decide +kernel
theorem dF18_10 : decode method_20_code 10 = .ok (.goto 19, 3) := by decide +kernel
theorem dF18_29 : decode method_20_code 29 = .ok (.iconst 0, 1) := by decide +kernel
theorem dF18_30 : decode method_20_code 30 = .ok (.ireturn, 1) := by decide +kernel
theorem dF19_0 : decode method_21_code 0 = .ok (.aload_n 2, 1) := by decide +kernel
theorem dF19_1 : decode method_21_code 1 = .ok (.iconst 0, 1) := by decide +kernel
theorem dF19_2 : decode method_21_code 2 = .ok (.aload_n 0, 1) := by decide +kernel
theorem dF19_3 : decode method_21_code 3 = .ok (.iload_n 1, 1) := by decide +kernel
theorem dF19_4 : decode method_21_code 4 = .ok (.invokevirtual 82, 3) := by decide +kernel
theorem dF19_7 : decode method_21_code 7 = .ok (.i2l, 1) := by decide +kernel
theorem dF19_8 : decode method_21_code 8 = .ok (.lastore, 1) := by decide +kernel
theorem dF19_9 : decode method_21_code 9 = .ok (.goto 9, 3) := by decide +kernel
theorem dF19_18 : decode method_21_code 18 = .ok (.iconst 0, 1) := by decide +kernel
theorem dF19_19 : decode method_21_code 19 = .ok (.ireturn, 1) := by decide +kernel
theorem dF0_23 : decode code 23 = .ok (.iload 4, 2) := by decide +kernel
theorem dF0_25 : decode code 25 = .ok (.aload_n 0, 1) := by decide +kernel
theorem dF0_26 : decode code 26 = .ok (.arraylength, 1) := by decide +kernel
theorem dF0_27 : decode code 27 = .ok (.bipush 6, 2) := by decide +kernel
theorem dF0_29 : decode code 29 = .ok (.isub, 1) := by decide +kernel
theorem dF0_963 : decode code 963 = .ok (.iconst 1, 1) := by decide +kernel
theorem dF0_964 : decode code 964 = .ok (.ireturn, 1) := by decide +kernel
theorem dF0_33 : decode code 33 = .ok (.aload_n 0, 1) := by decide +kernel
theorem dF0_34 : decode code 34 = .ok (.iload 4, 2) := by decide +kernel
theorem dF0_37 : decode code 37 = .ok (.bipush 31, 2) := by decide +kernel
theorem dF0_39 : decode code 39 = .ok (.iand, 1) := by decide +kernel
theorem dF0_40 : decode code 40 = .ok (.tableswitch 917 0 19 #[96, 172, 200, 240, 253, 293, 361, 413, 465, 533, 573, 613, 653, 709, 737, 765, 781, 809, 849, 889], 96) := by decide +kernel
theorem dF0_36 : decode code 36 = .ok (.iaload, 1) := by decide +kernel
theorem dF0_30 : decode code 30 = .ok (.if_icmp .gt 933, 3) := by decide +kernel
theorem dF0_957 : decode code 957 = .ok (.iinc 4 6, 3) := by decide +kernel
theorem dF0_960 : decode code 960 = .ok (.goto (-937), 3) := by decide +kernel
theorem dF0_136 : decode code 136 = .ok (.aload_n 1, 1) := by decide +kernel
theorem dF0_137 : decode code 137 = .ok (.aload_n 0, 1) := by decide +kernel
theorem dF0_138 : decode code 138 = .ok (.iload 4, 2) := by decide +kernel
theorem dF0_140 : decode code 140 = .ok (.iconst 1, 1) := by decide +kernel
theorem dF0_141 : decode code 141 = .ok (.iadd, 1) := by decide +kernel
theorem dF0_143 : decode code 143 = .ok (.aload_n 0, 1) := by decide +kernel
theorem dF0_144 : decode code 144 = .ok (.iload 4, 2) := by decide +kernel
theorem dF0_146 : decode code 146 = .ok (.iconst 2, 1) := by decide +kernel
theorem dF0_147 : decode code 147 = .ok (.iadd, 1) := by decide +kernel
theorem dF0_149 : decode code 149 = .ok (.aload_n 0, 1) := by decide +kernel
theorem dF0_150 : decode code 150 = .ok (.iload 4, 2) := by decide +kernel
theorem dF0_152 : decode code 152 = .ok (.iconst 3, 1) := by decide +kernel
theorem dF0_153 : decode code 153 = .ok (.iadd, 1) := by decide +kernel
theorem dF0_155 : decode code 155 = .ok (.aload_n 0, 1) := by decide +kernel
theorem dF0_156 : decode code 156 = .ok (.iload 4, 2) := by decide +kernel
theorem dF0_158 : decode code 158 = .ok (.iconst 4, 1) := by decide +kernel
theorem dF0_159 : decode code 159 = .ok (.iadd, 1) := by decide +kernel
theorem dF0_161 : decode code 161 = .ok (.aload_n 0, 1) := by decide +kernel
theorem dF0_162 : decode code 162 = .ok (.iload 4, 2) := by decide +kernel
theorem dF0_164 : decode code 164 = .ok (.iconst 5, 1) := by decide +kernel
theorem dF0_165 : decode code 165 = .ok (.iadd, 1) := by decide +kernel
theorem dF0_167 : decode code 167 = .ok (.aload_n 3, 1) := by decide +kernel
theorem dF0_171 : decode code 171 = .ok (.istore 5, 2) := by decide +kernel
theorem dF0_173 : decode code 173 = .ok (.aload_n 2, 1) := by decide +kernel
theorem dF0_174 : decode code 174 = .ok (.aload_n 0, 1) := by decide +kernel
theorem dF0_175 : decode code 175 = .ok (.iload 4, 2) := by decide +kernel
theorem dF0_177 : decode code 177 = .ok (.iconst 1, 1) := by decide +kernel
theorem dF0_178 : decode code 178 = .ok (.iadd, 1) := by decide +kernel
theorem dF0_180 : decode code 180 = .ok (.aload_n 0, 1) := by decide +kernel
theorem dF0_181 : decode code 181 = .ok (.iload 4, 2) := by decide +kernel
theorem dF0_183 : decode code 183 = .ok (.iconst 2, 1) := by decide +kernel
theorem dF0_184 : decode code 184 = .ok (.iadd, 1) := by decide +kernel
theorem dF0_186 : decode code 186 = .ok (.aload_n 0, 1) := by decide +kernel
theorem dF0_187 : decode code 187 = .ok (.iload 4, 2) := by decide +kernel
theorem dF0_189 : decode code 189 = .ok (.iconst 3, 1) := by decide +kernel
theorem dF0_190 : decode code 190 = .ok (.iadd, 1) := by decide +kernel
theorem dF0_192 : decode code 192 = .ok (.aload_n 0, 1) := by decide +kernel
theorem dF0_193 : decode code 193 = .ok (.iload 4, 2) := by decide +kernel
theorem dF0_195 : decode code 195 = .ok (.iconst 4, 1) := by decide +kernel
theorem dF0_196 : decode code 196 = .ok (.iadd, 1) := by decide +kernel
theorem dF0_198 : decode code 198 = .ok (.aload_n 0, 1) := by decide +kernel
theorem dF0_199 : decode code 199 = .ok (.iload 4, 2) := by decide +kernel
theorem dF0_201 : decode code 201 = .ok (.iconst 5, 1) := by decide +kernel
theorem dF0_202 : decode code 202 = .ok (.iadd, 1) := by decide +kernel
theorem dF0_204 : decode code 204 = .ok (.invokevirtual 94, 3) := by decide +kernel
theorem dF0_207 : decode code 207 = .ok (.istore 6, 2) := by decide +kernel
theorem dF0_209 : decode code 209 = .ok (.goto 748, 3) := by decide +kernel
theorem dF0_203 : decode code 203 = .ok (.iaload, 1) := by decide +kernel
theorem dF0_197 : decode code 197 = .ok (.iaload, 1) := by decide +kernel
theorem dF0_191 : decode code 191 = .ok (.iaload, 1) := by decide +kernel
theorem dF0_185 : decode code 185 = .ok (.iaload, 1) := by decide +kernel
theorem dF0_179 : decode code 179 = .ok (.iaload, 1) := by decide +kernel
theorem dF0_168 : decode code 168 = .ok (.invokestatic 89, 3) := by decide +kernel
theorem dF0_166 : decode code 166 = .ok (.iaload, 1) := by decide +kernel
theorem dF0_160 : decode code 160 = .ok (.iaload, 1) := by decide +kernel
theorem dF0_154 : decode code 154 = .ok (.iaload, 1) := by decide +kernel
theorem dF0_148 : decode code 148 = .ok (.iaload, 1) := by decide +kernel
theorem dF0_142 : decode code 142 = .ok (.iaload, 1) := by decide +kernel
theorem dF0_212 : decode code 212 = .ok (.aload_n 1, 1) := by decide +kernel
theorem dF0_213 : decode code 213 = .ok (.aload_n 0, 1) := by decide +kernel
theorem dF0_214 : decode code 214 = .ok (.iload 4, 2) := by decide +kernel
theorem dF0_216 : decode code 216 = .ok (.iconst 1, 1) := by decide +kernel
theorem dF0_217 : decode code 217 = .ok (.iadd, 1) := by decide +kernel
theorem dF0_219 : decode code 219 = .ok (.aload_n 3, 1) := by decide +kernel
theorem dF0_223 : decode code 223 = .ok (.istore 5, 2) := by decide +kernel
theorem dF0_225 : decode code 225 = .ok (.aload_n 2, 1) := by decide +kernel
theorem dF0_226 : decode code 226 = .ok (.aload_n 0, 1) := by decide +kernel
theorem dF0_227 : decode code 227 = .ok (.iload 4, 2) := by decide +kernel
theorem dF0_229 : decode code 229 = .ok (.iconst 1, 1) := by decide +kernel
theorem dF0_230 : decode code 230 = .ok (.iadd, 1) := by decide +kernel
theorem dF0_232 : decode code 232 = .ok (.invokevirtual 98, 3) := by decide +kernel
theorem dF0_235 : decode code 235 = .ok (.istore 6, 2) := by decide +kernel
theorem dF0_237 : decode code 237 = .ok (.goto 720, 3) := by decide +kernel
theorem dF0_231 : decode code 231 = .ok (.iaload, 1) := by decide +kernel
theorem dF0_220 : decode code 220 = .ok (.invokestatic 95, 3) := by decide +kernel
theorem dF0_218 : decode code 218 = .ok (.iaload, 1) := by decide +kernel
theorem dF0_240 : decode code 240 = .ok (.aload_n 1, 1) := by decide +kernel
theorem dF0_241 : decode code 241 = .ok (.aload_n 0, 1) := by decide +kernel
theorem dF0_242 : decode code 242 = .ok (.iload 4, 2) := by decide +kernel
theorem dF0_244 : decode code 244 = .ok (.iconst 1, 1) := by decide +kernel
theorem dF0_245 : decode code 245 = .ok (.iadd, 1) := by decide +kernel
theorem dF0_247 : decode code 247 = .ok (.aload_n 0, 1) := by decide +kernel
theorem dF0_248 : decode code 248 = .ok (.iload 4, 2) := by decide +kernel
theorem dF0_250 : decode code 250 = .ok (.iconst 2, 1) := by decide +kernel
theorem dF0_251 : decode code 251 = .ok (.iadd, 1) := by decide +kernel
theorem dF0_253 : decode code 253 = .ok (.aload_n 3, 1) := by decide +kernel
theorem dF0_257 : decode code 257 = .ok (.istore 5, 2) := by decide +kernel
theorem dF0_259 : decode code 259 = .ok (.aload_n 2, 1) := by decide +kernel
theorem dF0_260 : decode code 260 = .ok (.aload_n 0, 1) := by decide +kernel
theorem dF0_261 : decode code 261 = .ok (.iload 4, 2) := by decide +kernel
theorem dF0_263 : decode code 263 = .ok (.iconst 1, 1) := by decide +kernel
theorem dF0_264 : decode code 264 = .ok (.iadd, 1) := by decide +kernel
theorem dF0_266 : decode code 266 = .ok (.aload_n 0, 1) := by decide +kernel
theorem dF0_267 : decode code 267 = .ok (.iload 4, 2) := by decide +kernel
theorem dF0_269 : decode code 269 = .ok (.iconst 2, 1) := by decide +kernel
theorem dF0_270 : decode code 270 = .ok (.iadd, 1) := by decide +kernel
theorem dF0_272 : decode code 272 = .ok (.invokevirtual 102, 3) := by decide +kernel
theorem dF0_275 : decode code 275 = .ok (.istore 6, 2) := by decide +kernel
theorem dF0_277 : decode code 277 = .ok (.goto 680, 3) := by decide +kernel
theorem dF0_271 : decode code 271 = .ok (.iaload, 1) := by decide +kernel
theorem dF0_265 : decode code 265 = .ok (.iaload, 1) := by decide +kernel
theorem dF0_254 : decode code 254 = .ok (.invokestatic 99, 3) := by decide +kernel
theorem dF0_252 : decode code 252 = .ok (.iaload, 1) := by decide +kernel
theorem dF0_246 : decode code 246 = .ok (.iaload, 1) := by decide +kernel
theorem dF0_280 : decode code 280 = .ok (.aload_n 1, 1) := by decide +kernel
theorem dF0_281 : decode code 281 = .ok (.invokevirtual 103, 3) := by decide +kernel
theorem dF0_284 : decode code 284 = .ok (.pop, 1) := by decide +kernel
theorem dF0_285 : decode code 285 = .ok (.aload_n 2, 1) := by decide +kernel
theorem dF0_286 : decode code 286 = .ok (.invokevirtual 106, 3) := by decide +kernel
theorem dF0_289 : decode code 289 = .ok (.pop, 1) := by decide +kernel
theorem dF0_290 : decode code 290 = .ok (.goto 667, 3) := by decide +kernel
theorem dF0_293 : decode code 293 = .ok (.aload_n 1, 1) := by decide +kernel
theorem dF0_294 : decode code 294 = .ok (.aload_n 0, 1) := by decide +kernel
theorem dF0_295 : decode code 295 = .ok (.iload 4, 2) := by decide +kernel
theorem dF0_297 : decode code 297 = .ok (.iconst 1, 1) := by decide +kernel
theorem dF0_298 : decode code 298 = .ok (.iadd, 1) := by decide +kernel
theorem dF0_300 : decode code 300 = .ok (.aload_n 0, 1) := by decide +kernel
theorem dF0_301 : decode code 301 = .ok (.iload 4, 2) := by decide +kernel
theorem dF0_303 : decode code 303 = .ok (.iconst 2, 1) := by decide +kernel
theorem dF0_304 : decode code 304 = .ok (.iadd, 1) := by decide +kernel
theorem dF0_306 : decode code 306 = .ok (.aload_n 3, 1) := by decide +kernel
theorem dF0_310 : decode code 310 = .ok (.istore 5, 2) := by decide +kernel
theorem dF0_312 : decode code 312 = .ok (.aload_n 2, 1) := by decide +kernel
theorem dF0_313 : decode code 313 = .ok (.aload_n 0, 1) := by decide +kernel
theorem dF0_314 : decode code 314 = .ok (.iload 4, 2) := by decide +kernel
theorem dF0_316 : decode code 316 = .ok (.iconst 1, 1) := by decide +kernel
theorem dF0_317 : decode code 317 = .ok (.iadd, 1) := by decide +kernel
theorem dF0_319 : decode code 319 = .ok (.aload_n 0, 1) := by decide +kernel
theorem dF0_320 : decode code 320 = .ok (.iload 4, 2) := by decide +kernel
theorem dF0_322 : decode code 322 = .ok (.iconst 2, 1) := by decide +kernel
theorem dF0_323 : decode code 323 = .ok (.iadd, 1) := by decide +kernel
theorem dF0_325 : decode code 325 = .ok (.invokevirtual 109, 3) := by decide +kernel
theorem dF0_328 : decode code 328 = .ok (.istore 6, 2) := by decide +kernel
theorem dF0_330 : decode code 330 = .ok (.goto 627, 3) := by decide +kernel
theorem dF0_324 : decode code 324 = .ok (.iaload, 1) := by decide +kernel
theorem dF0_318 : decode code 318 = .ok (.iaload, 1) := by decide +kernel
theorem dF0_307 : decode code 307 = .ok (.invokestatic 107, 3) := by decide +kernel
theorem dF0_305 : decode code 305 = .ok (.iaload, 1) := by decide +kernel
theorem dF0_299 : decode code 299 = .ok (.iaload, 1) := by decide +kernel
theorem dF0_333 : decode code 333 = .ok (.aload_n 1, 1) := by decide +kernel
theorem dF0_334 : decode code 334 = .ok (.aload_n 0, 1) := by decide +kernel
theorem dF0_335 : decode code 335 = .ok (.iload 4, 2) := by decide +kernel
theorem dF0_337 : decode code 337 = .ok (.iconst 1, 1) := by decide +kernel
theorem dF0_338 : decode code 338 = .ok (.iadd, 1) := by decide +kernel
theorem dF0_347 : decode code 347 = .ok (.iconst 0, 1) := by decide +kernel
theorem dF0_348 : decode code 348 = .ok (.aload_n 0, 1) := by decide +kernel
theorem dF0_349 : decode code 349 = .ok (.iload 4, 2) := by decide +kernel
theorem dF0_351 : decode code 351 = .ok (.iconst 2, 1) := by decide +kernel
theorem dF0_352 : decode code 352 = .ok (.iadd, 1) := by decide +kernel
theorem dF0_354 : decode code 354 = .ok (.aload_n 0, 1) := by decide +kernel
theorem dF0_355 : decode code 355 = .ok (.iload 4, 2) := by decide +kernel
theorem dF0_357 : decode code 357 = .ok (.iconst 3, 1) := by decide +kernel
theorem dF0_358 : decode code 358 = .ok (.iadd, 1) := by decide +kernel
theorem dF0_360 : decode code 360 = .ok (.aload_n 3, 1) := by decide +kernel
theorem dF0_364 : decode code 364 = .ok (.istore 5, 2) := by decide +kernel
theorem dF0_366 : decode code 366 = .ok (.aload_n 2, 1) := by decide +kernel
theorem dF0_367 : decode code 367 = .ok (.aload_n 0, 1) := by decide +kernel
theorem dF0_368 : decode code 368 = .ok (.iload 4, 2) := by decide +kernel
theorem dF0_370 : decode code 370 = .ok (.iconst 1, 1) := by decide +kernel
theorem dF0_371 : decode code 371 = .ok (.iadd, 1) := by decide +kernel
theorem dF0_380 : decode code 380 = .ok (.iconst 0, 1) := by decide +kernel
theorem dF0_381 : decode code 381 = .ok (.aload_n 0, 1) := by decide +kernel
theorem dF0_382 : decode code 382 = .ok (.iload 4, 2) := by decide +kernel
theorem dF0_384 : decode code 384 = .ok (.iconst 2, 1) := by decide +kernel
theorem dF0_385 : decode code 385 = .ok (.iadd, 1) := by decide +kernel
theorem dF0_387 : decode code 387 = .ok (.aload_n 0, 1) := by decide +kernel
theorem dF0_388 : decode code 388 = .ok (.iload 4, 2) := by decide +kernel
theorem dF0_390 : decode code 390 = .ok (.iconst 3, 1) := by decide +kernel
theorem dF0_391 : decode code 391 = .ok (.iadd, 1) := by decide +kernel
theorem dF0_393 : decode code 393 = .ok (.invokevirtual 113, 3) := by decide +kernel
theorem dF0_396 : decode code 396 = .ok (.istore 6, 2) := by decide +kernel
theorem dF0_398 : decode code 398 = .ok (.goto 559, 3) := by decide +kernel
theorem dF0_392 : decode code 392 = .ok (.iaload, 1) := by decide +kernel
theorem dF0_386 : decode code 386 = .ok (.iaload, 1) := by decide +kernel
theorem dF0_376 : decode code 376 = .ok (.iconst 1, 1) := by decide +kernel
theorem dF0_377 : decode code 377 = .ok (.goto 4, 3) := by decide +kernel
theorem dF0_373 : decode code 373 = .ok (.ifCond .eq 7, 3) := by decide +kernel
theorem dF0_372 : decode code 372 = .ok (.iaload, 1) := by decide +kernel
theorem dF0_361 : decode code 361 = .ok (.invokestatic 110, 3) := by decide +kernel
theorem dF0_359 : decode code 359 = .ok (.iaload, 1) := by decide +kernel
theorem dF0_353 : decode code 353 = .ok (.iaload, 1) := by decide +kernel
theorem dF0_343 : decode code 343 = .ok (.iconst 1, 1) := by decide +kernel
theorem dF0_344 : decode code 344 = .ok (.goto 4, 3) := by decide +kernel
theorem dF0_340 : decode code 340 = .ok (.ifCond .eq 7, 3) := by decide +kernel
theorem dF0_339 : decode code 339 = .ok (.iaload, 1) := by decide +kernel
theorem dF0_401 : decode code 401 = .ok (.aload_n 1, 1) := by decide +kernel
theorem dF0_402 : decode code 402 = .ok (.aload_n 0, 1) := by decide +kernel
theorem dF0_403 : decode code 403 = .ok (.iload 4, 2) := by decide +kernel
theorem dF0_405 : decode code 405 = .ok (.iconst 1, 1) := by decide +kernel
theorem dF0_406 : decode code 406 = .ok (.iadd, 1) := by decide +kernel
theorem dF0_408 : decode code 408 = .ok (.aload_n 0, 1) := by decide +kernel
theorem dF0_409 : decode code 409 = .ok (.iload 4, 2) := by decide +kernel
theorem dF0_411 : decode code 411 = .ok (.iconst 2, 1) := by decide +kernel
theorem dF0_412 : decode code 412 = .ok (.iadd, 1) := by decide +kernel
theorem dF0_414 : decode code 414 = .ok (.aload_n 0, 1) := by decide +kernel
theorem dF0_415 : decode code 415 = .ok (.iload 4, 2) := by decide +kernel
theorem dF0_417 : decode code 417 = .ok (.iconst 3, 1) := by decide +kernel
theorem dF0_418 : decode code 418 = .ok (.iadd, 1) := by decide +kernel
theorem dF0_420 : decode code 420 = .ok (.aload_n 3, 1) := by decide +kernel
theorem dF0_424 : decode code 424 = .ok (.istore 5, 2) := by decide +kernel
theorem dF0_426 : decode code 426 = .ok (.aload_n 2, 1) := by decide +kernel
theorem dF0_427 : decode code 427 = .ok (.aload_n 0, 1) := by decide +kernel
theorem dF0_428 : decode code 428 = .ok (.iload 4, 2) := by decide +kernel
theorem dF0_430 : decode code 430 = .ok (.iconst 1, 1) := by decide +kernel
theorem dF0_431 : decode code 431 = .ok (.iadd, 1) := by decide +kernel
theorem dF0_433 : decode code 433 = .ok (.aload_n 0, 1) := by decide +kernel
theorem dF0_434 : decode code 434 = .ok (.iload 4, 2) := by decide +kernel
theorem dF0_436 : decode code 436 = .ok (.iconst 2, 1) := by decide +kernel
theorem dF0_437 : decode code 437 = .ok (.iadd, 1) := by decide +kernel
theorem dF0_439 : decode code 439 = .ok (.aload_n 0, 1) := by decide +kernel
theorem dF0_440 : decode code 440 = .ok (.iload 4, 2) := by decide +kernel
theorem dF0_442 : decode code 442 = .ok (.iconst 3, 1) := by decide +kernel
theorem dF0_443 : decode code 443 = .ok (.iadd, 1) := by decide +kernel
theorem dF0_445 : decode code 445 = .ok (.invokevirtual 117, 3) := by decide +kernel
theorem dF0_448 : decode code 448 = .ok (.istore 6, 2) := by decide +kernel
theorem dF0_450 : decode code 450 = .ok (.goto 507, 3) := by decide +kernel
theorem dF0_444 : decode code 444 = .ok (.iaload, 1) := by decide +kernel
theorem dF0_438 : decode code 438 = .ok (.iaload, 1) := by decide +kernel
theorem dF0_432 : decode code 432 = .ok (.iaload, 1) := by decide +kernel
theorem dF0_421 : decode code 421 = .ok (.invokestatic 114, 3) := by decide +kernel
theorem dF0_419 : decode code 419 = .ok (.iaload, 1) := by decide +kernel
theorem dF0_413 : decode code 413 = .ok (.iaload, 1) := by decide +kernel
theorem dF0_407 : decode code 407 = .ok (.iaload, 1) := by decide +kernel
theorem dF0_453 : decode code 453 = .ok (.aload_n 1, 1) := by decide +kernel
theorem dF0_454 : decode code 454 = .ok (.aload_n 0, 1) := by decide +kernel
theorem dF0_455 : decode code 455 = .ok (.iload 4, 2) := by decide +kernel
theorem dF0_457 : decode code 457 = .ok (.iconst 1, 1) := by decide +kernel
theorem dF0_458 : decode code 458 = .ok (.iadd, 1) := by decide +kernel
theorem dF0_460 : decode code 460 = .ok (.aload_n 0, 1) := by decide +kernel
theorem dF0_461 : decode code 461 = .ok (.iload 4, 2) := by decide +kernel
theorem dF0_463 : decode code 463 = .ok (.iconst 2, 1) := by decide +kernel
theorem dF0_464 : decode code 464 = .ok (.iadd, 1) := by decide +kernel
theorem dF0_466 : decode code 466 = .ok (.aload_n 0, 1) := by decide +kernel
theorem dF0_467 : decode code 467 = .ok (.iload 4, 2) := by decide +kernel
theorem dF0_469 : decode code 469 = .ok (.iconst 3, 1) := by decide +kernel
theorem dF0_470 : decode code 470 = .ok (.iadd, 1) := by decide +kernel
theorem dF0_472 : decode code 472 = .ok (.aload_n 3, 1) := by decide +kernel
theorem dF0_476 : decode code 476 = .ok (.istore 5, 2) := by decide +kernel
theorem dF0_478 : decode code 478 = .ok (.aload_n 2, 1) := by decide +kernel
theorem dF0_479 : decode code 479 = .ok (.aload_n 0, 1) := by decide +kernel
theorem dF0_480 : decode code 480 = .ok (.iload 4, 2) := by decide +kernel
theorem dF0_482 : decode code 482 = .ok (.iconst 1, 1) := by decide +kernel
theorem dF0_483 : decode code 483 = .ok (.iadd, 1) := by decide +kernel
theorem dF0_485 : decode code 485 = .ok (.aload_n 0, 1) := by decide +kernel
theorem dF0_486 : decode code 486 = .ok (.iload 4, 2) := by decide +kernel
theorem dF0_488 : decode code 488 = .ok (.iconst 2, 1) := by decide +kernel
theorem dF0_489 : decode code 489 = .ok (.iadd, 1) := by decide +kernel
theorem dF0_491 : decode code 491 = .ok (.aload_n 0, 1) := by decide +kernel
theorem dF0_492 : decode code 492 = .ok (.iload 4, 2) := by decide +kernel
theorem dF0_494 : decode code 494 = .ok (.iconst 3, 1) := by decide +kernel
theorem dF0_495 : decode code 495 = .ok (.iadd, 1) := by decide +kernel
theorem dF0_497 : decode code 497 = .ok (.invokevirtual 120, 3) := by decide +kernel
theorem dF0_500 : decode code 500 = .ok (.istore 6, 2) := by decide +kernel
theorem dF0_502 : decode code 502 = .ok (.goto 455, 3) := by decide +kernel
theorem dF0_496 : decode code 496 = .ok (.iaload, 1) := by decide +kernel
theorem dF0_490 : decode code 490 = .ok (.iaload, 1) := by decide +kernel
theorem dF0_484 : decode code 484 = .ok (.iaload, 1) := by decide +kernel
theorem dF0_473 : decode code 473 = .ok (.invokestatic 118, 3) := by decide +kernel
theorem dF0_471 : decode code 471 = .ok (.iaload, 1) := by decide +kernel
theorem dF0_465 : decode code 465 = .ok (.iaload, 1) := by decide +kernel
theorem dF0_459 : decode code 459 = .ok (.iaload, 1) := by decide +kernel
theorem dF0_505 : decode code 505 = .ok (.aload_n 1, 1) := by decide +kernel
theorem dF0_506 : decode code 506 = .ok (.aload_n 0, 1) := by decide +kernel
theorem dF0_507 : decode code 507 = .ok (.iload 4, 2) := by decide +kernel
theorem dF0_509 : decode code 509 = .ok (.iconst 1, 1) := by decide +kernel
theorem dF0_510 : decode code 510 = .ok (.iadd, 1) := by decide +kernel
theorem dF0_512 : decode code 512 = .ok (.aload_n 0, 1) := by decide +kernel
theorem dF0_513 : decode code 513 = .ok (.iload 4, 2) := by decide +kernel
theorem dF0_515 : decode code 515 = .ok (.iconst 2, 1) := by decide +kernel
theorem dF0_516 : decode code 516 = .ok (.iadd, 1) := by decide +kernel
theorem dF0_518 : decode code 518 = .ok (.aload_n 3, 1) := by decide +kernel
theorem dF0_522 : decode code 522 = .ok (.istore 5, 2) := by decide +kernel
theorem dF0_524 : decode code 524 = .ok (.aload_n 2, 1) := by decide +kernel
theorem dF0_525 : decode code 525 = .ok (.aload_n 0, 1) := by decide +kernel
theorem dF0_526 : decode code 526 = .ok (.iload 4, 2) := by decide +kernel
theorem dF0_528 : decode code 528 = .ok (.iconst 1, 1) := by decide +kernel
theorem dF0_529 : decode code 529 = .ok (.iadd, 1) := by decide +kernel
theorem dF0_531 : decode code 531 = .ok (.aload_n 0, 1) := by decide +kernel
theorem dF0_532 : decode code 532 = .ok (.iload 4, 2) := by decide +kernel
theorem dF0_534 : decode code 534 = .ok (.iconst 2, 1) := by decide +kernel
theorem dF0_535 : decode code 535 = .ok (.iadd, 1) := by decide +kernel
theorem dF0_537 : decode code 537 = .ok (.invokevirtual 123, 3) := by decide +kernel
theorem dF0_540 : decode code 540 = .ok (.istore 6, 2) := by decide +kernel
theorem dF0_542 : decode code 542 = .ok (.aload_n 2, 1) := by decide +kernel
theorem dF0_543 : decode code 543 = .ok (.invokevirtual 124, 3) := by decide +kernel
theorem dF0_546 : decode code 546 = .ok (.iload 5, 2) := by decide +kernel
theorem dF0_553 : decode code 553 = .ok (.iload 5, 2) := by decide +kernel
theorem dF0_570 : decode code 570 = .ok (.goto 387, 3) := by decide +kernel
theorem dF0_558 : decode code 558 = .ok (.aload_n 3, 1) := by decide +kernel
theorem dF0_559 : decode code 559 = .ok (.iconst 0, 1) := by decide +kernel
theorem dF0_560 : decode code 560 = .ok (.laload, 1) := by decide +kernel
theorem dF0_561 : decode code 561 = .ok (.iload 6, 2) := by decide +kernel
theorem dF0_563 : decode code 563 = .ok (.i2l, 1) := by decide +kernel
theorem dF0_564 : decode code 564 = .ok (.lcmp, 1) := by decide +kernel
theorem dF0_568 : decode code 568 = .ok (.iconst 0, 1) := by decide +kernel
theorem dF0_569 : decode code 569 = .ok (.ireturn, 1) := by decide +kernel
theorem dF0_565 : decode code 565 = .ok (.ifCond .eq 5, 3) := by decide +kernel
theorem dF0_555 : decode code 555 = .ok (.ifCond .ne 15, 3) := by decide +kernel
theorem dF0_551 : decode code 551 = .ok (.iconst 0, 1) := by decide +kernel
theorem dF0_552 : decode code 552 = .ok (.ireturn, 1) := by decide +kernel
theorem dF0_548 : decode code 548 = .ok (.if_icmp .eq 5, 3) := by decide +kernel
theorem dF0_536 : decode code 536 = .ok (.iaload, 1) := by decide +kernel
theorem dF0_530 : decode code 530 = .ok (.iaload, 1) := by decide +kernel
theorem dF0_519 : decode code 519 = .ok (.invokestatic 121, 3) := by decide +kernel
theorem dF0_517 : decode code 517 = .ok (.iaload, 1) := by decide +kernel
theorem dF0_511 : decode code 511 = .ok (.iaload, 1) := by decide +kernel
theorem dF0_573 : decode code 573 = .ok (.aload_n 1, 1) := by decide +kernel
theorem dF0_574 : decode code 574 = .ok (.aload_n 0, 1) := by decide +kernel
theorem dF0_575 : decode code 575 = .ok (.iload 4, 2) := by decide +kernel
theorem dF0_577 : decode code 577 = .ok (.iconst 1, 1) := by decide +kernel
theorem dF0_578 : decode code 578 = .ok (.iadd, 1) := by decide +kernel
theorem dF0_580 : decode code 580 = .ok (.aload_n 0, 1) := by decide +kernel
theorem dF0_581 : decode code 581 = .ok (.iload 4, 2) := by decide +kernel
theorem dF0_583 : decode code 583 = .ok (.iconst 2, 1) := by decide +kernel
theorem dF0_584 : decode code 584 = .ok (.iadd, 1) := by decide +kernel
theorem dF0_586 : decode code 586 = .ok (.aload_n 3, 1) := by decide +kernel
theorem dF0_590 : decode code 590 = .ok (.istore 5, 2) := by decide +kernel
theorem dF0_592 : decode code 592 = .ok (.aload_n 2, 1) := by decide +kernel
theorem dF0_593 : decode code 593 = .ok (.aload_n 0, 1) := by decide +kernel
theorem dF0_594 : decode code 594 = .ok (.iload 4, 2) := by decide +kernel
theorem dF0_596 : decode code 596 = .ok (.iconst 1, 1) := by decide +kernel
theorem dF0_597 : decode code 597 = .ok (.iadd, 1) := by decide +kernel
theorem dF0_599 : decode code 599 = .ok (.aload_n 0, 1) := by decide +kernel
theorem dF0_600 : decode code 600 = .ok (.iload 4, 2) := by decide +kernel
theorem dF0_602 : decode code 602 = .ok (.iconst 2, 1) := by decide +kernel
theorem dF0_603 : decode code 603 = .ok (.iadd, 1) := by decide +kernel
theorem dF0_605 : decode code 605 = .ok (.invokevirtual 129, 3) := by decide +kernel
theorem dF0_608 : decode code 608 = .ok (.istore 6, 2) := by decide +kernel
theorem dF0_610 : decode code 610 = .ok (.goto 347, 3) := by decide +kernel
theorem dF0_604 : decode code 604 = .ok (.iaload, 1) := by decide +kernel
theorem dF0_598 : decode code 598 = .ok (.iaload, 1) := by decide +kernel
theorem dF0_587 : decode code 587 = .ok (.invokestatic 127, 3) := by decide +kernel
theorem dF0_585 : decode code 585 = .ok (.iaload, 1) := by decide +kernel
theorem dF0_579 : decode code 579 = .ok (.iaload, 1) := by decide +kernel
theorem dF0_613 : decode code 613 = .ok (.aload_n 1, 1) := by decide +kernel
theorem dF0_614 : decode code 614 = .ok (.aload_n 0, 1) := by decide +kernel
theorem dF0_615 : decode code 615 = .ok (.iload 4, 2) := by decide +kernel
theorem dF0_617 : decode code 617 = .ok (.iconst 1, 1) := by decide +kernel
theorem dF0_618 : decode code 618 = .ok (.iadd, 1) := by decide +kernel
theorem dF0_620 : decode code 620 = .ok (.aload_n 0, 1) := by decide +kernel
theorem dF0_621 : decode code 621 = .ok (.iload 4, 2) := by decide +kernel
theorem dF0_623 : decode code 623 = .ok (.iconst 2, 1) := by decide +kernel
theorem dF0_624 : decode code 624 = .ok (.iadd, 1) := by decide +kernel
theorem dF0_626 : decode code 626 = .ok (.aload_n 3, 1) := by decide +kernel
theorem dF0_630 : decode code 630 = .ok (.istore 5, 2) := by decide +kernel
theorem dF0_632 : decode code 632 = .ok (.aload_n 2, 1) := by decide +kernel
theorem dF0_633 : decode code 633 = .ok (.aload_n 0, 1) := by decide +kernel
theorem dF0_634 : decode code 634 = .ok (.iload 4, 2) := by decide +kernel
theorem dF0_636 : decode code 636 = .ok (.iconst 1, 1) := by decide +kernel
theorem dF0_637 : decode code 637 = .ok (.iadd, 1) := by decide +kernel
theorem dF0_639 : decode code 639 = .ok (.aload_n 0, 1) := by decide +kernel
theorem dF0_640 : decode code 640 = .ok (.iload 4, 2) := by decide +kernel
theorem dF0_642 : decode code 642 = .ok (.iconst 2, 1) := by decide +kernel
theorem dF0_643 : decode code 643 = .ok (.iadd, 1) := by decide +kernel
theorem dF0_645 : decode code 645 = .ok (.invokevirtual 132, 3) := by decide +kernel
theorem dF0_648 : decode code 648 = .ok (.istore 6, 2) := by decide +kernel
theorem dF0_650 : decode code 650 = .ok (.goto 307, 3) := by decide +kernel
theorem dF0_644 : decode code 644 = .ok (.iaload, 1) := by decide +kernel
theorem dF0_638 : decode code 638 = .ok (.iaload, 1) := by decide +kernel
theorem dF0_627 : decode code 627 = .ok (.invokestatic 130, 3) := by decide +kernel
theorem dF0_625 : decode code 625 = .ok (.iaload, 1) := by decide +kernel
theorem dF0_619 : decode code 619 = .ok (.iaload, 1) := by decide +kernel
theorem dF0_653 : decode code 653 = .ok (.aload_n 1, 1) := by decide +kernel
theorem dF0_654 : decode code 654 = .ok (.aload_n 0, 1) := by decide +kernel
theorem dF0_655 : decode code 655 = .ok (.iload 4, 2) := by decide +kernel
theorem dF0_657 : decode code 657 = .ok (.iconst 1, 1) := by decide +kernel
theorem dF0_658 : decode code 658 = .ok (.iadd, 1) := by decide +kernel
theorem dF0_660 : decode code 660 = .ok (.aload_n 0, 1) := by decide +kernel
theorem dF0_661 : decode code 661 = .ok (.iload 4, 2) := by decide +kernel
theorem dF0_663 : decode code 663 = .ok (.iconst 2, 1) := by decide +kernel
theorem dF0_664 : decode code 664 = .ok (.iadd, 1) := by decide +kernel
theorem dF0_666 : decode code 666 = .ok (.aload_n 3, 1) := by decide +kernel
theorem dF0_670 : decode code 670 = .ok (.istore 5, 2) := by decide +kernel
theorem dF0_672 : decode code 672 = .ok (.aload_n 2, 1) := by decide +kernel
theorem dF0_673 : decode code 673 = .ok (.aload_n 0, 1) := by decide +kernel
theorem dF0_674 : decode code 674 = .ok (.iload 4, 2) := by decide +kernel
theorem dF0_676 : decode code 676 = .ok (.iconst 1, 1) := by decide +kernel
theorem dF0_677 : decode code 677 = .ok (.iadd, 1) := by decide +kernel
theorem dF0_679 : decode code 679 = .ok (.aload_n 0, 1) := by decide +kernel
theorem dF0_680 : decode code 680 = .ok (.iload 4, 2) := by decide +kernel
theorem dF0_682 : decode code 682 = .ok (.iconst 2, 1) := by decide +kernel
theorem dF0_683 : decode code 683 = .ok (.iadd, 1) := by decide +kernel
theorem dF0_685 : decode code 685 = .ok (.invokevirtual 135, 3) := by decide +kernel
theorem dF0_688 : decode code 688 = .ok (.istore 6, 2) := by decide +kernel
theorem dF0_690 : decode code 690 = .ok (.goto 267, 3) := by decide +kernel
theorem dF0_684 : decode code 684 = .ok (.iaload, 1) := by decide +kernel
theorem dF0_678 : decode code 678 = .ok (.iaload, 1) := by decide +kernel
theorem dF0_667 : decode code 667 = .ok (.invokestatic 133, 3) := by decide +kernel
theorem dF0_665 : decode code 665 = .ok (.iaload, 1) := by decide +kernel
theorem dF0_659 : decode code 659 = .ok (.iaload, 1) := by decide +kernel
theorem dF0_693 : decode code 693 = .ok (.aload_n 1, 1) := by decide +kernel
theorem dF0_694 : decode code 694 = .ok (.aload_n 0, 1) := by decide +kernel
theorem dF0_695 : decode code 695 = .ok (.iload 4, 2) := by decide +kernel
theorem dF0_697 : decode code 697 = .ok (.iconst 1, 1) := by decide +kernel
theorem dF0_698 : decode code 698 = .ok (.iadd, 1) := by decide +kernel
theorem dF0_700 : decode code 700 = .ok (.aload_n 0, 1) := by decide +kernel
theorem dF0_701 : decode code 701 = .ok (.iload 4, 2) := by decide +kernel
theorem dF0_703 : decode code 703 = .ok (.iconst 2, 1) := by decide +kernel
theorem dF0_704 : decode code 704 = .ok (.iadd, 1) := by decide +kernel
theorem dF0_713 : decode code 713 = .ok (.iconst 0, 1) := by decide +kernel
theorem dF0_714 : decode code 714 = .ok (.aload_n 3, 1) := by decide +kernel
theorem dF0_718 : decode code 718 = .ok (.istore 5, 2) := by decide +kernel
theorem dF0_720 : decode code 720 = .ok (.aload_n 2, 1) := by decide +kernel
theorem dF0_721 : decode code 721 = .ok (.aload_n 0, 1) := by decide +kernel
theorem dF0_722 : decode code 722 = .ok (.iload 4, 2) := by decide +kernel
theorem dF0_724 : decode code 724 = .ok (.iconst 1, 1) := by decide +kernel
theorem dF0_725 : decode code 725 = .ok (.iadd, 1) := by decide +kernel
theorem dF0_727 : decode code 727 = .ok (.aload_n 0, 1) := by decide +kernel
theorem dF0_728 : decode code 728 = .ok (.iload 4, 2) := by decide +kernel
theorem dF0_730 : decode code 730 = .ok (.iconst 2, 1) := by decide +kernel
theorem dF0_731 : decode code 731 = .ok (.iadd, 1) := by decide +kernel
theorem dF0_740 : decode code 740 = .ok (.iconst 0, 1) := by decide +kernel
theorem dF0_741 : decode code 741 = .ok (.invokevirtual 139, 3) := by decide +kernel
theorem dF0_744 : decode code 744 = .ok (.istore 6, 2) := by decide +kernel
theorem dF0_746 : decode code 746 = .ok (.goto 211, 3) := by decide +kernel
theorem dF0_736 : decode code 736 = .ok (.iconst 1, 1) := by decide +kernel
theorem dF0_737 : decode code 737 = .ok (.goto 4, 3) := by decide +kernel
theorem dF0_733 : decode code 733 = .ok (.ifCond .eq 7, 3) := by decide +kernel
theorem dF0_732 : decode code 732 = .ok (.iaload, 1) := by decide +kernel
theorem dF0_726 : decode code 726 = .ok (.iaload, 1) := by decide +kernel
theorem dF0_715 : decode code 715 = .ok (.invokestatic 136, 3) := by decide +kernel
theorem dF0_709 : decode code 709 = .ok (.iconst 1, 1) := by decide +kernel
theorem dF0_710 : decode code 710 = .ok (.goto 4, 3) := by decide +kernel
theorem dF0_706 : decode code 706 = .ok (.ifCond .eq 7, 3) := by decide +kernel
theorem dF0_705 : decode code 705 = .ok (.iaload, 1) := by decide +kernel
theorem dF0_699 : decode code 699 = .ok (.iaload, 1) := by decide +kernel
theorem dF0_749 : decode code 749 = .ok (.aload_n 1, 1) := by decide +kernel
theorem dF0_750 : decode code 750 = .ok (.aload_n 0, 1) := by decide +kernel
theorem dF0_751 : decode code 751 = .ok (.iload 4, 2) := by decide +kernel
theorem dF0_753 : decode code 753 = .ok (.iconst 1, 1) := by decide +kernel
theorem dF0_754 : decode code 754 = .ok (.iadd, 1) := by decide +kernel
theorem dF0_756 : decode code 756 = .ok (.aload_n 3, 1) := by decide +kernel
theorem dF0_760 : decode code 760 = .ok (.istore 5, 2) := by decide +kernel
theorem dF0_762 : decode code 762 = .ok (.aload_n 2, 1) := by decide +kernel
theorem dF0_763 : decode code 763 = .ok (.aload_n 0, 1) := by decide +kernel
theorem dF0_764 : decode code 764 = .ok (.iload 4, 2) := by decide +kernel
theorem dF0_766 : decode code 766 = .ok (.iconst 1, 1) := by decide +kernel
theorem dF0_767 : decode code 767 = .ok (.iadd, 1) := by decide +kernel
theorem dF0_769 : decode code 769 = .ok (.invokevirtual 142, 3) := by decide +kernel
theorem dF0_772 : decode code 772 = .ok (.istore 6, 2) := by decide +kernel
theorem dF0_774 : decode code 774 = .ok (.goto 183, 3) := by decide +kernel
theorem dF0_768 : decode code 768 = .ok (.iaload, 1) := by decide +kernel
theorem dF0_757 : decode code 757 = .ok (.invokestatic 140, 3) := by decide +kernel
theorem dF0_755 : decode code 755 = .ok (.iaload, 1) := by decide +kernel
theorem dF0_777 : decode code 777 = .ok (.aload_n 1, 1) := by decide +kernel
theorem dF0_778 : decode code 778 = .ok (.aload_n 0, 1) := by decide +kernel
theorem dF0_779 : decode code 779 = .ok (.iload 4, 2) := by decide +kernel
theorem dF0_781 : decode code 781 = .ok (.iconst 1, 1) := by decide +kernel
theorem dF0_782 : decode code 782 = .ok (.iadd, 1) := by decide +kernel
theorem dF0_784 : decode code 784 = .ok (.aload_n 3, 1) := by decide +kernel
theorem dF0_788 : decode code 788 = .ok (.istore 5, 2) := by decide +kernel
theorem dF0_790 : decode code 790 = .ok (.aload_n 2, 1) := by decide +kernel
theorem dF0_791 : decode code 791 = .ok (.aload_n 0, 1) := by decide +kernel
theorem dF0_792 : decode code 792 = .ok (.iload 4, 2) := by decide +kernel
theorem dF0_794 : decode code 794 = .ok (.iconst 1, 1) := by decide +kernel
theorem dF0_795 : decode code 795 = .ok (.iadd, 1) := by decide +kernel
theorem dF0_797 : decode code 797 = .ok (.invokevirtual 145, 3) := by decide +kernel
theorem dF0_800 : decode code 800 = .ok (.istore 6, 2) := by decide +kernel
theorem dF0_802 : decode code 802 = .ok (.goto 155, 3) := by decide +kernel
theorem dF0_796 : decode code 796 = .ok (.iaload, 1) := by decide +kernel
theorem dF0_785 : decode code 785 = .ok (.invokestatic 143, 3) := by decide +kernel
theorem dF0_783 : decode code 783 = .ok (.iaload, 1) := by decide +kernel
theorem dF0_805 : decode code 805 = .ok (.aload_n 1, 1) := by decide +kernel
theorem dF0_806 : decode code 806 = .ok (.aload_n 3, 1) := by decide +kernel
theorem dF0_810 : decode code 810 = .ok (.istore 5, 2) := by decide +kernel
theorem dF0_812 : decode code 812 = .ok (.aload_n 2, 1) := by decide +kernel
theorem dF0_813 : decode code 813 = .ok (.invokevirtual 149, 3) := by decide +kernel
theorem dF0_816 : decode code 816 = .ok (.istore 6, 2) := by decide +kernel
theorem dF0_818 : decode code 818 = .ok (.goto 139, 3) := by decide +kernel
theorem dF0_807 : decode code 807 = .ok (.invokestatic 146, 3) := by decide +kernel
theorem dF0_821 : decode code 821 = .ok (.aload_n 1, 1) := by decide +kernel
theorem dF0_822 : decode code 822 = .ok (.aload_n 0, 1) := by decide +kernel
theorem dF0_823 : decode code 823 = .ok (.iload 4, 2) := by decide +kernel
theorem dF0_825 : decode code 825 = .ok (.iconst 1, 1) := by decide +kernel
theorem dF0_826 : decode code 826 = .ok (.iadd, 1) := by decide +kernel
theorem dF0_828 : decode code 828 = .ok (.aload_n 3, 1) := by decide +kernel
theorem dF0_832 : decode code 832 = .ok (.istore 5, 2) := by decide +kernel
theorem dF0_834 : decode code 834 = .ok (.aload_n 2, 1) := by decide +kernel
theorem dF0_835 : decode code 835 = .ok (.aload_n 0, 1) := by decide +kernel
theorem dF0_836 : decode code 836 = .ok (.iload 4, 2) := by decide +kernel
theorem dF0_838 : decode code 838 = .ok (.iconst 1, 1) := by decide +kernel
theorem dF0_839 : decode code 839 = .ok (.iadd, 1) := by decide +kernel
theorem dF0_841 : decode code 841 = .ok (.invokevirtual 152, 3) := by decide +kernel
theorem dF0_844 : decode code 844 = .ok (.istore 6, 2) := by decide +kernel
theorem dF0_846 : decode code 846 = .ok (.goto 111, 3) := by decide +kernel
theorem dF0_840 : decode code 840 = .ok (.iaload, 1) := by decide +kernel
theorem dF0_829 : decode code 829 = .ok (.invokestatic 150, 3) := by decide +kernel
theorem dF0_827 : decode code 827 = .ok (.iaload, 1) := by decide +kernel
theorem dF0_849 : decode code 849 = .ok (.aload_n 1, 1) := by decide +kernel
theorem dF0_850 : decode code 850 = .ok (.aload_n 0, 1) := by decide +kernel
theorem dF0_851 : decode code 851 = .ok (.iload 4, 2) := by decide +kernel
theorem dF0_853 : decode code 853 = .ok (.iconst 1, 1) := by decide +kernel
theorem dF0_854 : decode code 854 = .ok (.iadd, 1) := by decide +kernel
theorem dF0_856 : decode code 856 = .ok (.aload_n 0, 1) := by decide +kernel
theorem dF0_857 : decode code 857 = .ok (.iload 4, 2) := by decide +kernel
theorem dF0_859 : decode code 859 = .ok (.iconst 2, 1) := by decide +kernel
theorem dF0_860 : decode code 860 = .ok (.iadd, 1) := by decide +kernel
theorem dF0_862 : decode code 862 = .ok (.aload_n 3, 1) := by decide +kernel
theorem dF0_866 : decode code 866 = .ok (.istore 5, 2) := by decide +kernel
theorem dF0_868 : decode code 868 = .ok (.aload_n 2, 1) := by decide +kernel
theorem dF0_869 : decode code 869 = .ok (.aload_n 0, 1) := by decide +kernel
theorem dF0_870 : decode code 870 = .ok (.iload 4, 2) := by decide +kernel
theorem dF0_872 : decode code 872 = .ok (.iconst 1, 1) := by decide +kernel
theorem dF0_873 : decode code 873 = .ok (.iadd, 1) := by decide +kernel
theorem dF0_875 : decode code 875 = .ok (.aload_n 0, 1) := by decide +kernel
theorem dF0_876 : decode code 876 = .ok (.iload 4, 2) := by decide +kernel
theorem dF0_878 : decode code 878 = .ok (.iconst 2, 1) := by decide +kernel
theorem dF0_879 : decode code 879 = .ok (.iadd, 1) := by decide +kernel
theorem dF0_881 : decode code 881 = .ok (.invokevirtual 155, 3) := by decide +kernel
theorem dF0_884 : decode code 884 = .ok (.istore 6, 2) := by decide +kernel
theorem dF0_886 : decode code 886 = .ok (.goto 71, 3) := by decide +kernel
theorem dF0_880 : decode code 880 = .ok (.iaload, 1) := by decide +kernel
theorem dF0_874 : decode code 874 = .ok (.iaload, 1) := by decide +kernel
theorem dF0_863 : decode code 863 = .ok (.invokestatic 153, 3) := by decide +kernel
theorem dF0_861 : decode code 861 = .ok (.iaload, 1) := by decide +kernel
theorem dF0_855 : decode code 855 = .ok (.iaload, 1) := by decide +kernel
theorem dF0_889 : decode code 889 = .ok (.aload_n 1, 1) := by decide +kernel
theorem dF0_890 : decode code 890 = .ok (.aload_n 0, 1) := by decide +kernel
theorem dF0_891 : decode code 891 = .ok (.iload 4, 2) := by decide +kernel
theorem dF0_893 : decode code 893 = .ok (.iconst 1, 1) := by decide +kernel
theorem dF0_894 : decode code 894 = .ok (.iadd, 1) := by decide +kernel
theorem dF0_896 : decode code 896 = .ok (.aload_n 0, 1) := by decide +kernel
theorem dF0_897 : decode code 897 = .ok (.iload 4, 2) := by decide +kernel
theorem dF0_899 : decode code 899 = .ok (.iconst 2, 1) := by decide +kernel
theorem dF0_900 : decode code 900 = .ok (.iadd, 1) := by decide +kernel
theorem dF0_902 : decode code 902 = .ok (.aload_n 3, 1) := by decide +kernel
theorem dF0_906 : decode code 906 = .ok (.istore 5, 2) := by decide +kernel
theorem dF0_908 : decode code 908 = .ok (.aload_n 2, 1) := by decide +kernel
theorem dF0_909 : decode code 909 = .ok (.aload_n 0, 1) := by decide +kernel
theorem dF0_910 : decode code 910 = .ok (.iload 4, 2) := by decide +kernel
theorem dF0_912 : decode code 912 = .ok (.iconst 1, 1) := by decide +kernel
theorem dF0_913 : decode code 913 = .ok (.iadd, 1) := by decide +kernel
theorem dF0_915 : decode code 915 = .ok (.aload_n 0, 1) := by decide +kernel
theorem dF0_916 : decode code 916 = .ok (.iload 4, 2) := by decide +kernel
theorem dF0_918 : decode code 918 = .ok (.iconst 2, 1) := by decide +kernel
theorem dF0_919 : decode code 919 = .ok (.iadd, 1) := by decide +kernel
theorem dF0_921 : decode code 921 = .ok (.invokevirtual 158, 3) := by decide +kernel
theorem dF0_924 : decode code 924 = .ok (.istore 6, 2) := by decide +kernel
theorem dF0_926 : decode code 926 = .ok (.goto 31, 3) := by decide +kernel
theorem dF0_920 : decode code 920 = .ok (.iaload, 1) := by decide +kernel
theorem dF0_914 : decode code 914 = .ok (.iaload, 1) := by decide +kernel
theorem dF0_903 : decode code 903 = .ok (.invokestatic 156, 3) := by decide +kernel
theorem dF0_901 : decode code 901 = .ok (.iaload, 1) := by decide +kernel
theorem dF0_895 : decode code 895 = .ok (.iaload, 1) := by decide +kernel
theorem dF0_929 : decode code 929 = .ok (.aload_n 1, 1) := by decide +kernel
theorem dF0_930 : decode code 930 = .ok (.aload_n 0, 1) := by decide +kernel
theorem dF0_931 : decode code 931 = .ok (.iload 4, 2) := by decide +kernel
theorem dF0_933 : decode code 933 = .ok (.iconst 1, 1) := by decide +kernel
theorem dF0_934 : decode code 934 = .ok (.iadd, 1) := by decide +kernel
theorem dF0_936 : decode code 936 = .ok (.aload_n 3, 1) := by decide +kernel
theorem dF0_940 : decode code 940 = .ok (.istore 5, 2) := by decide +kernel
theorem dF0_942 : decode code 942 = .ok (.aload_n 2, 1) := by decide +kernel
theorem dF0_943 : decode code 943 = .ok (.aload_n 0, 1) := by decide +kernel
theorem dF0_944 : decode code 944 = .ok (.iload 4, 2) := by decide +kernel
theorem dF0_946 : decode code 946 = .ok (.iconst 1, 1) := by decide +kernel
theorem dF0_947 : decode code 947 = .ok (.iadd, 1) := by decide +kernel
theorem dF0_949 : decode code 949 = .ok (.invokevirtual 161, 3) := by decide +kernel
theorem dF0_952 : decode code 952 = .ok (.istore 6, 2) := by decide +kernel
theorem dF0_954 : decode code 954 = .ok (.goto 3, 3) := by decide +kernel
theorem dF0_948 : decode code 948 = .ok (.iaload, 1) := by decide +kernel
theorem dF0_937 : decode code 937 = .ok (.invokestatic 159, 3) := by decide +kernel
theorem dF0_935 : decode code 935 = .ok (.iaload, 1) := by decide +kernel
theorem hd_1_1 : ma_hd method_3_code 8 1 11 [(0, 16, 19, 13)] = some 1 := by decide +kernel
theorem hd_2_2 : ma_hd method_4_code 4 2 4 [(0, 9, 12, 19)] = some 1 := by decide +kernel
theorem hd_3_2 : ma_hd method_5_code 5 2 5 [(0, 10, 13, 19), (0, 10, 17, 25)] = some 1 := by decide +kernel
theorem hd_3_3 : ma_hd method_5_code 5 3 5 [(0, 10, 13, 19), (0, 10, 17, 25)] = some 2 := by decide +kernel
theorem hd_4_2 : ma_hd method_6_code 5 2 5 [(0, 10, 13, 19), (0, 10, 17, 25)] = some 1 := by decide +kernel
theorem hd_4_3 : ma_hd method_6_code 5 3 5 [(0, 10, 13, 19), (0, 10, 17, 25)] = some 2 := by decide +kernel
theorem hd_5_2 : ma_hd method_7_code 6 2 7 [(0, 12, 15, 19), (0, 12, 19, 25)] = some 1 := by decide +kernel
theorem hd_5_3 : ma_hd method_7_code 6 3 7 [(0, 12, 15, 19), (0, 12, 19, 25)] = some 2 := by decide +kernel
theorem hd_6_1 : ma_hd method_8_code 6 1 7 [(0, 12, 15, 25), (0, 12, 19, 38), (0, 12, 23, 13), (0, 12, 27, 40)] = some 3 := by decide +kernel
theorem hd_6_3 : ma_hd method_8_code 6 3 7 [(0, 12, 15, 25), (0, 12, 19, 38), (0, 12, 23, 13), (0, 12, 27, 40)] = some 1 := by decide +kernel
theorem hd_6_4 : ma_hd method_8_code 6 4 7 [(0, 12, 15, 25), (0, 12, 19, 38), (0, 12, 23, 13), (0, 12, 27, 40)] = some 2 := by decide +kernel
theorem hd_6_5 : ma_hd method_8_code 6 5 7 [(0, 12, 15, 25), (0, 12, 19, 38), (0, 12, 23, 13), (0, 12, 27, 40)] = some 4 := by decide +kernel
theorem hd_7_1 : ma_hd method_9_code 6 1 7 [(0, 12, 15, 25), (0, 12, 19, 38), (0, 12, 23, 13), (0, 12, 27, 40)] = some 3 := by decide +kernel
theorem hd_7_3 : ma_hd method_9_code 6 3 7 [(0, 12, 15, 25), (0, 12, 19, 38), (0, 12, 23, 13), (0, 12, 27, 40)] = some 1 := by decide +kernel
theorem hd_7_4 : ma_hd method_9_code 6 4 7 [(0, 12, 15, 25), (0, 12, 19, 38), (0, 12, 23, 13), (0, 12, 27, 40)] = some 2 := by decide +kernel
theorem hd_7_5 : ma_hd method_9_code 6 5 7 [(0, 12, 15, 25), (0, 12, 19, 38), (0, 12, 23, 13), (0, 12, 27, 40)] = some 4 := by decide +kernel
theorem hd_8_1 : ma_hd method_10_code 5 1 5 [(0, 10, 13, 25), (0, 10, 17, 38), (0, 10, 21, 13)] = some 3 := by decide +kernel
theorem hd_8_3 : ma_hd method_10_code 5 3 5 [(0, 10, 13, 25), (0, 10, 17, 38), (0, 10, 21, 13)] = some 1 := by decide +kernel
theorem hd_8_4 : ma_hd method_10_code 5 4 5 [(0, 10, 13, 25), (0, 10, 17, 38), (0, 10, 21, 13)] = some 2 := by decide +kernel
theorem hd_9_2 : ma_hd method_11_code 5 2 5 [(0, 10, 13, 19), (0, 10, 17, 25), (0, 10, 21, 38)] = some 1 := by decide +kernel
theorem hd_9_3 : ma_hd method_11_code 5 3 5 [(0, 10, 13, 19), (0, 10, 17, 25), (0, 10, 21, 38)] = some 2 := by decide +kernel
theorem hd_9_4 : ma_hd method_11_code 5 4 5 [(0, 10, 13, 19), (0, 10, 17, 25), (0, 10, 21, 38)] = some 3 := by decide +kernel
theorem hd_10_2 : ma_hd method_12_code 5 2 5 [(0, 10, 13, 19), (0, 10, 17, 25), (0, 10, 21, 38)] = some 1 := by decide +kernel
theorem hd_10_3 : ma_hd method_12_code 5 3 5 [(0, 10, 13, 19), (0, 10, 17, 25), (0, 10, 21, 38)] = some 2 := by decide +kernel
theorem hd_10_4 : ma_hd method_12_code 5 4 5 [(0, 10, 13, 19), (0, 10, 17, 25), (0, 10, 21, 38)] = some 3 := by decide +kernel
theorem hd_11_2 : ma_hd method_13_code 5 2 5 [(0, 10, 13, 19), (0, 10, 17, 25)] = some 1 := by decide +kernel
theorem hd_11_3 : ma_hd method_13_code 5 3 5 [(0, 10, 13, 19), (0, 10, 17, 25)] = some 2 := by decide +kernel
theorem hd_12_3 : ma_hd method_14_code 5 3 5 [(0, 10, 13, 25), (0, 10, 17, 38), (0, 10, 21, 61)] = some 1 := by decide +kernel
theorem hd_12_4 : ma_hd method_14_code 5 4 5 [(0, 10, 13, 25), (0, 10, 17, 38), (0, 10, 21, 61)] = some 2 := by decide +kernel
theorem hd_12_6 : ma_hd method_14_code 5 6 5 [(0, 10, 13, 25), (0, 10, 17, 38), (0, 10, 21, 61)] = some 3 := by decide +kernel
theorem hd_13_3 : ma_hd method_15_code 4 3 4 [(0, 9, 12, 25), (0, 9, 15, 38)] = some 1 := by decide +kernel
theorem hd_13_4 : ma_hd method_15_code 4 4 4 [(0, 9, 12, 25), (0, 9, 15, 38)] = some 2 := by decide +kernel
theorem hd_14_2 : ma_hd method_16_code 4 2 4 [(0, 9, 12, 19), (0, 9, 15, 25)] = some 1 := by decide +kernel
theorem hd_14_3 : ma_hd method_16_code 4 3 4 [(0, 9, 12, 19), (0, 9, 15, 25)] = some 2 := by decide +kernel
theorem hd_15_3 : ma_hd method_17_code 3 3 3 [(0, 8, 11, 25)] = some 1 := by decide +kernel
theorem hd_16_2 : ma_hd method_18_code 4 2 4 [(0, 9, 12, 19), (0, 9, 15, 25), (0, 9, 18, 61)] = some 1 := by decide +kernel
theorem hd_16_3 : ma_hd method_18_code 4 3 4 [(0, 9, 12, 19), (0, 9, 15, 25), (0, 9, 18, 61)] = some 2 := by decide +kernel
theorem hd_16_6 : ma_hd method_18_code 4 6 4 [(0, 9, 12, 19), (0, 9, 15, 25), (0, 9, 18, 61)] = some 3 := by decide +kernel
theorem hd_17_2 : ma_hd method_19_code 5 2 5 [(0, 10, 13, 19), (0, 10, 17, 25), (0, 10, 21, 38)] = some 1 := by decide +kernel
theorem hd_17_3 : ma_hd method_19_code 5 3 5 [(0, 10, 13, 19), (0, 10, 17, 25), (0, 10, 21, 38)] = some 2 := by decide +kernel
theorem hd_17_4 : ma_hd method_19_code 5 4 5 [(0, 10, 13, 19), (0, 10, 17, 25), (0, 10, 21, 38)] = some 3 := by decide +kernel
theorem hd_18_1 : ma_hd method_20_code 5 1 5 [(0, 10, 13, 19), (0, 10, 17, 25), (0, 10, 21, 61), (0, 10, 25, 13)] = some 4 := by decide +kernel
theorem hd_18_2 : ma_hd method_20_code 5 2 5 [(0, 10, 13, 19), (0, 10, 17, 25), (0, 10, 21, 61), (0, 10, 25, 13)] = some 1 := by decide +kernel
theorem hd_18_3 : ma_hd method_20_code 5 3 5 [(0, 10, 13, 19), (0, 10, 17, 25), (0, 10, 21, 61), (0, 10, 25, 13)] = some 2 := by decide +kernel
theorem hd_18_6 : ma_hd method_20_code 5 6 5 [(0, 10, 13, 19), (0, 10, 17, 25), (0, 10, 21, 61), (0, 10, 25, 13)] = some 3 := by decide +kernel
theorem hd_19_2 : ma_hd method_21_code 4 2 4 [(0, 9, 12, 19), (0, 9, 15, 25)] = some 1 := by decide +kernel
theorem hd_19_3 : ma_hd method_21_code 4 3 4 [(0, 9, 12, 19), (0, 9, 15, 25)] = some 2 := by decide +kernel
theorem gfm_1 {X : Nat × (Nat → Int32)} {d w : Nat} {S : ma_S} {Q : Option ma_V → ma_S → Prop} (x0 : Int32) (x1 : Int32) (x2 : Int32) (x3 : Int32) (x4 : Int32) (hd : 12 ≤ d) (hw : 467 ≤ w) (hS : zT S) (h : ma_wp X (d - 1) (w - 25) 137 0 [(0, .inr (.inr (some 64))), (1, .inl x0), (2, .inl x1), (3, .inl x2), (4, .inl x3), (5, .inl x4)] [] S (zi (fun v2 S1 => zT S1 ∧ (Q (some (.inl (0 : Int32))) (ma_put S1 125 0 (.inr (.inl (v2.toInt64)))))) (fun x S1 => ∃ c, ma_hd method_3_code 8 x 11 [(0, 16, 19, 13)] = some c ∧ Q (some (.inl c)) S1))) : ma_fp X 1 d w 0 [(0, .inr (.inr (some 64))), (1, .inl x0), (2, .inl x1), (3, .inl x2), (4, .inl x3), (5, .inl x4), (6, .inr (.inr (some 125)))] [] S Q := by
  refine zf_push fm_1 dF1_0 (v := .inr (.inr (some 125))) rfl ?_
  refine zf_push fm_1 dF1_2 (v := .inl (0 : Int32)) rfl ?_
  refine zf_push fm_1 dF1_3 (v := .inr (.inr (some 64))) rfl ?_
  refine zf_push fm_1 dF1_4 (v := .inl x0) rfl ?_
  refine zf_push fm_1 dF1_5 (v := .inl x1) rfl ?_
  refine zf_push fm_1 dF1_6 (v := .inl x2) rfl ?_
  refine zf_push fm_1 dF1_7 (v := .inl x3) rfl ?_
  refine zf_push fm_1 dF1_9 (v := .inl x4) rfl ?_
  refine zf_cv fm_1 dF1_11 v_14_7_11 hm_137 [.inl x4, .inl x3, .inl x2, .inl x1, .inl x0] [.inl (0 : Int32), .inr (.inr (some 125))] rfl (zT_rt hS s_64 rfl) ⟨by omega, by omega⟩ rfl (zw_mono h (zi_go ?_ ?_))
  · intro v2 S1 hv
    obtain ⟨hS1, h⟩ := hv
    refine zf_stk fm_1 dF1_14 (st₉ := [.inr (.inl (v2.toInt64)), .inl (0 : Int32), .inr (.inr (some 125))]) rfl rfl ?_
    refine zf_one fm_1 dF1_15 (oo_las (zT_is hS1 s_125) (zT_h hS1 s_125) (a := 0) rfl ⟨by decide, by decide⟩) ?_
    refine zf_goto fm_1 dF1_16 (t := 23) rfl ?_
    refine zf_push fm_1 dF1_23 (v := .inl (0 : Int32)) rfl ?_
    exact zf_iret fm_1 dF1_24 h
  · intro x S9 hx
    exact ⟨⟨by decide, rfl⟩, hx⟩
theorem fw_1 {X : Nat × (Nat → Int32)} {d w T : Nat} {S : ma_S} {Q : Option ma_V → ma_S → Prop} (x0 : Int32) (x1 : Int32) (x2 : Int32) (x3 : Int32) (x4 : Int32) (hd : 12 ≤ d) (hw : 467 ≤ w) (h : zHsm S) (hte : (mI S 64 1).toInt = (mI S 94 3).toInt) (KN : ∀ (v : Int32) S₉, zCl S S₉ → mR S₉ 64 11 = mR S 64 11 → mI S₉ 64 7 = mI S 64 7 → zFd (mI S 65) (mI S₉ 65) (mI S 94 3).toInt 5 (zw5 x0 x1 x2 x3 x4) → (mI S₉ 67 = mI S 67 ∧ mI S₉ 68 = mI S 68) → (v.toInt = (mI S₉ 94 3).toInt + 20 ∧ (mI S₉ 64 1).toInt = (mI S₉ 94 3).toInt + 20 ∧ (mI S₉ 94 3).toInt ≤ 80) → zKp S S₉ → zKm S S₉ → Q (some (.inl 0)) S₉) (KX : ∀ (v : Int32) S₉, zCl S S₉ → mR S₉ 64 11 = mR S 64 11 → mI S₉ 64 7 = mI S 64 7 → mI S₉ 65 = mI S 65 → (mI S₉ 67 = mI S 67 ∧ mI S₉ 68 = mI S 68) → ((mI S₉ 64 1).toInt = (mI S₉ 94 3).toInt ∧ 81 ≤ (mI S₉ 94 3).toInt) → zKp S S₉ → zKm S S₉ → Q (some (.inl v)) S₉) : ma_fp X 1 d w 0 [(0, .inr (.inr (some 64))), (1, .inl x0), (2, .inl x1), (3, .inl x2), (4, .inl x3), (5, .inl x4), (6, .inr (.inr (some 125)))] [] S Q := by
  refine gfm_1 x0 x1 x2 x3 x4 hd hw h.1.1 ?_
  exact sp_137_64_sq (r0 := mI S 65) (I0 := mI S) (L0 := mL S) (R0 := mR S 70) x0 x1 x2 x3 x4 (by omega) (by omega) (zA_dn_zFe h.1) hte rfl fn9_0 (fun v S₉ hI hq rp0 rp1 => zi_n ⟨zG_T hI, KN v _ (cl_put (cl_A h (zA_up_zFe h.1 hI) h.2 (Nat.le_succ _) (Nat.le_add_right _ _))) (pr_A (zA_up_zFe h.1 hI)) (fr_A7 (zA_up_zFe h.1 hI)) rp0 (fr_F67 hI) hq (kp_o5 (fm_kp (S₉ := S₉) rp1 h.1) (zA_up_zFe h.1 hI)) (km_o5 (fm_km (S₉ := S₉) rp1 h.1) (zA_up_zFe h.1 hI))⟩) (fun x S₉ hx hI hq rx0 rx1 => zi_x (by
      subst hx
      exact ⟨_, hd_1_1, KX _ _ (cl_X h (zA_up_zFe h.1 hI) h.2 (Nat.le_refl _) (Nat.le_refl _)) (pr_Ab (zA_up_zFe h.1 hI)) (fr_A7b (zA_up_zFe h.1 hI)) rx0 (fr_F67b hI) hq (fm_kp (S₉ := S₉) rx1 h.1) (fm_km (S₉ := S₉) rx1 h.1)⟩
      ))
theorem gfm_2 {X : Nat × (Nat → Int32)} {d w : Nat} {S : ma_S} {Q : Option ma_V → ma_S → Prop} (x0 : Int32) (hd : 12 ≤ d) (hw : 471 ≤ w) (hS : zT S) (h : ma_wp X (d - 1) (w - 21) 139 0 [(0, .inr (.inr (some 64))), (1, .inl x0)] [] S (zi (fun v2 S1 => zT S1 ∧ (Q (some (.inl (0 : Int32))) (ma_put S1 125 0 (.inr (.inl (v2.toInt64)))))) (fun x S1 => ∃ c, ma_hd method_4_code 4 x 4 [(0, 9, 12, 19)] = some c ∧ Q (some (.inl c)) S1))) : ma_fp X 2 d w 0 [(0, .inr (.inr (some 64))), (1, .inl x0), (2, .inr (.inr (some 125)))] [] S Q := by
  refine zf_push fm_2 dF2_0 (v := .inr (.inr (some 125))) rfl ?_
  refine zf_push fm_2 dF2_1 (v := .inl (0 : Int32)) rfl ?_
  refine zf_push fm_2 dF2_2 (v := .inr (.inr (some 64))) rfl ?_
  refine zf_push fm_2 dF2_3 (v := .inl x0) rfl ?_
  refine zf_cv fm_2 dF2_4 v_14_15_11 hm_139 [.inl x0] [.inl (0 : Int32), .inr (.inr (some 125))] rfl (zT_rt hS s_64 rfl) ⟨by omega, by omega⟩ rfl (zw_mono h (zi_go ?_ ?_))
  · intro v2 S1 hv
    obtain ⟨hS1, h⟩ := hv
    refine zf_stk fm_2 dF2_7 (st₉ := [.inr (.inl (v2.toInt64)), .inl (0 : Int32), .inr (.inr (some 125))]) rfl rfl ?_
    refine zf_one fm_2 dF2_8 (oo_las (zT_is hS1 s_125) (zT_h hS1 s_125) (a := 0) rfl ⟨by decide, by decide⟩) ?_
    refine zf_goto fm_2 dF2_9 (t := 15) rfl ?_
    refine zf_push fm_2 dF2_15 (v := .inl (0 : Int32)) rfl ?_
    exact zf_iret fm_2 dF2_16 h
  · intro x S9 hx
    exact ⟨⟨by decide, rfl⟩, hx⟩
theorem fw_2 {X : Nat × (Nat → Int32)} {d w T : Nat} {S : ma_S} {Q : Option ma_V → ma_S → Prop} (x0 : Int32) (hd : 12 ≤ d) (hw : 471 ≤ w) (h : zHsm S) (hte : (mI S 64 1).toInt = (mI S 94 3).toInt) (KN : ∀ (v : Int32) S₉, zCl S S₉ → mR S₉ 64 11 = mR S 64 11 → mI S₉ 64 7 = mI S 64 7 → mI S₉ 65 = mI S 65 → (mI S₉ 67 = mI S 67 ∧ mI S₉ 68 = mI S 68) → ((mI S₉ 64 1).toInt = x0.toInt ∧ 0 ≤ x0.toInt ∧ x0.toInt ≤ (mI S₉ 94 3).toInt ∧ v.toInt = x0.toInt) → zKp S S₉ → zKm S S₉ → Q (some (.inl 0)) S₉) (KX : ∀ (v : Int32) S₉, zCl S S₉ → mR S₉ 64 11 = mR S 64 11 → mI S₉ 64 7 = mI S 64 7 → mI S₉ 65 = mI S 65 → (mI S₉ 67 = mI S 67 ∧ mI S₉ 68 = mI S 68) → ((mI S₉ 64 1).toInt = (mI S₉ 94 3).toInt ∧ (x0.toInt < 0 ∨ (mI S₉ 94 3).toInt < x0.toInt)) → zKp S S₉ → zKm S S₉ → Q (some (.inl v)) S₉) : ma_fp X 2 d w 0 [(0, .inr (.inr (some 64))), (1, .inl x0), (2, .inr (.inr (some 125)))] [] S Q := by
  refine gfm_2 x0 hd hw h.1.1 ?_
  exact sp_139_64_sq (I0 := mI S) (L0 := mL S) (R0 := mR S 70) x0 (by omega) (by omega) (zA_dn_zX h.1) hte fn9_0 (fun v S₉ hI hq rp0 => zi_n ⟨zG_T hI, KN v _ (cl_put (cl_A h (zA_up_zX h.1 hI) h.2 (Nat.le_succ _) (Nat.le_add_right _ _))) (pr_A (zA_up_zX h.1 hI)) (fr_A7 (zA_up_zX h.1 hI)) (fr_X65 hI) (fr_X67 hI) hq (kp_o5 (fm_kp (S₉ := S₉) rp0 h.1) (zA_up_zX h.1 hI)) (km_o5 (fm_km (S₉ := S₉) rp0 h.1) (zA_up_zX h.1 hI))⟩) (fun x S₉ hx hI hq rx0 => zi_x (by
      subst hx
      exact ⟨_, hd_2_2, KX _ _ (cl_X h (zA_up_zX h.1 hI) h.2 (Nat.le_refl _) (Nat.le_refl _)) (pr_Ab (zA_up_zX h.1 hI)) (fr_A7b (zA_up_zX h.1 hI)) (fr_X65b hI) (fr_X67b hI) hq (fm_kp (S₉ := S₉) rx0 h.1) (fm_km (S₉ := S₉) rx0 h.1)⟩
      ))
theorem gfm_3 {X : Nat × (Nat → Int32)} {d w : Nat} {S : ma_S} {Q : Option ma_V → ma_S → Prop} (x0 : Int32) (x1 : Int32) (hd : 12 ≤ d) (hw : 470 ≤ w) (hS : zT S) (h : ma_wp X (d - 1) (w - 22) 140 0 [(0, .inr (.inr (some 64))), (1, .inl x0), (2, .inl x1)] [] S (zi (fun v2 S1 => zT S1 ∧ (Q (some (.inl (0 : Int32))) (ma_put S1 125 0 (.inr (.inl (v2.toInt64)))))) (fun x S1 => ∃ c, ma_hd method_5_code 5 x 5 [(0, 10, 13, 19), (0, 10, 17, 25)] = some c ∧ Q (some (.inl c)) S1))) : ma_fp X 3 d w 0 [(0, .inr (.inr (some 64))), (1, .inl x0), (2, .inl x1), (3, .inr (.inr (some 125)))] [] S Q := by
  refine zf_push fm_3 dF3_0 (v := .inr (.inr (some 125))) rfl ?_
  refine zf_push fm_3 dF3_1 (v := .inl (0 : Int32)) rfl ?_
  refine zf_push fm_3 dF3_2 (v := .inr (.inr (some 64))) rfl ?_
  refine zf_push fm_3 dF3_3 (v := .inl x0) rfl ?_
  refine zf_push fm_3 dF3_4 (v := .inl x1) rfl ?_
  refine zf_cv fm_3 dF3_5 v_14_21_11 hm_140 [.inl x1, .inl x0] [.inl (0 : Int32), .inr (.inr (some 125))] rfl (zT_rt hS s_64 rfl) ⟨by omega, by omega⟩ rfl (zw_mono h (zi_go ?_ ?_))
  · intro v2 S1 hv
    obtain ⟨hS1, h⟩ := hv
    refine zf_stk fm_3 dF3_8 (st₉ := [.inr (.inl (v2.toInt64)), .inl (0 : Int32), .inr (.inr (some 125))]) rfl rfl ?_
    refine zf_one fm_3 dF3_9 (oo_las (zT_is hS1 s_125) (zT_h hS1 s_125) (a := 0) rfl ⟨by decide, by decide⟩) ?_
    refine zf_goto fm_3 dF3_10 (t := 21) rfl ?_
    refine zf_push fm_3 dF3_21 (v := .inl (0 : Int32)) rfl ?_
    exact zf_iret fm_3 dF3_22 h
  · intro x S9 hx
    exact ⟨⟨by decide, rfl⟩, hx⟩
theorem S5_oN {S₉ : ma_S} {f : Nat → Nat → Int32} {r : Nat → Nat → Option Nat} {C Z N : Nat} (hA : zAn f r C Z N S₉) {x : Int64} : (∀ n b, mR S₉ 70 n = some b → 126 ≤ b) ∧ (∀ c, 126 ≤ c → mL (ma_put S₉ 125 0 (.inr (.inl x))) c 3 = mL S₉ c 3) ∧ aS 75 (ma_put S₉ 125 0 (.inr (.inl x))) = aS 75 S₉ := by
  have hR : ∀ n b, mR S₉ 70 n = some b → 126 ≤ b := fun _ _ e => (zG_70 hA (c := 70) (by decide) e).1
  have hL : ∀ c, 126 ≤ c → mL (ma_put S₉ 125 0 (.inr (.inl x))) c 3 = mL S₉ c 3 := fun c hc => by
    show (if c = 125 ∧ 3 = 0 then x else mL S₉ c 3) = mL S₉ c 3
    rw [if_neg (by omega)]
  exact ⟨hR, hL, aF_c5 (fun _ _ _ => rfl) hL hR⟩
theorem kp_oN {S S₉ : ma_S} {f : Nat → Nat → Int32} {r : Nat → Nat → Option Nat} {C Z N : Nat} (h : zKp S S₉) (hA : zAn f r C Z N S₉) {x : Int64} : zKp S (ma_put S₉ 125 0 (.inr (.inl x))) := by
  have q := S5_oN hA (x := x)
  exact ⟨(aF_cg (fun _ _ _ => rfl) q.2.1 q.1).trans h.1, fun b => h.2.1 b, (T_cg (R := fun _ => none) q.2.2 rfl).trans h.2.2.1, (T_cg (R := fun _ => none) q.2.2 rfl).trans h.2.2.2.1, h.2.2.2.2⟩
theorem km_oN {S S₉ : ma_S} {f : Nat → Nat → Int32} {r : Nat → Nat → Option Nat} {C Z N : Nat} (h : zKm S S₉) (hA : zAn f r C Z N S₉) {x : Int64} : zKm S (ma_put S₉ 125 0 (.inr (.inl x))) := by
  have o := O_cg (S5_oN hA (x := x)).2.2 (fun _ _ _ _ => rfl)
  exact ⟨fun b => h.1 b, o.1.trans h.2.1, o.2.1.trans h.2.2.1, o.2.2.1.trans h.2.2.2.1, o.2.2.2.trans h.2.2.2.2⟩
theorem fw_3 {X : Nat × (Nat → Int32)} {d w T : Nat} {S : ma_S} {Q : Option ma_V → ma_S → Prop} (x0 : Int32) (x1 : Int32) (hd : 12 ≤ d) (hw : 470 ≤ w) (h : zHsm S) (hte : (mI S 64 1).toInt = (mI S 94 3).toInt) (hke : (mI S 64 7).toInt = (mI S 94 7).toInt) (KN : ∀ (v : Int32) S₉, zCl S S₉ → mR S₉ 64 11 = mR S 64 11 → mI S₉ 65 = mI S 65 → (mI S₉ 67 = zUp (mI S 67) (mI S 64 7).toNatClampNeg x0 ∧ mI S₉ 68 = zUp (mI S 68) (mI S 64 7).toNatClampNeg x1) → ((mI S₉ 64 1).toInt = (mI S₉ 94 3).toInt ∧ v.toInt = (mI S₉ 94 7).toInt ∧ (mI S₉ 64 7).toInt = (mI S₉ 94 7).toInt + 1 ∧ (mI S₉ 94 7).toInt < 16 ∧ ¬ (x0.toInt < 0 ∨ 8 < x0.toInt ∨ x1.toInt < 0 ∨ ((1 : Int32) <<< (x0 &&& 31)).toInt ≤ x1.toInt)) → zKp S S₉ → zKm S S₉ → Q (some (.inl 0)) S₉) (KX2 : ∀ (v : Int32) S₉, zCl S S₉ → mR S₉ 64 11 = mR S 64 11 → mI S₉ 65 = mI S 65 → (mI S₉ 67 = mI S 67 ∧ mI S₉ 68 = mI S 68) → ((mI S₉ 64 1).toInt = (mI S₉ 94 3).toInt ∧ (mI S₉ 64 7).toInt = (mI S₉ 94 7).toInt ∧ (2 = 2 → (x0.toInt < 0 ∨ 8 < x0.toInt ∨ x1.toInt < 0 ∨ ((1 : Int32) <<< (x0 &&& 31)).toInt ≤ x1.toInt)) ∧ (2 = 3 → ¬ (x0.toInt < 0 ∨ 8 < x0.toInt ∨ x1.toInt < 0 ∨ ((1 : Int32) <<< (x0 &&& 31)).toInt ≤ x1.toInt) ∧ 16 ≤ (mI S₉ 94 7).toInt)) → zKp S S₉ → zKm S S₉ → Q (some (.inl v)) S₉) (KX3 : ∀ (v : Int32) S₉, zCl S S₉ → mR S₉ 64 11 = mR S 64 11 → mI S₉ 65 = mI S 65 → (mI S₉ 67 = mI S 67 ∧ mI S₉ 68 = mI S 68) → ((mI S₉ 64 1).toInt = (mI S₉ 94 3).toInt ∧ (mI S₉ 64 7).toInt = (mI S₉ 94 7).toInt ∧ (3 = 2 → (x0.toInt < 0 ∨ 8 < x0.toInt ∨ x1.toInt < 0 ∨ ((1 : Int32) <<< (x0 &&& 31)).toInt ≤ x1.toInt)) ∧ (3 = 3 → ¬ (x0.toInt < 0 ∨ 8 < x0.toInt ∨ x1.toInt < 0 ∨ ((1 : Int32) <<< (x0 &&& 31)).toInt ≤ x1.toInt) ∧ 16 ≤ (mI S₉ 94 7).toInt)) → zKp S S₉ → zKm S S₉ → Q (some (.inl v)) S₉) : ma_fp X 3 d w 0 [(0, .inr (.inr (some 64))), (1, .inl x0), (2, .inl x1), (3, .inr (.inr (some 125)))] [] S Q := by
  refine gfm_3 x0 x1 hd hw h.1.1 ?_
  exact sp_140_64_zKd_sq (I0 := mI S) (L0 := mL S) (R0 := mR S 70) (k67 := mI S 67) (k68 := mI S 68) (kn := mI S 64 7) x0 x1 (by omega) (by omega) (zAn_dn_zKd (zN_of h.1)) hte hke fn9_0 ⟨rfl, rfl, rfl⟩ (fun v S₉ hI hq rp0 rp1 => zi_n ⟨zG_T hI, KN v _ (cl_put (cl_N (zAn_up_zKd (zN_of h.1) hI) h.2 (Nat.le_succ _) (Nat.le_add_right _ _))) (pr_N (zAn_up_zKd (zN_of h.1) hI)) (fr_K65 hI) rp1 hq (kp_oN (fm_kp (S₉ := S₉) rp0 h.1) (zAn_up_zKd (zN_of h.1) hI)) (km_oN (fm_km (S₉ := S₉) rp0 h.1) (zAn_up_zKd (zN_of h.1) hI))⟩) (fun x S₉ hx hI hq rx0 rx1 => zi_x (by
      rcases hx with rfl | rfl
      · exact ⟨_, hd_3_2, KX2 _ _ (cl_XN (zAn_up_zKd (zN_of h.1) hI) h.2 (Nat.le_refl _) (Nat.le_refl _)) (pr_Nb (zAn_up_zKd (zN_of h.1) hI)) (fr_K65b hI) ⟨rx1.1, rx1.2.1⟩ hq (fm_kp (S₉ := S₉) rx0 h.1) (fm_km (S₉ := S₉) rx0 h.1)⟩
      · exact ⟨_, hd_3_3, KX3 _ _ (cl_XN (zAn_up_zKd (zN_of h.1) hI) h.2 (Nat.le_refl _) (Nat.le_refl _)) (pr_Nb (zAn_up_zKd (zN_of h.1) hI)) (fr_K65b hI) ⟨rx1.1, rx1.2.1⟩ hq (fm_kp (S₉ := S₉) rx0 h.1) (fm_km (S₉ := S₉) rx0 h.1)⟩
      ))
theorem gfm_4 {X : Nat × (Nat → Int32)} {d w : Nat} {S : ma_S} {Q : Option ma_V → ma_S → Prop} (x0 : Int32) (x1 : Int32) (hd : 12 ≤ d) (hw : 470 ≤ w) (hS : zT S) (h : ma_wp X (d - 1) (w - 22) 141 0 [(0, .inr (.inr (some 64))), (1, .inl x0), (2, .inl x1)] [] S (zi (fun v2 S1 => zT S1 ∧ (Q (some (.inl (0 : Int32))) (ma_put S1 125 0 (.inr (.inl (v2.toInt64)))))) (fun x S1 => ∃ c, ma_hd method_6_code 5 x 5 [(0, 10, 13, 19), (0, 10, 17, 25)] = some c ∧ Q (some (.inl c)) S1))) : ma_fp X 4 d w 0 [(0, .inr (.inr (some 64))), (1, .inl x0), (2, .inl x1), (3, .inr (.inr (some 125)))] [] S Q := by
  refine zf_push fm_4 dF4_0 (v := .inr (.inr (some 125))) rfl ?_
  refine zf_push fm_4 dF4_1 (v := .inl (0 : Int32)) rfl ?_
  refine zf_push fm_4 dF4_2 (v := .inr (.inr (some 64))) rfl ?_
  refine zf_push fm_4 dF4_3 (v := .inl x0) rfl ?_
  refine zf_push fm_4 dF4_4 (v := .inl x1) rfl ?_
  refine zf_cv fm_4 dF4_5 v_14_27_11 hm_141 [.inl x1, .inl x0] [.inl (0 : Int32), .inr (.inr (some 125))] rfl (zT_rt hS s_64 rfl) ⟨by omega, by omega⟩ rfl (zw_mono h (zi_go ?_ ?_))
  · intro v2 S1 hv
    obtain ⟨hS1, h⟩ := hv
    refine zf_stk fm_4 dF4_8 (st₉ := [.inr (.inl (v2.toInt64)), .inl (0 : Int32), .inr (.inr (some 125))]) rfl rfl ?_
    refine zf_one fm_4 dF4_9 (oo_las (zT_is hS1 s_125) (zT_h hS1 s_125) (a := 0) rfl ⟨by decide, by decide⟩) ?_
    refine zf_goto fm_4 dF4_10 (t := 21) rfl ?_
    refine zf_push fm_4 dF4_21 (v := .inl (0 : Int32)) rfl ?_
    exact zf_iret fm_4 dF4_22 h
  · intro x S9 hx
    exact ⟨⟨by decide, rfl⟩, hx⟩
theorem fw_4 {X : Nat × (Nat → Int32)} {d w T : Nat} {S : ma_S} {Q : Option ma_V → ma_S → Prop} (x0 : Int32) (x1 : Int32) (hd : 12 ≤ d) (hw : 470 ≤ w) (h : zHsm S)  (hB : mR S 64 11 ≠ none → xB S (mR S 70)) (hC : mR S 64 11 = some 84 → cC (aT 84 S) [] (kC S) (T : Int) ∧ qI (aT 84 S)) (hV : zIv S) (hT5 : T + 1 ≤ 512) (h6 : mR S 64 11 = some 87 → 0 ≤ (aS 88 S 87 6).toInt) (K : ∀ (v : Int32) S₉, zCl S S₉ → mR S₉ 64 11 = mR S 64 11 → mI S₉ 64 1 = mI S 64 1 → mI S₉ 64 7 = mI S 64 7 → mI S₉ 65 = mI S 65 → (mI S₉ 67 = mI S 67 ∧ mI S₉ 68 = mI S 68) → (mR S 64 11 = some 87 → xB S₉ (mR S₉ 70) ∧ aS 88 S₉ = qIf (0 ≤ x0.toInt ∧ x0.toInt < (mI S 64 7).toInt ∧ zSl x1) (aMk (aS 88 S) x0 (mI S 67 x0.toNatClampNeg) (mI S 68 x0.toNatClampNeg).toInt64 x1) (aS 88 S)) → (mR S 64 11 = some 79 → xB S₉ (mR S₉ 70) ∧ aT 79 S₉ = qIf (0 ≤ x0.toInt ∧ x0.toInt < (mI S 64 7).toInt ∧ zSl x1) (sMk (aT 79 S) x0 (mI S 67 x0.toNatClampNeg) (mI S 68 x0.toNatClampNeg).toInt64 x1) (aT 79 S)) → (mR S 64 11 = some 84 → xB S₉ (mR S₉ 70) ∧ aT 84 S₉ = qIf (0 ≤ x0.toInt ∧ x0.toInt < (mI S 64 7).toInt ∧ zSl x1) (kMk (aT 84 S) x0 (mI S 67 x0.toNatClampNeg) (mI S 68 x0.toNatClampNeg).toInt64 x1) (aT 84 S) ∧ cC (aT 84 S₉) [] (kC S₉) (T : Int)) → (mR S 64 11 = some 80 → xB S₉ (mR S₉ 70) ∧ zOf (qIf (0 ≤ x0.toInt ∧ x0.toInt < (mI S 64 7).toInt ∧ zSl x1) (lMk (aL S) x0 (mI S 67 x0.toNatClampNeg) (mI S 68 x0.toNatClampNeg).toInt64 x1) (aL S)) (aL S₉)) → (mR S 64 11 = some 81 → xB S₉ (mR S₉ 70) ∧ zOf (qIf (0 ≤ x0.toInt ∧ x0.toInt < (mI S 64 7).toInt ∧ zSl x1) (hMk (aH S) x0 (mI S 67 x0.toNatClampNeg) (mI S 68 x0.toNatClampNeg).toInt64 x1) (aH S)) (aH S₉)) → (mR S 64 11 = some 82 → xB S₉ (mR S₉ 70) ∧ zOf (qIf (0 ≤ x0.toInt ∧ x0.toInt < (mI S 64 7).toInt ∧ zSl x1) (yMk (aG S) x0 (mI S 67 x0.toNatClampNeg) (mI S 68 x0.toNatClampNeg).toInt64 x1) (aG S)) (aG S₉)) → (mR S 64 11 = some 91 → xB S₉ (mR S₉ 70) ∧ zOf (qIf (0 ≤ x0.toInt ∧ x0.toInt < (mI S 64 7).toInt ∧ zSl x1) (rMk (aZ S) x0 (mI S 67 x0.toNatClampNeg) (mI S 68 x0.toNatClampNeg).toInt64 x1) (aZ S)) (aZ S₉)) → Q (some (.inl v)) S₉) : ma_fp X 4 d w 0 [(0, .inr (.inr (some 64))), (1, .inl x0), (2, .inl x1), (3, .inr (.inr (some 125)))] [] S Q := by
  refine gfm_4 x0 x1 hd hw h.1.1 ?_
  rcases h.2 with e | ⟨p, hp, e⟩
  · exact sp_141_64_sx_p0 x0 x1 (by omega) (by omega) (zB_of h.1) e (fun v S₉ hI w => absurd w (by decide)) (fun x S₉ hx hI hq => zi_x (by
      rcases hx with rfl | rfl
      · exact ⟨_, hd_4_2, K _ _ (cl_X h (zA_of hI) h.2 (Nat.le_refl _) (Nat.le_refl _)) (pr_Bb hI) (fr_Bb hI) (fr_B7b hI) (fr_B65b hI) (fr_B67b hI) (fun z => absurd (e.symm.trans z) (by decide)) (fun z => absurd (e.symm.trans z) (by decide)) (fun z => absurd (e.symm.trans z) (by decide)) (fun z => absurd (e.symm.trans z) (by decide)) (fun z => absurd (e.symm.trans z) (by decide)) (fun z => absurd (e.symm.trans z) (by decide)) (fun z => absurd (e.symm.trans z) (by decide))⟩
      · exact ⟨_, hd_4_3, K _ _ (cl_X h (zA_of hI) h.2 (Nat.le_refl _) (Nat.le_refl _)) (pr_Bb hI) (fr_Bb hI) (fr_B7b hI) (fr_B65b hI) (fr_B67b hI) (fun z => absurd (e.symm.trans z) (by decide)) (fun z => absurd (e.symm.trans z) (by decide)) (fun z => absurd (e.symm.trans z) (by decide)) (fun z => absurd (e.symm.trans z) (by decide)) (fun z => absurd (e.symm.trans z) (by decide)) (fun z => absurd (e.symm.trans z) (by decide)) (fun z => absurd (e.symm.trans z) (by decide))⟩
      ))
  · simp only [zcl7, List.mem_cons, List.not_mem_nil, or_false] at hp
    rcases hp with rfl | rfl | rfl | rfl | rfl | rfl | rfl
    · exact sp_141_64_s7_p79 (ab := aT 79 S) x0 x1 (by omega) (by omega) (zB_of h.1) e (hB (fun z => absurd (e.symm.trans z) (by decide))) rfl (fun v S₉ r₉ C₉ Z₉ N₉ s1 s2 s3 s4 hI _ rp0 rp1 => zi_n ⟨zG_T hI, K _ _ (cl_put (cl_A h (zA_of hI) (by rw [s1 64 11 (by decide)]; exact h.2) s2 s3)) ((pr_B hI).trans (s1 64 11 (by decide))) (fr_B hI) (fr_B7 hI) (fr_B65 hI) (fr_B67 hI) (fun z => absurd (e.symm.trans z) (by decide)) (fun _ => ⟨rp0, (T_o5 (zA_of hI)).trans (omk_y rp1)⟩) (fun z => absurd (e.symm.trans z) (by decide)) (fun z => absurd (e.symm.trans z) (by decide)) (fun z => absurd (e.symm.trans z) (by decide)) (fun z => absurd (e.symm.trans z) (by decide)) (fun z => absurd (e.symm.trans z) (by decide))⟩) (fun x S₉ hx hI rx0 rx1 rx2 => zi_x (by
      subst hx
      exact ⟨_, hd_4_2, K _ _ (cl_X h (zA_of hI) h.2 (Nat.le_refl _) (Nat.le_refl _)) (pr_Bb hI) (fr_Bb hI) (fr_B7b hI) (fr_B65b hI) (fr_B67b hI) (fun z => absurd (e.symm.trans z) (by decide)) (fun _ => ⟨rx0, (omk_x rx1 rx2)⟩) (fun z => absurd (e.symm.trans z) (by decide)) (fun z => absurd (e.symm.trans z) (by decide)) (fun z => absurd (e.symm.trans z) (by decide)) (fun z => absurd (e.symm.trans z) (by decide)) (fun z => absurd (e.symm.trans z) (by decide))⟩
      ))
    · exact sp_141_64_sl_p80 (ab := aL S) x0 x1 (by omega) (by omega) (zB_of h.1) e (hB (fun z => absurd (e.symm.trans z) (by decide))) rfl (hV.1 e) (fun v S₉ r₉ C₉ Z₉ N₉ s1 s2 s3 s4 hI _ rp0 rp1 => zi_n ⟨zG_T hI, K _ _ (cl_put (cl_A h (zA_of hI) (by rw [s1 64 11 (by decide)]; exact h.2) s2 s3)) ((pr_B hI).trans (s1 64 11 (by decide))) (fr_B hI) (fr_B7 hI) (fr_B65 hI) (fr_B67 hI) (fun z => absurd (e.symm.trans z) (by decide)) (fun z => absurd (e.symm.trans z) (by decide)) (fun z => absurd (e.symm.trans z) (by decide)) (fun _ => ⟨rp0, (by rw [(O_o5 (zA_of hI)).1]; exact Of_q5 (rp1.2.1.trans (qIf_y ⟨rp1.1.1, rp1.1.2.1, rp1.1.2.2⟩).symm))⟩) (fun z => absurd (e.symm.trans z) (by decide)) (fun z => absurd (e.symm.trans z) (by decide)) (fun z => absurd (e.symm.trans z) (by decide))⟩) (fun x S₉ hx hI rx0 rx1 rx2 => zi_x (by
      subst hx
      exact ⟨_, hd_4_2, K _ _ (cl_X h (zA_of hI) h.2 (Nat.le_refl _) (Nat.le_refl _)) (pr_Bb hI) (fr_Bb hI) (fr_B7b hI) (fr_B65b hI) (fr_B67b hI) (fun z => absurd (e.symm.trans z) (by decide)) (fun z => absurd (e.symm.trans z) (by decide)) (fun z => absurd (e.symm.trans z) (by decide)) (fun _ => ⟨rx0, (by show zOf _ (aL S₉); exact Of_q5 (rx1.trans (qIf_n (fun w => rx2.2 ⟨w.1, w.2.1, w.2.2.1, w.2.2.2⟩)).symm))⟩) (fun z => absurd (e.symm.trans z) (by decide)) (fun z => absurd (e.symm.trans z) (by decide)) (fun z => absurd (e.symm.trans z) (by decide))⟩
      ))
    · exact sp_141_64_sv_p81 (ab := aH S) x0 x1 (by omega) (by omega) (zB_of h.1) e (hB (fun z => absurd (e.symm.trans z) (by decide))) rfl (hV.2.1 e) (fun v S₉ r₉ C₉ Z₉ N₉ s1 s2 s3 s4 hI _ rp0 rp1 => zi_n ⟨zG_T hI, K _ _ (cl_put (cl_A h (zA_of hI) (by rw [s1 64 11 (by decide)]; exact h.2) s2 s3)) ((pr_B hI).trans (s1 64 11 (by decide))) (fr_B hI) (fr_B7 hI) (fr_B65 hI) (fr_B67 hI) (fun z => absurd (e.symm.trans z) (by decide)) (fun z => absurd (e.symm.trans z) (by decide)) (fun z => absurd (e.symm.trans z) (by decide)) (fun z => absurd (e.symm.trans z) (by decide)) (fun _ => ⟨rp0, (by rw [(O_o5 (zA_of hI)).2.1]; exact Of_q5 (rp1.2.1.trans (qIf_y ⟨rp1.1.1, rp1.1.2.1, rp1.1.2.2⟩).symm))⟩) (fun z => absurd (e.symm.trans z) (by decide)) (fun z => absurd (e.symm.trans z) (by decide))⟩) (fun x S₉ hx hI rx0 rx1 rx2 => zi_x (by
      subst hx
      exact ⟨_, hd_4_2, K _ _ (cl_X h (zA_of hI) h.2 (Nat.le_refl _) (Nat.le_refl _)) (pr_Bb hI) (fr_Bb hI) (fr_B7b hI) (fr_B65b hI) (fr_B67b hI) (fun z => absurd (e.symm.trans z) (by decide)) (fun z => absurd (e.symm.trans z) (by decide)) (fun z => absurd (e.symm.trans z) (by decide)) (fun z => absurd (e.symm.trans z) (by decide)) (fun _ => ⟨rx0, (by show zOf _ (aH S₉); exact Of_q5 (rx1.trans (qIf_n (fun w => rx2.2 ⟨w.1, w.2.1, w.2.2.1, w.2.2.2⟩)).symm))⟩) (fun z => absurd (e.symm.trans z) (by decide)) (fun z => absurd (e.symm.trans z) (by decide))⟩
      ))
    · exact sp_141_64_sy_p82 (ab := aG S) x0 x1 (by omega) (by omega) (zB_of h.1) e (hB (fun z => absurd (e.symm.trans z) (by decide))) rfl (hV.2.2.1 e) (fun v S₉ r₉ C₉ Z₉ N₉ s1 s2 s3 s4 hI _ rp0 rp1 => zi_n ⟨zG_T hI, K _ _ (cl_put (cl_A h (zA_of hI) (by rw [s1 64 11 (by decide)]; exact h.2) s2 s3)) ((pr_B hI).trans (s1 64 11 (by decide))) (fr_B hI) (fr_B7 hI) (fr_B65 hI) (fr_B67 hI) (fun z => absurd (e.symm.trans z) (by decide)) (fun z => absurd (e.symm.trans z) (by decide)) (fun z => absurd (e.symm.trans z) (by decide)) (fun z => absurd (e.symm.trans z) (by decide)) (fun z => absurd (e.symm.trans z) (by decide)) (fun _ => ⟨rp0, (by rw [(O_o5 (zA_of hI)).2.2.1]; exact Of_q5 (rp1.2.1.trans (qIf_y ⟨rp1.1.1, rp1.1.2.1, rp1.1.2.2⟩).symm))⟩) (fun z => absurd (e.symm.trans z) (by decide))⟩) (fun x S₉ hx hI rx0 rx1 rx2 => zi_x (by
      subst hx
      exact ⟨_, hd_4_2, K _ _ (cl_X h (zA_of hI) h.2 (Nat.le_refl _) (Nat.le_refl _)) (pr_Bb hI) (fr_Bb hI) (fr_B7b hI) (fr_B65b hI) (fr_B67b hI) (fun z => absurd (e.symm.trans z) (by decide)) (fun z => absurd (e.symm.trans z) (by decide)) (fun z => absurd (e.symm.trans z) (by decide)) (fun z => absurd (e.symm.trans z) (by decide)) (fun z => absurd (e.symm.trans z) (by decide)) (fun _ => ⟨rx0, (by show zOf _ (aG S₉); exact Of_q5 (rx1.trans (qIf_n (fun w => rx2.2 ⟨w.1, w.2.1, w.2.2.1, w.2.2.2⟩)).symm))⟩) (fun z => absurd (e.symm.trans z) (by decide))⟩
      ))
    · exact sp_141_64_sk_p84 (ab := aT 84 S) (B := (T : Int)) x0 x1 (by omega) (by omega) (zB_of h.1) e (hB (fun z => absurd (e.symm.trans z) (by decide))) rfl (hC e).1 (hC e).2 (by omega) (by omega) (fun v S₉ r₉ C₉ Z₉ N₉ s1 s2 s3 s4 hI _ rp0 rp1 rp2 => zi_n ⟨zG_T hI, K _ _ (cl_put (cl_A h (zA_of hI) (by rw [s1 64 11 (by decide)]; exact h.2) s2 s3)) ((pr_B hI).trans (s1 64 11 (by decide))) (fr_B hI) (fr_B7 hI) (fr_B65 hI) (fr_B67 hI) (fun z => absurd (e.symm.trans z) (by decide)) (fun z => absurd (e.symm.trans z) (by decide)) (fun _ => ⟨rp0, (T_o5 (zA_of hI)).trans (cmk_y rp1), (by rw [T_o5 (zA_of hI)]; exact rp2)⟩) (fun z => absurd (e.symm.trans z) (by decide)) (fun z => absurd (e.symm.trans z) (by decide)) (fun z => absurd (e.symm.trans z) (by decide)) (fun z => absurd (e.symm.trans z) (by decide))⟩) (fun x S₉ hx hI rx0 rx1 rx2 rx3 => zi_x (by
      subst hx
      exact ⟨_, hd_4_2, K _ _ (cl_X h (zA_of hI) h.2 (Nat.le_refl _) (Nat.le_refl _)) (pr_Bb hI) (fr_Bb hI) (fr_B7b hI) (fr_B65b hI) (fr_B67b hI) (fun z => absurd (e.symm.trans z) (by decide)) (fun z => absurd (e.symm.trans z) (by decide)) (fun _ => ⟨rx0, (cmk_x rx1 rx3), (by show cC (aT 84 S₉) [] (kC S₉) _; rw [rx1]; exact rx2)⟩) (fun z => absurd (e.symm.trans z) (by decide)) (fun z => absurd (e.symm.trans z) (by decide)) (fun z => absurd (e.symm.trans z) (by decide)) (fun z => absurd (e.symm.trans z) (by decide))⟩
      ))
    · exact sp_141_64_s_p87 (ab := aS 88 S) x0 x1 (by omega) (by omega) (zB_of h.1) e (hB (fun z => absurd (e.symm.trans z) (by decide))) rfl (h6 e) (fun v S₉ r₉ C₉ Z₉ N₉ s1 s2 s3 s4 hI _ rp0 rp1 => zi_n ⟨zG_T hI, K _ _ (cl_put (cl_A h (zA_of hI) (by rw [s1 64 11 (by decide)]; exact h.2) s2 s3)) ((pr_B hI).trans (s1 64 11 (by decide))) (fr_B hI) (fr_B7 hI) (fr_B65 hI) (fr_B67 hI) (fun _ => ⟨rp0, (aS_o (zA_of hI)).trans (kmk_y rp1)⟩) (fun z => absurd (e.symm.trans z) (by decide)) (fun z => absurd (e.symm.trans z) (by decide)) (fun z => absurd (e.symm.trans z) (by decide)) (fun z => absurd (e.symm.trans z) (by decide)) (fun z => absurd (e.symm.trans z) (by decide)) (fun z => absurd (e.symm.trans z) (by decide))⟩) (fun x S₉ hx hI rx0 rx1 rx2 => zi_x (by
      subst hx
      exact ⟨_, hd_4_2, K _ _ (cl_X h (zA_of hI) h.2 (Nat.le_refl _) (Nat.le_refl _)) (pr_Bb hI) (fr_Bb hI) (fr_B7b hI) (fr_B65b hI) (fr_B67b hI) (fun _ => ⟨rx0, (kmk_x rx1 rx2)⟩) (fun z => absurd (e.symm.trans z) (by decide)) (fun z => absurd (e.symm.trans z) (by decide)) (fun z => absurd (e.symm.trans z) (by decide)) (fun z => absurd (e.symm.trans z) (by decide)) (fun z => absurd (e.symm.trans z) (by decide)) (fun z => absurd (e.symm.trans z) (by decide))⟩
      ))
    · exact sp_141_64_sz_p91 (ab := aZ S) x0 x1 (by omega) (by omega) (zB_of h.1) e (hB (fun z => absurd (e.symm.trans z) (by decide))) rfl (hV.2.2.2 e) (fun v S₉ r₉ C₉ Z₉ N₉ s1 s2 s3 s4 hI _ rp0 rp1 => zi_n ⟨zG_T hI, K _ _ (cl_put (cl_A h (zA_of hI) (by rw [s1 64 11 (by decide)]; exact h.2) s2 s3)) ((pr_B hI).trans (s1 64 11 (by decide))) (fr_B hI) (fr_B7 hI) (fr_B65 hI) (fr_B67 hI) (fun z => absurd (e.symm.trans z) (by decide)) (fun z => absurd (e.symm.trans z) (by decide)) (fun z => absurd (e.symm.trans z) (by decide)) (fun z => absurd (e.symm.trans z) (by decide)) (fun z => absurd (e.symm.trans z) (by decide)) (fun z => absurd (e.symm.trans z) (by decide)) (fun _ => ⟨rp0, (by rw [(O_o5 (zA_of hI)).2.2.2]; exact Of_q5 (rp1.2.1.trans (qIf_y ⟨rp1.1.1, rp1.1.2.1, rp1.1.2.2⟩).symm))⟩)⟩) (fun x S₉ hx hI rx0 rx1 rx2 => zi_x (by
      subst hx
      exact ⟨_, hd_4_2, K _ _ (cl_X h (zA_of hI) h.2 (Nat.le_refl _) (Nat.le_refl _)) (pr_Bb hI) (fr_Bb hI) (fr_B7b hI) (fr_B65b hI) (fr_B67b hI) (fun z => absurd (e.symm.trans z) (by decide)) (fun z => absurd (e.symm.trans z) (by decide)) (fun z => absurd (e.symm.trans z) (by decide)) (fun z => absurd (e.symm.trans z) (by decide)) (fun z => absurd (e.symm.trans z) (by decide)) (fun z => absurd (e.symm.trans z) (by decide)) (fun _ => ⟨rx0, (by show zOf _ (aZ S₉); exact Of_q5 (rx1.trans (qIf_n (fun w => rx2.2 ⟨w.1, w.2.1, w.2.2.1, w.2.2.2⟩)).symm))⟩)⟩
      ))
theorem gfm_5 {X : Nat × (Nat → Int32)} {d w : Nat} {S : ma_S} {Q : Option ma_V → ma_S → Prop} (x0 : Int32) (x1 : Int32) (x2 : Int32) (hd : 12 ≤ d) (hw : 469 ≤ w) (hS : zT S) (h : ma_wp X (d - 1) (w - 23) 147 0 [(0, .inr (.inr (some 64))), (1, .inl x0), (2, .inl x1), (3, .inl x2)] [] S (zi (fun v2 S1 => zT S1 ∧ (Q (some (.inl (0 : Int32))) (ma_put S1 125 0 (.inr (.inl (v2.toInt64)))))) (fun x S1 => ∃ c, ma_hd method_7_code 6 x 7 [(0, 12, 15, 19), (0, 12, 19, 25)] = some c ∧ Q (some (.inl c)) S1))) : ma_fp X 5 d w 0 [(0, .inr (.inr (some 64))), (1, .inl x0), (2, .inl x1), (3, .inl x2), (4, .inr (.inr (some 125)))] [] S Q := by
  refine zf_push fm_5 dF5_0 (v := .inr (.inr (some 125))) rfl ?_
  refine zf_push fm_5 dF5_2 (v := .inl (0 : Int32)) rfl ?_
  refine zf_push fm_5 dF5_3 (v := .inr (.inr (some 64))) rfl ?_
  refine zf_push fm_5 dF5_4 (v := .inl x0) rfl ?_
  refine zf_push fm_5 dF5_5 (v := .inl x1) rfl ?_
  refine zf_push fm_5 dF5_6 (v := .inl x2) rfl ?_
  refine zf_cv fm_5 dF5_7 v_14_30_11 hm_147 [.inl x2, .inl x1, .inl x0] [.inl (0 : Int32), .inr (.inr (some 125))] rfl (zT_rt hS s_64 rfl) ⟨by omega, by omega⟩ rfl (zw_mono h (zi_go ?_ ?_))
  · intro v2 S1 hv
    obtain ⟨hS1, h⟩ := hv
    refine zf_stk fm_5 dF5_10 (st₉ := [.inr (.inl (v2.toInt64)), .inl (0 : Int32), .inr (.inr (some 125))]) rfl rfl ?_
    refine zf_one fm_5 dF5_11 (oo_las (zT_is hS1 s_125) (zT_h hS1 s_125) (a := 0) rfl ⟨by decide, by decide⟩) ?_
    refine zf_goto fm_5 dF5_12 (t := 23) rfl ?_
    refine zf_push fm_5 dF5_23 (v := .inl (0 : Int32)) rfl ?_
    exact zf_iret fm_5 dF5_24 h
  · intro x S9 hx
    exact ⟨⟨by decide, rfl⟩, hx⟩
theorem fw_5 {X : Nat × (Nat → Int32)} {d w T : Nat} {S : ma_S} {Q : Option ma_V → ma_S → Prop} (x0 : Int32) (x1 : Int32) (x2 : Int32) (hd : 12 ≤ d) (hw : 469 ≤ w) (h : zHsm S) (hb0 : x0 = 0 ∨ x0 = 1) (hB : mR S 64 11 ≠ none → xB S (mR S 70)) (hC : mR S 64 11 = some 84 → cC (aT 84 S) [] (kC S) (T : Int) ∧ qI (aT 84 S)) (hV : zIv S) (hT5 : T + 1 ≤ 512) (h6 : mR S 64 11 = some 87 → 0 ≤ (aS 88 S 87 6).toInt) (K : ∀ (v : Int32) S₉, zCl S S₉ → mR S₉ 64 11 = mR S 64 11 → mI S₉ 64 1 = mI S 64 1 → mI S₉ 64 7 = mI S 64 7 → mI S₉ 65 = mI S 65 → (mI S₉ 67 = mI S 67 ∧ mI S₉ 68 = mI S 68) → (mR S 64 11 = some 87 → xB S₉ (mR S₉ 70) ∧ aS 88 S₉ = qIf (0 ≤ x1.toInt ∧ x1.toInt ≤ 60 ∧ zSl x2) (if x0 = 0 then aMk (aS 88 S) 17 x1 0 x2 else aMk (aS 88 S) 16 x1 (-1) x2) (aS 88 S)) → (mR S 64 11 = some 79 → xB S₉ (mR S₉ 70) ∧ aT 79 S₉ = qIf (0 ≤ x1.toInt ∧ x1.toInt ≤ 60 ∧ zSl x2) (if x0 = 0 then sMk (aT 79 S) 17 x1 0 x2 else sMk (aT 79 S) 16 x1 (-1) x2) (aT 79 S)) → (mR S 64 11 = some 84 → xB S₉ (mR S₉ 70) ∧ aT 84 S₉ = qIf (0 ≤ x1.toInt ∧ x1.toInt ≤ 60 ∧ zSl x2) (if x0 = 0 then kMk (aT 84 S) 17 x1 0 x2 else kMk (aT 84 S) 16 x1 (-1) x2) (aT 84 S) ∧ cC (aT 84 S₉) [] (kC S₉) (T : Int)) → (mR S 64 11 = some 80 → xB S₉ (mR S₉ 70) ∧ zOf (qIf (0 ≤ x1.toInt ∧ x1.toInt ≤ 60 ∧ zSl x2) (if x0 = 0 then lMk (aL S) 17 x1 0 x2 else lMk (aL S) 16 x1 (-1) x2) (aL S)) (aL S₉)) → (mR S 64 11 = some 81 → xB S₉ (mR S₉ 70) ∧ zOf (qIf (0 ≤ x1.toInt ∧ x1.toInt ≤ 60 ∧ zSl x2) (if x0 = 0 then hMk (aH S) 17 x1 0 x2 else hMk (aH S) 16 x1 (-1) x2) (aH S)) (aH S₉)) → (mR S 64 11 = some 82 → xB S₉ (mR S₉ 70) ∧ zOf (qIf (0 ≤ x1.toInt ∧ x1.toInt ≤ 60 ∧ zSl x2) (if x0 = 0 then yMk (aG S) 17 x1 0 x2 else yMk (aG S) 16 x1 (-1) x2) (aG S)) (aG S₉)) → (mR S 64 11 = some 91 → xB S₉ (mR S₉ 70) ∧ zOf (qIf (0 ≤ x1.toInt ∧ x1.toInt ≤ 60 ∧ zSl x2) (if x0 = 0 then rMk (aZ S) 17 x1 0 x2 else rMk (aZ S) 16 x1 (-1) x2) (aZ S)) (aZ S₉)) → Q (some (.inl v)) S₉) : ma_fp X 5 d w 0 [(0, .inr (.inr (some 64))), (1, .inl x0), (2, .inl x1), (3, .inl x2), (4, .inr (.inr (some 125)))] [] S Q := by
  refine gfm_5 x0 x1 x2 hd hw h.1.1 ?_
  rcases h.2 with e | ⟨p, hp, e⟩
  · exact sp_147_64_sx_p0 x0 x1 x2 (by omega) (by omega) (zB_of h.1) e (i_01 hb0).1 (i_01 hb0).2 (fun v S₉ hI w => absurd w (by decide)) (fun x S₉ hx hI hq => zi_x (by
      rcases hx with rfl | rfl
      · exact ⟨_, hd_5_2, K _ _ (cl_X h (zA_of hI) h.2 (Nat.le_refl _) (Nat.le_refl _)) (pr_Bb hI) (fr_Bb hI) (fr_B7b hI) (fr_B65b hI) (fr_B67b hI) (fun z => absurd (e.symm.trans z) (by decide)) (fun z => absurd (e.symm.trans z) (by decide)) (fun z => absurd (e.symm.trans z) (by decide)) (fun z => absurd (e.symm.trans z) (by decide)) (fun z => absurd (e.symm.trans z) (by decide)) (fun z => absurd (e.symm.trans z) (by decide)) (fun z => absurd (e.symm.trans z) (by decide))⟩
      · exact ⟨_, hd_5_3, K _ _ (cl_X h (zA_of hI) h.2 (Nat.le_refl _) (Nat.le_refl _)) (pr_Bb hI) (fr_Bb hI) (fr_B7b hI) (fr_B65b hI) (fr_B67b hI) (fun z => absurd (e.symm.trans z) (by decide)) (fun z => absurd (e.symm.trans z) (by decide)) (fun z => absurd (e.symm.trans z) (by decide)) (fun z => absurd (e.symm.trans z) (by decide)) (fun z => absurd (e.symm.trans z) (by decide)) (fun z => absurd (e.symm.trans z) (by decide)) (fun z => absurd (e.symm.trans z) (by decide))⟩
      ))
  · simp only [zcl7, List.mem_cons, List.not_mem_nil, or_false] at hp
    rcases hp with rfl | rfl | rfl | rfl | rfl | rfl | rfl
    · exact sp_147_64_s7_p79 (ab := aT 79 S) x0 x1 x2 (by omega) (by omega) (zB_of h.1) e (i_01 hb0).1 (i_01 hb0).2 (hB (fun z => absurd (e.symm.trans z) (by decide))) rfl (fun v S₉ r₉ C₉ Z₉ N₉ s1 s2 s3 s4 hI _ rp0 rp1 => zi_n ⟨zG_T hI, K _ _ (cl_put (cl_A h (zA_of hI) (by rw [s1 64 11 (by decide)]; exact h.2) s2 s3)) ((pr_B hI).trans (s1 64 11 (by decide))) (fr_B hI) (fr_B7 hI) (fr_B65 hI) (fr_B67 hI) (fun z => absurd (e.symm.trans z) (by decide)) (fun _ => ⟨rp0, (T_o5 (zA_of hI)).trans (orw_y rp1)⟩) (fun z => absurd (e.symm.trans z) (by decide)) (fun z => absurd (e.symm.trans z) (by decide)) (fun z => absurd (e.symm.trans z) (by decide)) (fun z => absurd (e.symm.trans z) (by decide)) (fun z => absurd (e.symm.trans z) (by decide))⟩) (fun x S₉ hx hI rx0 rx1 rx2 => zi_x (by
      subst hx
      exact ⟨_, hd_5_2, K _ _ (cl_X h (zA_of hI) h.2 (Nat.le_refl _) (Nat.le_refl _)) (pr_Bb hI) (fr_Bb hI) (fr_B7b hI) (fr_B65b hI) (fr_B67b hI) (fun z => absurd (e.symm.trans z) (by decide)) (fun _ => ⟨rx0, (orw_x rx1 rx2)⟩) (fun z => absurd (e.symm.trans z) (by decide)) (fun z => absurd (e.symm.trans z) (by decide)) (fun z => absurd (e.symm.trans z) (by decide)) (fun z => absurd (e.symm.trans z) (by decide)) (fun z => absurd (e.symm.trans z) (by decide))⟩
      ))
    · exact sp_147_64_sl_p80 (ab := aL S) x0 x1 x2 (by omega) (by omega) (zB_of h.1) e (i_01 hb0).1 (i_01 hb0).2 (hB (fun z => absurd (e.symm.trans z) (by decide))) rfl (hV.1 e) (fun v S₉ r₉ C₉ Z₉ N₉ s1 s2 s3 s4 hI _ rp0 rp1 => zi_n ⟨zG_T hI, K _ _ (cl_put (cl_A h (zA_of hI) (by rw [s1 64 11 (by decide)]; exact h.2) s2 s3)) ((pr_B hI).trans (s1 64 11 (by decide))) (fr_B hI) (fr_B7 hI) (fr_B65 hI) (fr_B67 hI) (fun z => absurd (e.symm.trans z) (by decide)) (fun z => absurd (e.symm.trans z) (by decide)) (fun z => absurd (e.symm.trans z) (by decide)) (fun _ => ⟨rp0, (by rw [(O_o5 (zA_of hI)).1]; exact Of_q5 (rp1.2.1.trans (qIf_y ⟨rp1.1.1, rp1.1.2.1, rp1.1.2.2⟩).symm))⟩) (fun z => absurd (e.symm.trans z) (by decide)) (fun z => absurd (e.symm.trans z) (by decide)) (fun z => absurd (e.symm.trans z) (by decide))⟩) (fun x S₉ hx hI rx0 rx1 rx2 => zi_x (by
      subst hx
      exact ⟨_, hd_5_2, K _ _ (cl_X h (zA_of hI) h.2 (Nat.le_refl _) (Nat.le_refl _)) (pr_Bb hI) (fr_Bb hI) (fr_B7b hI) (fr_B65b hI) (fr_B67b hI) (fun z => absurd (e.symm.trans z) (by decide)) (fun z => absurd (e.symm.trans z) (by decide)) (fun z => absurd (e.symm.trans z) (by decide)) (fun _ => ⟨rx0, (by show zOf _ (aL S₉); exact Of_q5 (rx1.trans (qIf_n (fun w => rx2.2 ⟨w.1, w.2.1, w.2.2.1, w.2.2.2⟩)).symm))⟩) (fun z => absurd (e.symm.trans z) (by decide)) (fun z => absurd (e.symm.trans z) (by decide)) (fun z => absurd (e.symm.trans z) (by decide))⟩
      ))
    · exact sp_147_64_sv_p81 (ab := aH S) x0 x1 x2 (by omega) (by omega) (zB_of h.1) e (i_01 hb0).1 (i_01 hb0).2 (hB (fun z => absurd (e.symm.trans z) (by decide))) rfl (hV.2.1 e) (fun v S₉ r₉ C₉ Z₉ N₉ s1 s2 s3 s4 hI _ rp0 rp1 => zi_n ⟨zG_T hI, K _ _ (cl_put (cl_A h (zA_of hI) (by rw [s1 64 11 (by decide)]; exact h.2) s2 s3)) ((pr_B hI).trans (s1 64 11 (by decide))) (fr_B hI) (fr_B7 hI) (fr_B65 hI) (fr_B67 hI) (fun z => absurd (e.symm.trans z) (by decide)) (fun z => absurd (e.symm.trans z) (by decide)) (fun z => absurd (e.symm.trans z) (by decide)) (fun z => absurd (e.symm.trans z) (by decide)) (fun _ => ⟨rp0, (by rw [(O_o5 (zA_of hI)).2.1]; exact Of_q5 (rp1.2.1.trans (qIf_y ⟨rp1.1.1, rp1.1.2.1, rp1.1.2.2⟩).symm))⟩) (fun z => absurd (e.symm.trans z) (by decide)) (fun z => absurd (e.symm.trans z) (by decide))⟩) (fun x S₉ hx hI rx0 rx1 rx2 => zi_x (by
      subst hx
      exact ⟨_, hd_5_2, K _ _ (cl_X h (zA_of hI) h.2 (Nat.le_refl _) (Nat.le_refl _)) (pr_Bb hI) (fr_Bb hI) (fr_B7b hI) (fr_B65b hI) (fr_B67b hI) (fun z => absurd (e.symm.trans z) (by decide)) (fun z => absurd (e.symm.trans z) (by decide)) (fun z => absurd (e.symm.trans z) (by decide)) (fun z => absurd (e.symm.trans z) (by decide)) (fun _ => ⟨rx0, (by show zOf _ (aH S₉); exact Of_q5 (rx1.trans (qIf_n (fun w => rx2.2 ⟨w.1, w.2.1, w.2.2.1, w.2.2.2⟩)).symm))⟩) (fun z => absurd (e.symm.trans z) (by decide)) (fun z => absurd (e.symm.trans z) (by decide))⟩
      ))
    · exact sp_147_64_sy_p82 (ab := aG S) x0 x1 x2 (by omega) (by omega) (zB_of h.1) e (i_01 hb0).1 (i_01 hb0).2 (hB (fun z => absurd (e.symm.trans z) (by decide))) rfl (hV.2.2.1 e) (fun v S₉ r₉ C₉ Z₉ N₉ s1 s2 s3 s4 hI _ rp0 rp1 => zi_n ⟨zG_T hI, K _ _ (cl_put (cl_A h (zA_of hI) (by rw [s1 64 11 (by decide)]; exact h.2) s2 s3)) ((pr_B hI).trans (s1 64 11 (by decide))) (fr_B hI) (fr_B7 hI) (fr_B65 hI) (fr_B67 hI) (fun z => absurd (e.symm.trans z) (by decide)) (fun z => absurd (e.symm.trans z) (by decide)) (fun z => absurd (e.symm.trans z) (by decide)) (fun z => absurd (e.symm.trans z) (by decide)) (fun z => absurd (e.symm.trans z) (by decide)) (fun _ => ⟨rp0, (by rw [(O_o5 (zA_of hI)).2.2.1]; exact Of_q5 (rp1.2.1.trans (qIf_y ⟨rp1.1.1, rp1.1.2.1, rp1.1.2.2⟩).symm))⟩) (fun z => absurd (e.symm.trans z) (by decide))⟩) (fun x S₉ hx hI rx0 rx1 rx2 => zi_x (by
      subst hx
      exact ⟨_, hd_5_2, K _ _ (cl_X h (zA_of hI) h.2 (Nat.le_refl _) (Nat.le_refl _)) (pr_Bb hI) (fr_Bb hI) (fr_B7b hI) (fr_B65b hI) (fr_B67b hI) (fun z => absurd (e.symm.trans z) (by decide)) (fun z => absurd (e.symm.trans z) (by decide)) (fun z => absurd (e.symm.trans z) (by decide)) (fun z => absurd (e.symm.trans z) (by decide)) (fun z => absurd (e.symm.trans z) (by decide)) (fun _ => ⟨rx0, (by show zOf _ (aG S₉); exact Of_q5 (rx1.trans (qIf_n (fun w => rx2.2 ⟨w.1, w.2.1, w.2.2.1, w.2.2.2⟩)).symm))⟩) (fun z => absurd (e.symm.trans z) (by decide))⟩
      ))
    · exact sp_147_64_sk_p84 (ab := aT 84 S) (B := (T : Int)) x0 x1 x2 (by omega) (by omega) (zB_of h.1) e (i_01 hb0).1 (i_01 hb0).2 (hB (fun z => absurd (e.symm.trans z) (by decide))) rfl (hC e).1 (hC e).2 (by omega) (by omega) (fun v S₉ r₉ C₉ Z₉ N₉ s1 s2 s3 s4 hI _ rp0 rp1 rp2 => zi_n ⟨zG_T hI, K _ _ (cl_put (cl_A h (zA_of hI) (by rw [s1 64 11 (by decide)]; exact h.2) s2 s3)) ((pr_B hI).trans (s1 64 11 (by decide))) (fr_B hI) (fr_B7 hI) (fr_B65 hI) (fr_B67 hI) (fun z => absurd (e.symm.trans z) (by decide)) (fun z => absurd (e.symm.trans z) (by decide)) (fun _ => ⟨rp0, (T_o5 (zA_of hI)).trans (crw_y rp1), (by rw [T_o5 (zA_of hI)]; exact rp2)⟩) (fun z => absurd (e.symm.trans z) (by decide)) (fun z => absurd (e.symm.trans z) (by decide)) (fun z => absurd (e.symm.trans z) (by decide)) (fun z => absurd (e.symm.trans z) (by decide))⟩) (fun x S₉ hx hI rx0 rx1 rx2 rx3 => zi_x (by
      subst hx
      exact ⟨_, hd_5_2, K _ _ (cl_X h (zA_of hI) h.2 (Nat.le_refl _) (Nat.le_refl _)) (pr_Bb hI) (fr_Bb hI) (fr_B7b hI) (fr_B65b hI) (fr_B67b hI) (fun z => absurd (e.symm.trans z) (by decide)) (fun z => absurd (e.symm.trans z) (by decide)) (fun _ => ⟨rx0, (crw_x rx1 rx3), (by show cC (aT 84 S₉) [] (kC S₉) _; rw [rx1]; exact rx2)⟩) (fun z => absurd (e.symm.trans z) (by decide)) (fun z => absurd (e.symm.trans z) (by decide)) (fun z => absurd (e.symm.trans z) (by decide)) (fun z => absurd (e.symm.trans z) (by decide))⟩
      ))
    · exact sp_147_64_s_p87 (ab := aS 88 S) x0 x1 x2 (by omega) (by omega) (zB_of h.1) e (i_01 hb0).1 (i_01 hb0).2 (hB (fun z => absurd (e.symm.trans z) (by decide))) rfl (h6 e) (fun v S₉ r₉ C₉ Z₉ N₉ s1 s2 s3 s4 hI _ rp0 rp1 => zi_n ⟨zG_T hI, K _ _ (cl_put (cl_A h (zA_of hI) (by rw [s1 64 11 (by decide)]; exact h.2) s2 s3)) ((pr_B hI).trans (s1 64 11 (by decide))) (fr_B hI) (fr_B7 hI) (fr_B65 hI) (fr_B67 hI) (fun _ => ⟨rp0, (aS_o (zA_of hI)).trans (krw_y rp1)⟩) (fun z => absurd (e.symm.trans z) (by decide)) (fun z => absurd (e.symm.trans z) (by decide)) (fun z => absurd (e.symm.trans z) (by decide)) (fun z => absurd (e.symm.trans z) (by decide)) (fun z => absurd (e.symm.trans z) (by decide)) (fun z => absurd (e.symm.trans z) (by decide))⟩) (fun x S₉ hx hI rx0 rx1 rx2 => zi_x (by
      subst hx
      exact ⟨_, hd_5_2, K _ _ (cl_X h (zA_of hI) h.2 (Nat.le_refl _) (Nat.le_refl _)) (pr_Bb hI) (fr_Bb hI) (fr_B7b hI) (fr_B65b hI) (fr_B67b hI) (fun _ => ⟨rx0, (krw_x rx1 rx2)⟩) (fun z => absurd (e.symm.trans z) (by decide)) (fun z => absurd (e.symm.trans z) (by decide)) (fun z => absurd (e.symm.trans z) (by decide)) (fun z => absurd (e.symm.trans z) (by decide)) (fun z => absurd (e.symm.trans z) (by decide)) (fun z => absurd (e.symm.trans z) (by decide))⟩
      ))
    · exact sp_147_64_sz_p91 (ab := aZ S) x0 x1 x2 (by omega) (by omega) (zB_of h.1) e (i_01 hb0).1 (i_01 hb0).2 (hB (fun z => absurd (e.symm.trans z) (by decide))) rfl (hV.2.2.2 e) (fun v S₉ r₉ C₉ Z₉ N₉ s1 s2 s3 s4 hI _ rp0 rp1 => zi_n ⟨zG_T hI, K _ _ (cl_put (cl_A h (zA_of hI) (by rw [s1 64 11 (by decide)]; exact h.2) s2 s3)) ((pr_B hI).trans (s1 64 11 (by decide))) (fr_B hI) (fr_B7 hI) (fr_B65 hI) (fr_B67 hI) (fun z => absurd (e.symm.trans z) (by decide)) (fun z => absurd (e.symm.trans z) (by decide)) (fun z => absurd (e.symm.trans z) (by decide)) (fun z => absurd (e.symm.trans z) (by decide)) (fun z => absurd (e.symm.trans z) (by decide)) (fun z => absurd (e.symm.trans z) (by decide)) (fun _ => ⟨rp0, (by rw [(O_o5 (zA_of hI)).2.2.2]; exact Of_q5 (rp1.2.1.trans (qIf_y ⟨rp1.1.1, rp1.1.2.1, rp1.1.2.2⟩).symm))⟩)⟩) (fun x S₉ hx hI rx0 rx1 rx2 => zi_x (by
      subst hx
      exact ⟨_, hd_5_2, K _ _ (cl_X h (zA_of hI) h.2 (Nat.le_refl _) (Nat.le_refl _)) (pr_Bb hI) (fr_Bb hI) (fr_B7b hI) (fr_B65b hI) (fr_B67b hI) (fun z => absurd (e.symm.trans z) (by decide)) (fun z => absurd (e.symm.trans z) (by decide)) (fun z => absurd (e.symm.trans z) (by decide)) (fun z => absurd (e.symm.trans z) (by decide)) (fun z => absurd (e.symm.trans z) (by decide)) (fun z => absurd (e.symm.trans z) (by decide)) (fun _ => ⟨rx0, (by show zOf _ (aZ S₉); exact Of_q5 (rx1.trans (qIf_n (fun w => rx2.2 ⟨w.1, w.2.1, w.2.2.1, w.2.2.2⟩)).symm))⟩)⟩
      ))
theorem gfm_6 {X : Nat × (Nat → Int32)} {d w : Nat} {S : ma_S} {Q : Option ma_V → ma_S → Prop} (x0 : Int32) (x1 : Int32) (x2 : Int32) (hd : 12 ≤ d) (hw : 469 ≤ w) (hS : zT S) (h : ma_wp X (d - 1) (w - 24) 148 0 [(0, .inr (.inr (some 64))), (1, .inl x0), (2, .inl x1), (3, .inl x2)] [] S (zi (fun v2 S1 => zT S1 ∧ (Q (some (.inl (0 : Int32))) (ma_put S1 125 0 (.inr (.inl (v2.toInt64)))))) (fun x S1 => ∃ c, ma_hd method_8_code 6 x 7 [(0, 12, 15, 25), (0, 12, 19, 38), (0, 12, 23, 13), (0, 12, 27, 40)] = some c ∧ Q (some (.inl c)) S1))) : ma_fp X 6 d w 0 [(0, .inr (.inr (some 64))), (1, .inl x0), (2, .inl x1), (3, .inl x2), (4, .inr (.inr (some 125)))] [] S Q := by
  refine zf_push fm_6 dF6_0 (v := .inr (.inr (some 125))) rfl ?_
  refine zf_push fm_6 dF6_2 (v := .inl (0 : Int32)) rfl ?_
  refine zf_push fm_6 dF6_3 (v := .inr (.inr (some 64))) rfl ?_
  refine zf_push fm_6 dF6_4 (v := .inl x0) rfl ?_
  refine zf_push fm_6 dF6_5 (v := .inl x1) rfl ?_
  refine zf_push fm_6 dF6_6 (v := .inl x2) rfl ?_
  refine zf_cv fm_6 dF6_7 v_14_34_11 hm_148 [.inl x2, .inl x1, .inl x0] [.inl (0 : Int32), .inr (.inr (some 125))] rfl (zT_rt hS s_64 rfl) ⟨by omega, by omega⟩ rfl (zw_mono h (zi_go ?_ ?_))
  · intro v2 S1 hv
    obtain ⟨hS1, h⟩ := hv
    refine zf_stk fm_6 dF6_10 (st₉ := [.inr (.inl (v2.toInt64)), .inl (0 : Int32), .inr (.inr (some 125))]) rfl rfl ?_
    refine zf_one fm_6 dF6_11 (oo_las (zT_is hS1 s_125) (zT_h hS1 s_125) (a := 0) rfl ⟨by decide, by decide⟩) ?_
    refine zf_goto fm_6 dF6_12 (t := 31) rfl ?_
    refine zf_push fm_6 dF6_31 (v := .inl (0 : Int32)) rfl ?_
    exact zf_iret fm_6 dF6_32 h
  · intro x S9 hx
    exact ⟨⟨by decide, rfl⟩, hx⟩
theorem fw_6 {X : Nat × (Nat → Int32)} {d w T : Nat} {S : ma_S} {Q : Option ma_V → ma_S → Prop} (x0 : Int32) (x1 : Int32) (x2 : Int32) (hd : 12 ≤ d) (hw : 469 ≤ w) (h : zHsm S)  (hB : mR S 64 11 ≠ none → xB S (mR S 70)) (hC : mR S 64 11 = some 84 → cC (aT 84 S) [] (kC S) (T : Int) ∧ qI (aT 84 S)) (hV : zIv S) (hT5 : T + 1 ≤ 512) (K : ∀ (v : Int32) S₉, zCl S S₉ → mR S₉ 64 11 = mR S 64 11 → mI S₉ 64 1 = mI S 64 1 → mI S₉ 64 7 = mI S 64 7 → mI S₉ 65 = mI S 65 → (mI S₉ 67 = mI S 67 ∧ mI S₉ 68 = mI S 68) → (mR S 64 11 = some 87 → xB S₉ (mR S₉ 70) ∧ aS 88 S₉ = xPu (aS 88 S) x0 x1 x2) → (mR S 64 11 = some 79 → xB S₉ (mR S₉ 70) ∧ aS 88 S₉ = xPu (aS 88 S) x0 x1 x2 ∧ zfP 79 (mI S₉) = zfP 79 (mI S)) → (mR S 64 11 = some 84 → xB S₉ (mR S₉ 70) ∧ aS 88 S₉ = xPu (aS 88 S) x0 x1 x2 ∧ zfP 84 (mI S₉) = zfP 84 (mI S) ∧ cC (aS 88 S₉) [] (kC S₉) (T : Int)) → (mR S 64 11 = some 80 → xB S₉ (mR S₉ 70) ∧ zOf (xPu (aL S) x0 x1 x2) (aL S₉)) → (mR S 64 11 = some 81 → xB S₉ (mR S₉ 70) ∧ zOf (xPu (aH S) x0 x1 x2) (aH S₉)) → (mR S 64 11 = some 82 → xB S₉ (mR S₉ 70) ∧ zOf (xPu (aG S) x0 x1 x2) (aG S₉)) → (mR S 64 11 = some 91 → xB S₉ (mR S₉ 70) ∧ zOf (zX93 (xPu (aZ S) x0 x1 x2) (mI S₉ 93)) (aZ S₉)) → Q (some (.inl v)) S₉) : ma_fp X 6 d w 0 [(0, .inr (.inr (some 64))), (1, .inl x0), (2, .inl x1), (3, .inl x2), (4, .inr (.inr (some 125)))] [] S Q := by
  refine gfm_6 x0 x1 x2 hd hw h.1.1 ?_
  rcases h.2 with e | ⟨p, hp, e⟩
  · exact sp_148_64_sx_p0 x0 x1 x2 (by omega) (by omega) (zB_of h.1) e (fun v S₉ hI w => absurd w (by decide)) (fun x S₉ hx hI => zi_x (by
      subst hx
      exact ⟨_, hd_6_3, K _ _ (cl_X h (zA_of hI) h.2 (Nat.le_refl _) (Nat.le_refl _)) (pr_Bb hI) (fr_Bb hI) (fr_B7b hI) (fr_B65b hI) (fr_B67b hI) (fun z => absurd (e.symm.trans z) (by decide)) (fun z => absurd (e.symm.trans z) (by decide)) (fun z => absurd (e.symm.trans z) (by decide)) (fun z => absurd (e.symm.trans z) (by decide)) (fun z => absurd (e.symm.trans z) (by decide)) (fun z => absurd (e.symm.trans z) (by decide)) (fun z => absurd (e.symm.trans z) (by decide))⟩
      ))
  · simp only [zcl7, List.mem_cons, List.not_mem_nil, or_false] at hp
    rcases hp with rfl | rfl | rfl | rfl | rfl | rfl | rfl
    · exact sp_148_64_s_p79 (ab := aS 88 S) (fq := zfP 79 (mI S)) x0 x1 x2 (by omega) (by omega) (zB_of h.1) e (hB (fun z => absurd (e.symm.trans z) (by decide))) rfl rfl (fun v S₉ hI _ rp0 rp1 rp2 => zi_n ⟨zG_T hI, K _ _ (cl_put (cl_A h (zA_of hI) h.2 (Nat.le_succ _) (Nat.le_add_right _ _))) (pr_B hI) (fr_B hI) (fr_B7 hI) (fr_B65 hI) (fr_B67 hI) (fun z => absurd (e.symm.trans z) (by decide)) (fun _ => ⟨rp0, (aS_o (zA_of hI)).trans (kpu_y rp1), rp2⟩) (fun z => absurd (e.symm.trans z) (by decide)) (fun z => absurd (e.symm.trans z) (by decide)) (fun z => absurd (e.symm.trans z) (by decide)) (fun z => absurd (e.symm.trans z) (by decide)) (fun z => absurd (e.symm.trans z) (by decide))⟩) (fun x S₉ hx hI rx0 rx1 rx2 rx3 => zi_x (by
      rcases hx with rfl | rfl | rfl
      · exact ⟨_, hd_6_1, K _ _ (cl_X h (zA_of hI) h.2 (Nat.le_refl _) (Nat.le_refl _)) (pr_Bb hI) (fr_Bb hI) (fr_B7b hI) (fr_B65b hI) (fr_B67b hI) (fun z => absurd (e.symm.trans z) (by decide)) (fun _ => ⟨rx0, (kpu_x rx1 rx2), rx3⟩) (fun z => absurd (e.symm.trans z) (by decide)) (fun z => absurd (e.symm.trans z) (by decide)) (fun z => absurd (e.symm.trans z) (by decide)) (fun z => absurd (e.symm.trans z) (by decide)) (fun z => absurd (e.symm.trans z) (by decide))⟩
      · exact ⟨_, hd_6_4, K _ _ (cl_X h (zA_of hI) h.2 (Nat.le_refl _) (Nat.le_refl _)) (pr_Bb hI) (fr_Bb hI) (fr_B7b hI) (fr_B65b hI) (fr_B67b hI) (fun z => absurd (e.symm.trans z) (by decide)) (fun _ => ⟨rx0, (kpu_x rx1 rx2), rx3⟩) (fun z => absurd (e.symm.trans z) (by decide)) (fun z => absurd (e.symm.trans z) (by decide)) (fun z => absurd (e.symm.trans z) (by decide)) (fun z => absurd (e.symm.trans z) (by decide)) (fun z => absurd (e.symm.trans z) (by decide))⟩
      · exact ⟨_, hd_6_5, K _ _ (cl_X h (zA_of hI) h.2 (Nat.le_refl _) (Nat.le_refl _)) (pr_Bb hI) (fr_Bb hI) (fr_B7b hI) (fr_B65b hI) (fr_B67b hI) (fun z => absurd (e.symm.trans z) (by decide)) (fun _ => ⟨rx0, (kpu_x rx1 rx2), rx3⟩) (fun z => absurd (e.symm.trans z) (by decide)) (fun z => absurd (e.symm.trans z) (by decide)) (fun z => absurd (e.symm.trans z) (by decide)) (fun z => absurd (e.symm.trans z) (by decide)) (fun z => absurd (e.symm.trans z) (by decide))⟩
      ))
    · exact sp_148_64_sm_p80 (ab := aS 88 S) (fp80 := mI S 80) x0 x1 x2 (by omega) (by omega) (zB_of h.1) e (hB (fun z => absurd (e.symm.trans z) (by decide))) rfl rfl (fun v S₉ hI _ rp0 rp1 rp2 => zi_n ⟨zG_T hI, K _ _ (cl_put (cl_A h (zA_of hI) h.2 (Nat.le_succ _) (Nat.le_add_right _ _))) (pr_B hI) (fr_B hI) (fr_B7 hI) (fr_B65 hI) (fr_B67 hI) (fun z => absurd (e.symm.trans z) (by decide)) (fun z => absurd (e.symm.trans z) (by decide)) (fun z => absurd (e.symm.trans z) (by decide)) (fun _ => ⟨rp0, (by rw [(O_o5 (zA_of hI)).1]; exact L_kp (S₉ := S₉) (Ay_pu M_88) (kpu_y rp1) rp2)⟩) (fun z => absurd (e.symm.trans z) (by decide)) (fun z => absurd (e.symm.trans z) (by decide)) (fun z => absurd (e.symm.trans z) (by decide))⟩) (fun x S₉ hx hI rx0 rx1 rx2 rx3 => zi_x (by
      rcases hx with rfl | rfl | rfl
      · exact ⟨_, hd_6_1, K _ _ (cl_X h (zA_of hI) h.2 (Nat.le_refl _) (Nat.le_refl _)) (pr_Bb hI) (fr_Bb hI) (fr_B7b hI) (fr_B65b hI) (fr_B67b hI) (fun z => absurd (e.symm.trans z) (by decide)) (fun z => absurd (e.symm.trans z) (by decide)) (fun z => absurd (e.symm.trans z) (by decide)) (fun _ => ⟨rx0, (L_kp (S₉ := S₉) (Ay_pu M_88) (kpu_x rx1 rx2) rx3)⟩) (fun z => absurd (e.symm.trans z) (by decide)) (fun z => absurd (e.symm.trans z) (by decide)) (fun z => absurd (e.symm.trans z) (by decide))⟩
      · exact ⟨_, hd_6_4, K _ _ (cl_X h (zA_of hI) h.2 (Nat.le_refl _) (Nat.le_refl _)) (pr_Bb hI) (fr_Bb hI) (fr_B7b hI) (fr_B65b hI) (fr_B67b hI) (fun z => absurd (e.symm.trans z) (by decide)) (fun z => absurd (e.symm.trans z) (by decide)) (fun z => absurd (e.symm.trans z) (by decide)) (fun _ => ⟨rx0, (L_kp (S₉ := S₉) (Ay_pu M_88) (kpu_x rx1 rx2) rx3)⟩) (fun z => absurd (e.symm.trans z) (by decide)) (fun z => absurd (e.symm.trans z) (by decide)) (fun z => absurd (e.symm.trans z) (by decide))⟩
      · exact ⟨_, hd_6_5, K _ _ (cl_X h (zA_of hI) h.2 (Nat.le_refl _) (Nat.le_refl _)) (pr_Bb hI) (fr_Bb hI) (fr_B7b hI) (fr_B65b hI) (fr_B67b hI) (fun z => absurd (e.symm.trans z) (by decide)) (fun z => absurd (e.symm.trans z) (by decide)) (fun z => absurd (e.symm.trans z) (by decide)) (fun _ => ⟨rx0, (L_kp (S₉ := S₉) (Ay_pu M_88) (kpu_x rx1 rx2) rx3)⟩) (fun z => absurd (e.symm.trans z) (by decide)) (fun z => absurd (e.symm.trans z) (by decide)) (fun z => absurd (e.symm.trans z) (by decide))⟩
      ))
    · exact sp_148_64_sm_p81 (ab := aS 88 S) (fp81 := mI S 81) x0 x1 x2 (by omega) (by omega) (zB_of h.1) e (hB (fun z => absurd (e.symm.trans z) (by decide))) rfl rfl (fun v S₉ hI _ rp0 rp1 rp2 => zi_n ⟨zG_T hI, K _ _ (cl_put (cl_A h (zA_of hI) h.2 (Nat.le_succ _) (Nat.le_add_right _ _))) (pr_B hI) (fr_B hI) (fr_B7 hI) (fr_B65 hI) (fr_B67 hI) (fun z => absurd (e.symm.trans z) (by decide)) (fun z => absurd (e.symm.trans z) (by decide)) (fun z => absurd (e.symm.trans z) (by decide)) (fun z => absurd (e.symm.trans z) (by decide)) (fun _ => ⟨rp0, (by rw [(O_o5 (zA_of hI)).2.1]; exact H_kp (S₉ := S₉) (Ay_pu M_88) (kpu_y rp1) rp2)⟩) (fun z => absurd (e.symm.trans z) (by decide)) (fun z => absurd (e.symm.trans z) (by decide))⟩) (fun x S₉ hx hI rx0 rx1 rx2 rx3 => zi_x (by
      rcases hx with rfl | rfl | rfl
      · exact ⟨_, hd_6_1, K _ _ (cl_X h (zA_of hI) h.2 (Nat.le_refl _) (Nat.le_refl _)) (pr_Bb hI) (fr_Bb hI) (fr_B7b hI) (fr_B65b hI) (fr_B67b hI) (fun z => absurd (e.symm.trans z) (by decide)) (fun z => absurd (e.symm.trans z) (by decide)) (fun z => absurd (e.symm.trans z) (by decide)) (fun z => absurd (e.symm.trans z) (by decide)) (fun _ => ⟨rx0, (H_kp (S₉ := S₉) (Ay_pu M_88) (kpu_x rx1 rx2) rx3)⟩) (fun z => absurd (e.symm.trans z) (by decide)) (fun z => absurd (e.symm.trans z) (by decide))⟩
      · exact ⟨_, hd_6_4, K _ _ (cl_X h (zA_of hI) h.2 (Nat.le_refl _) (Nat.le_refl _)) (pr_Bb hI) (fr_Bb hI) (fr_B7b hI) (fr_B65b hI) (fr_B67b hI) (fun z => absurd (e.symm.trans z) (by decide)) (fun z => absurd (e.symm.trans z) (by decide)) (fun z => absurd (e.symm.trans z) (by decide)) (fun z => absurd (e.symm.trans z) (by decide)) (fun _ => ⟨rx0, (H_kp (S₉ := S₉) (Ay_pu M_88) (kpu_x rx1 rx2) rx3)⟩) (fun z => absurd (e.symm.trans z) (by decide)) (fun z => absurd (e.symm.trans z) (by decide))⟩
      · exact ⟨_, hd_6_5, K _ _ (cl_X h (zA_of hI) h.2 (Nat.le_refl _) (Nat.le_refl _)) (pr_Bb hI) (fr_Bb hI) (fr_B7b hI) (fr_B65b hI) (fr_B67b hI) (fun z => absurd (e.symm.trans z) (by decide)) (fun z => absurd (e.symm.trans z) (by decide)) (fun z => absurd (e.symm.trans z) (by decide)) (fun z => absurd (e.symm.trans z) (by decide)) (fun _ => ⟨rx0, (H_kp (S₉ := S₉) (Ay_pu M_88) (kpu_x rx1 rx2) rx3)⟩) (fun z => absurd (e.symm.trans z) (by decide)) (fun z => absurd (e.symm.trans z) (by decide))⟩
      ))
    · exact sp_148_64_sm_p82 (ab := aS 88 S) (fp82 := mI S 82) (fp83 := mI S 83) x0 x1 x2 (by omega) (by omega) (zB_of h.1) e (hB (fun z => absurd (e.symm.trans z) (by decide))) rfl rfl rfl (fun v S₉ hI _ rp0 rp1 rp2 rp3 => zi_n ⟨zG_T hI, K _ _ (cl_put (cl_A h (zA_of hI) h.2 (Nat.le_succ _) (Nat.le_add_right _ _))) (pr_B hI) (fr_B hI) (fr_B7 hI) (fr_B65 hI) (fr_B67 hI) (fun z => absurd (e.symm.trans z) (by decide)) (fun z => absurd (e.symm.trans z) (by decide)) (fun z => absurd (e.symm.trans z) (by decide)) (fun z => absurd (e.symm.trans z) (by decide)) (fun z => absurd (e.symm.trans z) (by decide)) (fun _ => ⟨rp0, (by rw [(O_o5 (zA_of hI)).2.2.1]; exact G_kp (S₉ := S₉) (Ay_pu G_88) (kpu_y rp1) rp2 rp3)⟩) (fun z => absurd (e.symm.trans z) (by decide))⟩) (fun x S₉ hx hI rx0 rx1 rx2 rx3 rx4 => zi_x (by
      rcases hx with rfl | rfl | rfl
      · exact ⟨_, hd_6_1, K _ _ (cl_X h (zA_of hI) h.2 (Nat.le_refl _) (Nat.le_refl _)) (pr_Bb hI) (fr_Bb hI) (fr_B7b hI) (fr_B65b hI) (fr_B67b hI) (fun z => absurd (e.symm.trans z) (by decide)) (fun z => absurd (e.symm.trans z) (by decide)) (fun z => absurd (e.symm.trans z) (by decide)) (fun z => absurd (e.symm.trans z) (by decide)) (fun z => absurd (e.symm.trans z) (by decide)) (fun _ => ⟨rx0, (G_kp (S₉ := S₉) (Ay_pu G_88) (kpu_x rx1 rx2) rx3 rx4)⟩) (fun z => absurd (e.symm.trans z) (by decide))⟩
      · exact ⟨_, hd_6_4, K _ _ (cl_X h (zA_of hI) h.2 (Nat.le_refl _) (Nat.le_refl _)) (pr_Bb hI) (fr_Bb hI) (fr_B7b hI) (fr_B65b hI) (fr_B67b hI) (fun z => absurd (e.symm.trans z) (by decide)) (fun z => absurd (e.symm.trans z) (by decide)) (fun z => absurd (e.symm.trans z) (by decide)) (fun z => absurd (e.symm.trans z) (by decide)) (fun z => absurd (e.symm.trans z) (by decide)) (fun _ => ⟨rx0, (G_kp (S₉ := S₉) (Ay_pu G_88) (kpu_x rx1 rx2) rx3 rx4)⟩) (fun z => absurd (e.symm.trans z) (by decide))⟩
      · exact ⟨_, hd_6_5, K _ _ (cl_X h (zA_of hI) h.2 (Nat.le_refl _) (Nat.le_refl _)) (pr_Bb hI) (fr_Bb hI) (fr_B7b hI) (fr_B65b hI) (fr_B67b hI) (fun z => absurd (e.symm.trans z) (by decide)) (fun z => absurd (e.symm.trans z) (by decide)) (fun z => absurd (e.symm.trans z) (by decide)) (fun z => absurd (e.symm.trans z) (by decide)) (fun z => absurd (e.symm.trans z) (by decide)) (fun _ => ⟨rx0, (G_kp (S₉ := S₉) (Ay_pu G_88) (kpu_x rx1 rx2) rx3 rx4)⟩) (fun z => absurd (e.symm.trans z) (by decide))⟩
      ))
    · exact sp_148_64_sk_p84 (ab := aS 88 S) (B := (T : Int)) (fq := zfP 84 (mI S)) x0 x1 x2 (by omega) (by omega) (zB_of h.1) e (hB (fun z => absurd (e.symm.trans z) (by decide))) rfl (C_o8 T_88 (hC e).1) rfl (fun v S₉ hI _ rp0 rp1 rp2 rp3 => zi_n ⟨zG_T hI, K _ _ (cl_put (cl_A h (zA_of hI) h.2 (Nat.le_succ _) (Nat.le_add_right _ _))) (pr_B hI) (fr_B hI) (fr_B7 hI) (fr_B65 hI) (fr_B67 hI) (fun z => absurd (e.symm.trans z) (by decide)) (fun z => absurd (e.symm.trans z) (by decide)) (fun _ => ⟨rp0, (aS_o (zA_of hI)).trans (kpu_y rp2), rp3, (by rw [aS_o (zA_of hI)]; exact rp1)⟩) (fun z => absurd (e.symm.trans z) (by decide)) (fun z => absurd (e.symm.trans z) (by decide)) (fun z => absurd (e.symm.trans z) (by decide)) (fun z => absurd (e.symm.trans z) (by decide))⟩) (fun x S₉ hx hI rx0 rx1 rx2 rx3 rx4 => zi_x (by
      rcases hx with rfl | rfl | rfl
      · exact ⟨_, hd_6_1, K _ _ (cl_X h (zA_of hI) h.2 (Nat.le_refl _) (Nat.le_refl _)) (pr_Bb hI) (fr_Bb hI) (fr_B7b hI) (fr_B65b hI) (fr_B67b hI) (fun z => absurd (e.symm.trans z) (by decide)) (fun z => absurd (e.symm.trans z) (by decide)) (fun _ => ⟨rx0, (kpu_x rx1 rx3), rx4, (by show cC (aS 88 S₉) [] (kC S₉) _; rw [rx1]; exact rx2)⟩) (fun z => absurd (e.symm.trans z) (by decide)) (fun z => absurd (e.symm.trans z) (by decide)) (fun z => absurd (e.symm.trans z) (by decide)) (fun z => absurd (e.symm.trans z) (by decide))⟩
      · exact ⟨_, hd_6_4, K _ _ (cl_X h (zA_of hI) h.2 (Nat.le_refl _) (Nat.le_refl _)) (pr_Bb hI) (fr_Bb hI) (fr_B7b hI) (fr_B65b hI) (fr_B67b hI) (fun z => absurd (e.symm.trans z) (by decide)) (fun z => absurd (e.symm.trans z) (by decide)) (fun _ => ⟨rx0, (kpu_x rx1 rx3), rx4, (by show cC (aS 88 S₉) [] (kC S₉) _; rw [rx1]; exact rx2)⟩) (fun z => absurd (e.symm.trans z) (by decide)) (fun z => absurd (e.symm.trans z) (by decide)) (fun z => absurd (e.symm.trans z) (by decide)) (fun z => absurd (e.symm.trans z) (by decide))⟩
      · exact ⟨_, hd_6_5, K _ _ (cl_X h (zA_of hI) h.2 (Nat.le_refl _) (Nat.le_refl _)) (pr_Bb hI) (fr_Bb hI) (fr_B7b hI) (fr_B65b hI) (fr_B67b hI) (fun z => absurd (e.symm.trans z) (by decide)) (fun z => absurd (e.symm.trans z) (by decide)) (fun _ => ⟨rx0, (kpu_x rx1 rx3), rx4, (by show cC (aS 88 S₉) [] (kC S₉) _; rw [rx1]; exact rx2)⟩) (fun z => absurd (e.symm.trans z) (by decide)) (fun z => absurd (e.symm.trans z) (by decide)) (fun z => absurd (e.symm.trans z) (by decide)) (fun z => absurd (e.symm.trans z) (by decide))⟩
      ))
    · exact sp_148_64_s_p87 (ab := aS 88 S) x0 x1 x2 (by omega) (by omega) (zB_of h.1) e (hB (fun z => absurd (e.symm.trans z) (by decide))) rfl (fun v S₉ hI _ rp0 rp1 => zi_n ⟨zG_T hI, K _ _ (cl_put (cl_A h (zA_of hI) h.2 (Nat.le_succ _) (Nat.le_add_right _ _))) (pr_B hI) (fr_B hI) (fr_B7 hI) (fr_B65 hI) (fr_B67 hI) (fun _ => ⟨rp0, (aS_o (zA_of hI)).trans (kpu_y rp1)⟩) (fun z => absurd (e.symm.trans z) (by decide)) (fun z => absurd (e.symm.trans z) (by decide)) (fun z => absurd (e.symm.trans z) (by decide)) (fun z => absurd (e.symm.trans z) (by decide)) (fun z => absurd (e.symm.trans z) (by decide)) (fun z => absurd (e.symm.trans z) (by decide))⟩) (fun x S₉ hx hI rx0 rx1 rx2 => zi_x (by
      rcases hx with rfl | rfl | rfl
      · exact ⟨_, hd_6_1, K _ _ (cl_X h (zA_of hI) h.2 (Nat.le_refl _) (Nat.le_refl _)) (pr_Bb hI) (fr_Bb hI) (fr_B7b hI) (fr_B65b hI) (fr_B67b hI) (fun _ => ⟨rx0, (kpu_x rx1 rx2)⟩) (fun z => absurd (e.symm.trans z) (by decide)) (fun z => absurd (e.symm.trans z) (by decide)) (fun z => absurd (e.symm.trans z) (by decide)) (fun z => absurd (e.symm.trans z) (by decide)) (fun z => absurd (e.symm.trans z) (by decide)) (fun z => absurd (e.symm.trans z) (by decide))⟩
      · exact ⟨_, hd_6_4, K _ _ (cl_X h (zA_of hI) h.2 (Nat.le_refl _) (Nat.le_refl _)) (pr_Bb hI) (fr_Bb hI) (fr_B7b hI) (fr_B65b hI) (fr_B67b hI) (fun _ => ⟨rx0, (kpu_x rx1 rx2)⟩) (fun z => absurd (e.symm.trans z) (by decide)) (fun z => absurd (e.symm.trans z) (by decide)) (fun z => absurd (e.symm.trans z) (by decide)) (fun z => absurd (e.symm.trans z) (by decide)) (fun z => absurd (e.symm.trans z) (by decide)) (fun z => absurd (e.symm.trans z) (by decide))⟩
      · exact ⟨_, hd_6_5, K _ _ (cl_X h (zA_of hI) h.2 (Nat.le_refl _) (Nat.le_refl _)) (pr_Bb hI) (fr_Bb hI) (fr_B7b hI) (fr_B65b hI) (fr_B67b hI) (fun _ => ⟨rx0, (kpu_x rx1 rx2)⟩) (fun z => absurd (e.symm.trans z) (by decide)) (fun z => absurd (e.symm.trans z) (by decide)) (fun z => absurd (e.symm.trans z) (by decide)) (fun z => absurd (e.symm.trans z) (by decide)) (fun z => absurd (e.symm.trans z) (by decide)) (fun z => absurd (e.symm.trans z) (by decide))⟩
      ))
    · exact sp_148_64_sm_p91 (ab := aS 88 S) (fp91 := mI S 91) (fp92 := mI S 92) x0 x1 x2 (by omega) (by omega) (zB_of h.1) e (hB (fun z => absurd (e.symm.trans z) (by decide))) rfl rfl rfl (fun v S₉ hI _ rp0 rp1 rp2 rp3 => zi_n ⟨zG_T hI, K _ _ (cl_put (cl_A h (zA_of hI) h.2 (Nat.le_succ _) (Nat.le_add_right _ _))) (pr_B hI) (fr_B hI) (fr_B7 hI) (fr_B65 hI) (fr_B67 hI) (fun z => absurd (e.symm.trans z) (by decide)) (fun z => absurd (e.symm.trans z) (by decide)) (fun z => absurd (e.symm.trans z) (by decide)) (fun z => absurd (e.symm.trans z) (by decide)) (fun z => absurd (e.symm.trans z) (by decide)) (fun z => absurd (e.symm.trans z) (by decide)) (fun _ => ⟨rp0, (by rw [(O_o5 (zA_of hI)).2.2.2]; exact Z_kp (S₉ := S₉) (Ay_pu Z_88) (kpu_y rp1) rp2 rp3)⟩)⟩) (fun x S₉ hx hI rx0 rx1 rx2 rx3 rx4 => zi_x (by
      rcases hx with rfl | rfl | rfl
      · exact ⟨_, hd_6_1, K _ _ (cl_X h (zA_of hI) h.2 (Nat.le_refl _) (Nat.le_refl _)) (pr_Bb hI) (fr_Bb hI) (fr_B7b hI) (fr_B65b hI) (fr_B67b hI) (fun z => absurd (e.symm.trans z) (by decide)) (fun z => absurd (e.symm.trans z) (by decide)) (fun z => absurd (e.symm.trans z) (by decide)) (fun z => absurd (e.symm.trans z) (by decide)) (fun z => absurd (e.symm.trans z) (by decide)) (fun z => absurd (e.symm.trans z) (by decide)) (fun _ => ⟨rx0, (Z_kp (S₉ := S₉) (Ay_pu Z_88) (kpu_x rx1 rx2) rx3 rx4)⟩)⟩
      · exact ⟨_, hd_6_4, K _ _ (cl_X h (zA_of hI) h.2 (Nat.le_refl _) (Nat.le_refl _)) (pr_Bb hI) (fr_Bb hI) (fr_B7b hI) (fr_B65b hI) (fr_B67b hI) (fun z => absurd (e.symm.trans z) (by decide)) (fun z => absurd (e.symm.trans z) (by decide)) (fun z => absurd (e.symm.trans z) (by decide)) (fun z => absurd (e.symm.trans z) (by decide)) (fun z => absurd (e.symm.trans z) (by decide)) (fun z => absurd (e.symm.trans z) (by decide)) (fun _ => ⟨rx0, (Z_kp (S₉ := S₉) (Ay_pu Z_88) (kpu_x rx1 rx2) rx3 rx4)⟩)⟩
      · exact ⟨_, hd_6_5, K _ _ (cl_X h (zA_of hI) h.2 (Nat.le_refl _) (Nat.le_refl _)) (pr_Bb hI) (fr_Bb hI) (fr_B7b hI) (fr_B65b hI) (fr_B67b hI) (fun z => absurd (e.symm.trans z) (by decide)) (fun z => absurd (e.symm.trans z) (by decide)) (fun z => absurd (e.symm.trans z) (by decide)) (fun z => absurd (e.symm.trans z) (by decide)) (fun z => absurd (e.symm.trans z) (by decide)) (fun z => absurd (e.symm.trans z) (by decide)) (fun _ => ⟨rx0, (Z_kp (S₉ := S₉) (Ay_pu Z_88) (kpu_x rx1 rx2) rx3 rx4)⟩)⟩
      ))
theorem gfm_7 {X : Nat × (Nat → Int32)} {d w : Nat} {S : ma_S} {Q : Option ma_V → ma_S → Prop} (x0 : Int32) (x1 : Int32) (x2 : Int32) (hd : 12 ≤ d) (hw : 469 ≤ w) (hS : zT S) (h : ma_wp X (d - 1) (w - 27) 150 0 [(0, .inr (.inr (some 64))), (1, .inl x0), (2, .inl x1), (3, .inl x2)] [] S (zi (fun v2 S1 => zT S1 ∧ (Q (some (.inl (0 : Int32))) (ma_put S1 125 0 (.inr (.inl (v2.toInt64)))))) (fun x S1 => ∃ c, ma_hd method_9_code 6 x 7 [(0, 12, 15, 25), (0, 12, 19, 38), (0, 12, 23, 13), (0, 12, 27, 40)] = some c ∧ Q (some (.inl c)) S1))) : ma_fp X 7 d w 0 [(0, .inr (.inr (some 64))), (1, .inl x0), (2, .inl x1), (3, .inl x2), (4, .inr (.inr (some 125)))] [] S Q := by
  refine zf_push fm_7 dF7_0 (v := .inr (.inr (some 125))) rfl ?_
  refine zf_push fm_7 dF7_2 (v := .inl (0 : Int32)) rfl ?_
  refine zf_push fm_7 dF7_3 (v := .inr (.inr (some 64))) rfl ?_
  refine zf_push fm_7 dF7_4 (v := .inl x0) rfl ?_
  refine zf_push fm_7 dF7_5 (v := .inl x1) rfl ?_
  refine zf_push fm_7 dF7_6 (v := .inl x2) rfl ?_
  refine zf_cv fm_7 dF7_7 v_14_42_11 hm_150 [.inl x2, .inl x1, .inl x0] [.inl (0 : Int32), .inr (.inr (some 125))] rfl (zT_rt hS s_64 rfl) ⟨by omega, by omega⟩ rfl (zw_mono h (zi_go ?_ ?_))
  · intro v2 S1 hv
    obtain ⟨hS1, h⟩ := hv
    refine zf_stk fm_7 dF7_10 (st₉ := [.inr (.inl (v2.toInt64)), .inl (0 : Int32), .inr (.inr (some 125))]) rfl rfl ?_
    refine zf_one fm_7 dF7_11 (oo_las (zT_is hS1 s_125) (zT_h hS1 s_125) (a := 0) rfl ⟨by decide, by decide⟩) ?_
    refine zf_goto fm_7 dF7_12 (t := 31) rfl ?_
    refine zf_push fm_7 dF7_31 (v := .inl (0 : Int32)) rfl ?_
    exact zf_iret fm_7 dF7_32 h
  · intro x S9 hx
    exact ⟨⟨by decide, rfl⟩, hx⟩
theorem fw_7 {X : Nat × (Nat → Int32)} {d w T : Nat} {S : ma_S} {Q : Option ma_V → ma_S → Prop} (x0 : Int32) (x1 : Int32) (x2 : Int32) (hd : 12 ≤ d) (hw : 469 ≤ w) (h : zHsm S)  (hB : mR S 64 11 ≠ none → xB S (mR S 70)) (hC : mR S 64 11 = some 84 → cC (aT 84 S) [] (kC S) (T : Int) ∧ qI (aT 84 S)) (hV : zIv S) (hT5 : T + 1 ≤ 512) (K : ∀ (v : Int32) S₉, zCl S S₉ → mR S₉ 64 11 = mR S 64 11 → mI S₉ 64 1 = mI S 64 1 → mI S₉ 64 7 = mI S 64 7 → mI S₉ 65 = mI S 65 → (mI S₉ 67 = mI S 67 ∧ mI S₉ 68 = mI S 68) → (mR S 64 11 = some 87 → xB S₉ (mR S₉ 70) ∧ aS 88 S₉ = xLi (aS 88 S) x0 x1 x2) → (mR S 64 11 = some 79 → xB S₉ (mR S₉ 70) ∧ aS 88 S₉ = oLi (aS 88 S) x0 x1 x2 ∧ zfP 79 (mI S₉) = zfP 79 (mI S)) → (mR S 64 11 = some 84 → xB S₉ (mR S₉ 70) ∧ aS 88 S₉ = kLi (aS 88 S) x0 x1 x2 ∧ zfP 84 (mI S₉) = zfP 84 (mI S) ∧ cC (aS 88 S₉) [] (kC S₉) (T : Int)) → (mR S 64 11 = some 80 → xB S₉ (mR S₉ 70) ∧ zOf (oLi (aL S) x0 x1 x2) (aL S₉)) → (mR S 64 11 = some 81 → xB S₉ (mR S₉ 70) ∧ zOf (oLi (aH S) x0 x1 x2) (aH S₉)) → (mR S 64 11 = some 82 → xB S₉ (mR S₉ 70) ∧ zOf (yLi (aG S) x0 x1 x2) (aG S₉)) → (mR S 64 11 = some 91 → xB S₉ (mR S₉ 70) ∧ zOf (zX93 (oLi (aZ S) x0 x1 x2) (mI S₉ 93)) (aZ S₉)) → Q (some (.inl v)) S₉) : ma_fp X 7 d w 0 [(0, .inr (.inr (some 64))), (1, .inl x0), (2, .inl x1), (3, .inl x2), (4, .inr (.inr (some 125)))] [] S Q := by
  refine gfm_7 x0 x1 x2 hd hw h.1.1 ?_
  rcases h.2 with e | ⟨p, hp, e⟩
  · exact sp_150_64_sx_p0 x0 x1 x2 (by omega) (by omega) (zB_of h.1) e (fun v S₉ hI w => absurd w (by decide)) (fun x S₉ hx hI => zi_x (by
      subst hx
      exact ⟨_, hd_7_3, K _ _ (cl_X h (zA_of hI) h.2 (Nat.le_refl _) (Nat.le_refl _)) (pr_Bb hI) (fr_Bb hI) (fr_B7b hI) (fr_B65b hI) (fr_B67b hI) (fun z => absurd (e.symm.trans z) (by decide)) (fun z => absurd (e.symm.trans z) (by decide)) (fun z => absurd (e.symm.trans z) (by decide)) (fun z => absurd (e.symm.trans z) (by decide)) (fun z => absurd (e.symm.trans z) (by decide)) (fun z => absurd (e.symm.trans z) (by decide)) (fun z => absurd (e.symm.trans z) (by decide))⟩
      ))
  · simp only [zcl7, List.mem_cons, List.not_mem_nil, or_false] at hp
    rcases hp with rfl | rfl | rfl | rfl | rfl | rfl | rfl
    · exact sp_150_64_s_p79 (ab := aS 88 S) (fq := zfP 79 (mI S)) x0 x1 x2 (by omega) (by omega) (zB_of h.1) e (hB (fun z => absurd (e.symm.trans z) (by decide))) rfl rfl (fun v S₉ hI _ rp0 rp1 rp2 => zi_n ⟨zG_T hI, K _ _ (cl_put (cl_A h (zA_of hI) h.2 (Nat.le_succ _) (Nat.le_add_right _ _))) (pr_B hI) (fr_B hI) (fr_B7 hI) (fr_B65 hI) (fr_B67 hI) (fun z => absurd (e.symm.trans z) (by decide)) (fun _ => ⟨rp0, (aS_o (zA_of hI)).trans (oli_y rp1), rp2⟩) (fun z => absurd (e.symm.trans z) (by decide)) (fun z => absurd (e.symm.trans z) (by decide)) (fun z => absurd (e.symm.trans z) (by decide)) (fun z => absurd (e.symm.trans z) (by decide)) (fun z => absurd (e.symm.trans z) (by decide))⟩) (fun x S₉ hx hI rx0 rx1 rx2 rx3 => zi_x (by
      rcases hx with rfl | rfl | rfl
      · exact ⟨_, hd_7_1, K _ _ (cl_X h (zA_of hI) h.2 (Nat.le_refl _) (Nat.le_refl _)) (pr_Bb hI) (fr_Bb hI) (fr_B7b hI) (fr_B65b hI) (fr_B67b hI) (fun z => absurd (e.symm.trans z) (by decide)) (fun _ => ⟨rx0, (oli_x rx1 rx2), rx3⟩) (fun z => absurd (e.symm.trans z) (by decide)) (fun z => absurd (e.symm.trans z) (by decide)) (fun z => absurd (e.symm.trans z) (by decide)) (fun z => absurd (e.symm.trans z) (by decide)) (fun z => absurd (e.symm.trans z) (by decide))⟩
      · exact ⟨_, hd_7_4, K _ _ (cl_X h (zA_of hI) h.2 (Nat.le_refl _) (Nat.le_refl _)) (pr_Bb hI) (fr_Bb hI) (fr_B7b hI) (fr_B65b hI) (fr_B67b hI) (fun z => absurd (e.symm.trans z) (by decide)) (fun _ => ⟨rx0, (oli_x rx1 rx2), rx3⟩) (fun z => absurd (e.symm.trans z) (by decide)) (fun z => absurd (e.symm.trans z) (by decide)) (fun z => absurd (e.symm.trans z) (by decide)) (fun z => absurd (e.symm.trans z) (by decide)) (fun z => absurd (e.symm.trans z) (by decide))⟩
      · exact ⟨_, hd_7_5, K _ _ (cl_X h (zA_of hI) h.2 (Nat.le_refl _) (Nat.le_refl _)) (pr_Bb hI) (fr_Bb hI) (fr_B7b hI) (fr_B65b hI) (fr_B67b hI) (fun z => absurd (e.symm.trans z) (by decide)) (fun _ => ⟨rx0, (oli_x rx1 rx2), rx3⟩) (fun z => absurd (e.symm.trans z) (by decide)) (fun z => absurd (e.symm.trans z) (by decide)) (fun z => absurd (e.symm.trans z) (by decide)) (fun z => absurd (e.symm.trans z) (by decide)) (fun z => absurd (e.symm.trans z) (by decide))⟩
      ))
    · exact sp_150_64_sm_p80 (ab := aS 88 S) (fp80 := mI S 80) x0 x1 x2 (by omega) (by omega) (zB_of h.1) e (hB (fun z => absurd (e.symm.trans z) (by decide))) rfl rfl (fun v S₉ hI _ rp0 rp1 rp2 => zi_n ⟨zG_T hI, K _ _ (cl_put (cl_A h (zA_of hI) h.2 (Nat.le_succ _) (Nat.le_add_right _ _))) (pr_B hI) (fr_B hI) (fr_B7 hI) (fr_B65 hI) (fr_B67 hI) (fun z => absurd (e.symm.trans z) (by decide)) (fun z => absurd (e.symm.trans z) (by decide)) (fun z => absurd (e.symm.trans z) (by decide)) (fun _ => ⟨rp0, (by rw [(O_o5 (zA_of hI)).1]; exact L_kp (S₉ := S₉) (Ay_li M_88) (oli_y rp1) rp2)⟩) (fun z => absurd (e.symm.trans z) (by decide)) (fun z => absurd (e.symm.trans z) (by decide)) (fun z => absurd (e.symm.trans z) (by decide))⟩) (fun x S₉ hx hI rx0 rx1 rx2 rx3 => zi_x (by
      rcases hx with rfl | rfl | rfl
      · exact ⟨_, hd_7_1, K _ _ (cl_X h (zA_of hI) h.2 (Nat.le_refl _) (Nat.le_refl _)) (pr_Bb hI) (fr_Bb hI) (fr_B7b hI) (fr_B65b hI) (fr_B67b hI) (fun z => absurd (e.symm.trans z) (by decide)) (fun z => absurd (e.symm.trans z) (by decide)) (fun z => absurd (e.symm.trans z) (by decide)) (fun _ => ⟨rx0, (L_kp (S₉ := S₉) (Ay_li M_88) (oli_x rx1 rx2) rx3)⟩) (fun z => absurd (e.symm.trans z) (by decide)) (fun z => absurd (e.symm.trans z) (by decide)) (fun z => absurd (e.symm.trans z) (by decide))⟩
      · exact ⟨_, hd_7_4, K _ _ (cl_X h (zA_of hI) h.2 (Nat.le_refl _) (Nat.le_refl _)) (pr_Bb hI) (fr_Bb hI) (fr_B7b hI) (fr_B65b hI) (fr_B67b hI) (fun z => absurd (e.symm.trans z) (by decide)) (fun z => absurd (e.symm.trans z) (by decide)) (fun z => absurd (e.symm.trans z) (by decide)) (fun _ => ⟨rx0, (L_kp (S₉ := S₉) (Ay_li M_88) (oli_x rx1 rx2) rx3)⟩) (fun z => absurd (e.symm.trans z) (by decide)) (fun z => absurd (e.symm.trans z) (by decide)) (fun z => absurd (e.symm.trans z) (by decide))⟩
      · exact ⟨_, hd_7_5, K _ _ (cl_X h (zA_of hI) h.2 (Nat.le_refl _) (Nat.le_refl _)) (pr_Bb hI) (fr_Bb hI) (fr_B7b hI) (fr_B65b hI) (fr_B67b hI) (fun z => absurd (e.symm.trans z) (by decide)) (fun z => absurd (e.symm.trans z) (by decide)) (fun z => absurd (e.symm.trans z) (by decide)) (fun _ => ⟨rx0, (L_kp (S₉ := S₉) (Ay_li M_88) (oli_x rx1 rx2) rx3)⟩) (fun z => absurd (e.symm.trans z) (by decide)) (fun z => absurd (e.symm.trans z) (by decide)) (fun z => absurd (e.symm.trans z) (by decide))⟩
      ))
    · exact sp_150_64_sm_p81 (ab := aS 88 S) (fp81 := mI S 81) x0 x1 x2 (by omega) (by omega) (zB_of h.1) e (hB (fun z => absurd (e.symm.trans z) (by decide))) rfl rfl (fun v S₉ hI _ rp0 rp1 rp2 => zi_n ⟨zG_T hI, K _ _ (cl_put (cl_A h (zA_of hI) h.2 (Nat.le_succ _) (Nat.le_add_right _ _))) (pr_B hI) (fr_B hI) (fr_B7 hI) (fr_B65 hI) (fr_B67 hI) (fun z => absurd (e.symm.trans z) (by decide)) (fun z => absurd (e.symm.trans z) (by decide)) (fun z => absurd (e.symm.trans z) (by decide)) (fun z => absurd (e.symm.trans z) (by decide)) (fun _ => ⟨rp0, (by rw [(O_o5 (zA_of hI)).2.1]; exact H_kp (S₉ := S₉) (Ay_li M_88) (oli_y rp1) rp2)⟩) (fun z => absurd (e.symm.trans z) (by decide)) (fun z => absurd (e.symm.trans z) (by decide))⟩) (fun x S₉ hx hI rx0 rx1 rx2 rx3 => zi_x (by
      rcases hx with rfl | rfl | rfl
      · exact ⟨_, hd_7_1, K _ _ (cl_X h (zA_of hI) h.2 (Nat.le_refl _) (Nat.le_refl _)) (pr_Bb hI) (fr_Bb hI) (fr_B7b hI) (fr_B65b hI) (fr_B67b hI) (fun z => absurd (e.symm.trans z) (by decide)) (fun z => absurd (e.symm.trans z) (by decide)) (fun z => absurd (e.symm.trans z) (by decide)) (fun z => absurd (e.symm.trans z) (by decide)) (fun _ => ⟨rx0, (H_kp (S₉ := S₉) (Ay_li M_88) (oli_x rx1 rx2) rx3)⟩) (fun z => absurd (e.symm.trans z) (by decide)) (fun z => absurd (e.symm.trans z) (by decide))⟩
      · exact ⟨_, hd_7_4, K _ _ (cl_X h (zA_of hI) h.2 (Nat.le_refl _) (Nat.le_refl _)) (pr_Bb hI) (fr_Bb hI) (fr_B7b hI) (fr_B65b hI) (fr_B67b hI) (fun z => absurd (e.symm.trans z) (by decide)) (fun z => absurd (e.symm.trans z) (by decide)) (fun z => absurd (e.symm.trans z) (by decide)) (fun z => absurd (e.symm.trans z) (by decide)) (fun _ => ⟨rx0, (H_kp (S₉ := S₉) (Ay_li M_88) (oli_x rx1 rx2) rx3)⟩) (fun z => absurd (e.symm.trans z) (by decide)) (fun z => absurd (e.symm.trans z) (by decide))⟩
      · exact ⟨_, hd_7_5, K _ _ (cl_X h (zA_of hI) h.2 (Nat.le_refl _) (Nat.le_refl _)) (pr_Bb hI) (fr_Bb hI) (fr_B7b hI) (fr_B65b hI) (fr_B67b hI) (fun z => absurd (e.symm.trans z) (by decide)) (fun z => absurd (e.symm.trans z) (by decide)) (fun z => absurd (e.symm.trans z) (by decide)) (fun z => absurd (e.symm.trans z) (by decide)) (fun _ => ⟨rx0, (H_kp (S₉ := S₉) (Ay_li M_88) (oli_x rx1 rx2) rx3)⟩) (fun z => absurd (e.symm.trans z) (by decide)) (fun z => absurd (e.symm.trans z) (by decide))⟩
      ))
    · exact sp_150_64_sm_p82 (ab := aS 88 S) (fp82 := mI S 82) (fp83 := mI S 83) (ag := aG S) x0 x1 x2 (by omega) (by omega) (zB_of h.1) e (hB (fun z => absurd (e.symm.trans z) (by decide))) rfl rfl rfl rfl (fun v S₉ hI _ rp0 rp1 rp2 rp3 => zi_n ⟨zG_T hI, K _ _ (cl_put (cl_A h (zA_of hI) h.2 (Nat.le_succ _) (Nat.le_add_right _ _))) (pr_B hI) (fr_B hI) (fr_B7 hI) (fr_B65 hI) (fr_B67 hI) (fun z => absurd (e.symm.trans z) (by decide)) (fun z => absurd (e.symm.trans z) (by decide)) (fun z => absurd (e.symm.trans z) (by decide)) (fun z => absurd (e.symm.trans z) (by decide)) (fun z => absurd (e.symm.trans z) (by decide)) (fun _ => ⟨rp0, (by rw [(O_o5 (zA_of hI)).2.2.1]; exact Gl_y (S₉ := S₉) ⟨rp1.1, rp1.2.1, rp1.2.2.1, rp1.2.2.2.1⟩ (oli_y rp1) rp2 rp3)⟩) (fun z => absurd (e.symm.trans z) (by decide))⟩) (fun x S₉ hx hI rx0 rx1 rx2 rx3 rx4 => zi_x (by
      rcases hx with rfl | rfl | rfl
      · exact ⟨_, hd_7_1, K _ _ (cl_X h (zA_of hI) h.2 (Nat.le_refl _) (Nat.le_refl _)) (pr_Bb hI) (fr_Bb hI) (fr_B7b hI) (fr_B65b hI) (fr_B67b hI) (fun z => absurd (e.symm.trans z) (by decide)) (fun z => absurd (e.symm.trans z) (by decide)) (fun z => absurd (e.symm.trans z) (by decide)) (fun z => absurd (e.symm.trans z) (by decide)) (fun z => absurd (e.symm.trans z) (by decide)) (fun _ => ⟨rx0, (Gl_x (S₉ := S₉) (lkx_m rx2) (oli_x rx1 rx2) rx3 rx4)⟩) (fun z => absurd (e.symm.trans z) (by decide))⟩
      · exact ⟨_, hd_7_4, K _ _ (cl_X h (zA_of hI) h.2 (Nat.le_refl _) (Nat.le_refl _)) (pr_Bb hI) (fr_Bb hI) (fr_B7b hI) (fr_B65b hI) (fr_B67b hI) (fun z => absurd (e.symm.trans z) (by decide)) (fun z => absurd (e.symm.trans z) (by decide)) (fun z => absurd (e.symm.trans z) (by decide)) (fun z => absurd (e.symm.trans z) (by decide)) (fun z => absurd (e.symm.trans z) (by decide)) (fun _ => ⟨rx0, (Gl_x (S₉ := S₉) (lkx_m rx2) (oli_x rx1 rx2) rx3 rx4)⟩) (fun z => absurd (e.symm.trans z) (by decide))⟩
      · exact ⟨_, hd_7_5, K _ _ (cl_X h (zA_of hI) h.2 (Nat.le_refl _) (Nat.le_refl _)) (pr_Bb hI) (fr_Bb hI) (fr_B7b hI) (fr_B65b hI) (fr_B67b hI) (fun z => absurd (e.symm.trans z) (by decide)) (fun z => absurd (e.symm.trans z) (by decide)) (fun z => absurd (e.symm.trans z) (by decide)) (fun z => absurd (e.symm.trans z) (by decide)) (fun z => absurd (e.symm.trans z) (by decide)) (fun _ => ⟨rx0, (Gl_x (S₉ := S₉) (lkx_m rx2) (oli_x rx1 rx2) rx3 rx4)⟩) (fun z => absurd (e.symm.trans z) (by decide))⟩
      ))
    · exact sp_150_64_sk_p84 (ab := aS 88 S) (B := (T : Int)) (fq := zfP 84 (mI S)) x0 x1 x2 (by omega) (by omega) (zB_of h.1) e (hB (fun z => absurd (e.symm.trans z) (by decide))) rfl (C_o8 T_88 (hC e).1) (by omega) rfl (fun v S₉ hI _ rp0 rp1 rp2 rp3 => zi_n ⟨zG_T hI, K _ _ (cl_put (cl_A h (zA_of hI) h.2 (Nat.le_succ _) (Nat.le_add_right _ _))) (pr_B hI) (fr_B hI) (fr_B7 hI) (fr_B65 hI) (fr_B67 hI) (fun z => absurd (e.symm.trans z) (by decide)) (fun z => absurd (e.symm.trans z) (by decide)) (fun _ => ⟨rp0, (aS_o (zA_of hI)).trans (cli_y rp2), rp3, (by rw [aS_o (zA_of hI)]; exact rp1)⟩) (fun z => absurd (e.symm.trans z) (by decide)) (fun z => absurd (e.symm.trans z) (by decide)) (fun z => absurd (e.symm.trans z) (by decide)) (fun z => absurd (e.symm.trans z) (by decide))⟩) (fun x S₉ hx hI rx0 rx1 rx2 rx3 rx4 => zi_x (by
      rcases hx with rfl | rfl | rfl
      · exact ⟨_, hd_7_1, K _ _ (cl_X h (zA_of hI) h.2 (Nat.le_refl _) (Nat.le_refl _)) (pr_Bb hI) (fr_Bb hI) (fr_B7b hI) (fr_B65b hI) (fr_B67b hI) (fun z => absurd (e.symm.trans z) (by decide)) (fun z => absurd (e.symm.trans z) (by decide)) (fun _ => ⟨rx0, (cli_x rx1 rx3), rx4, (by show cC (aS 88 S₉) [] (kC S₉) _; rw [rx1]; exact rx2)⟩) (fun z => absurd (e.symm.trans z) (by decide)) (fun z => absurd (e.symm.trans z) (by decide)) (fun z => absurd (e.symm.trans z) (by decide)) (fun z => absurd (e.symm.trans z) (by decide))⟩
      · exact ⟨_, hd_7_4, K _ _ (cl_X h (zA_of hI) h.2 (Nat.le_refl _) (Nat.le_refl _)) (pr_Bb hI) (fr_Bb hI) (fr_B7b hI) (fr_B65b hI) (fr_B67b hI) (fun z => absurd (e.symm.trans z) (by decide)) (fun z => absurd (e.symm.trans z) (by decide)) (fun _ => ⟨rx0, (cli_x rx1 rx3), rx4, (by show cC (aS 88 S₉) [] (kC S₉) _; rw [rx1]; exact rx2)⟩) (fun z => absurd (e.symm.trans z) (by decide)) (fun z => absurd (e.symm.trans z) (by decide)) (fun z => absurd (e.symm.trans z) (by decide)) (fun z => absurd (e.symm.trans z) (by decide))⟩
      · exact ⟨_, hd_7_5, K _ _ (cl_X h (zA_of hI) h.2 (Nat.le_refl _) (Nat.le_refl _)) (pr_Bb hI) (fr_Bb hI) (fr_B7b hI) (fr_B65b hI) (fr_B67b hI) (fun z => absurd (e.symm.trans z) (by decide)) (fun z => absurd (e.symm.trans z) (by decide)) (fun _ => ⟨rx0, (cli_x rx1 rx3), rx4, (by show cC (aS 88 S₉) [] (kC S₉) _; rw [rx1]; exact rx2)⟩) (fun z => absurd (e.symm.trans z) (by decide)) (fun z => absurd (e.symm.trans z) (by decide)) (fun z => absurd (e.symm.trans z) (by decide)) (fun z => absurd (e.symm.trans z) (by decide))⟩
      ))
    · exact sp_150_64_s_p87 (ab := aS 88 S) x0 x1 x2 (by omega) (by omega) (zB_of h.1) e (hB (fun z => absurd (e.symm.trans z) (by decide))) rfl (fun v S₉ hI _ rp0 rp1 => zi_n ⟨zG_T hI, K _ _ (cl_put (cl_A h (zA_of hI) h.2 (Nat.le_succ _) (Nat.le_add_right _ _))) (pr_B hI) (fr_B hI) (fr_B7 hI) (fr_B65 hI) (fr_B67 hI) (fun _ => ⟨rp0, (aS_o (zA_of hI)).trans (kli_y rp1)⟩) (fun z => absurd (e.symm.trans z) (by decide)) (fun z => absurd (e.symm.trans z) (by decide)) (fun z => absurd (e.symm.trans z) (by decide)) (fun z => absurd (e.symm.trans z) (by decide)) (fun z => absurd (e.symm.trans z) (by decide)) (fun z => absurd (e.symm.trans z) (by decide))⟩) (fun x S₉ hx hI rx0 rx1 rx2 => zi_x (by
      rcases hx with rfl | rfl | rfl
      · exact ⟨_, hd_7_1, K _ _ (cl_X h (zA_of hI) h.2 (Nat.le_refl _) (Nat.le_refl _)) (pr_Bb hI) (fr_Bb hI) (fr_B7b hI) (fr_B65b hI) (fr_B67b hI) (fun _ => ⟨rx0, (kli_x rx1 rx2)⟩) (fun z => absurd (e.symm.trans z) (by decide)) (fun z => absurd (e.symm.trans z) (by decide)) (fun z => absurd (e.symm.trans z) (by decide)) (fun z => absurd (e.symm.trans z) (by decide)) (fun z => absurd (e.symm.trans z) (by decide)) (fun z => absurd (e.symm.trans z) (by decide))⟩
      · exact ⟨_, hd_7_4, K _ _ (cl_X h (zA_of hI) h.2 (Nat.le_refl _) (Nat.le_refl _)) (pr_Bb hI) (fr_Bb hI) (fr_B7b hI) (fr_B65b hI) (fr_B67b hI) (fun _ => ⟨rx0, (kli_x rx1 rx2)⟩) (fun z => absurd (e.symm.trans z) (by decide)) (fun z => absurd (e.symm.trans z) (by decide)) (fun z => absurd (e.symm.trans z) (by decide)) (fun z => absurd (e.symm.trans z) (by decide)) (fun z => absurd (e.symm.trans z) (by decide)) (fun z => absurd (e.symm.trans z) (by decide))⟩
      · exact ⟨_, hd_7_5, K _ _ (cl_X h (zA_of hI) h.2 (Nat.le_refl _) (Nat.le_refl _)) (pr_Bb hI) (fr_Bb hI) (fr_B7b hI) (fr_B65b hI) (fr_B67b hI) (fun _ => ⟨rx0, (kli_x rx1 rx2)⟩) (fun z => absurd (e.symm.trans z) (by decide)) (fun z => absurd (e.symm.trans z) (by decide)) (fun z => absurd (e.symm.trans z) (by decide)) (fun z => absurd (e.symm.trans z) (by decide)) (fun z => absurd (e.symm.trans z) (by decide)) (fun z => absurd (e.symm.trans z) (by decide))⟩
      ))
    · exact sp_150_64_sm_p91 (ab := aS 88 S) (fp91 := mI S 91) (fp92 := mI S 92) x0 x1 x2 (by omega) (by omega) (zB_of h.1) e (hB (fun z => absurd (e.symm.trans z) (by decide))) rfl rfl rfl (fun v S₉ hI _ rp0 rp1 rp2 rp3 => zi_n ⟨zG_T hI, K _ _ (cl_put (cl_A h (zA_of hI) h.2 (Nat.le_succ _) (Nat.le_add_right _ _))) (pr_B hI) (fr_B hI) (fr_B7 hI) (fr_B65 hI) (fr_B67 hI) (fun z => absurd (e.symm.trans z) (by decide)) (fun z => absurd (e.symm.trans z) (by decide)) (fun z => absurd (e.symm.trans z) (by decide)) (fun z => absurd (e.symm.trans z) (by decide)) (fun z => absurd (e.symm.trans z) (by decide)) (fun z => absurd (e.symm.trans z) (by decide)) (fun _ => ⟨rp0, (by rw [(O_o5 (zA_of hI)).2.2.2]; exact Z_kp (S₉ := S₉) (Ay_li Z_88) (oli_y rp1) rp2 rp3)⟩)⟩) (fun x S₉ hx hI rx0 rx1 rx2 rx3 rx4 => zi_x (by
      rcases hx with rfl | rfl | rfl
      · exact ⟨_, hd_7_1, K _ _ (cl_X h (zA_of hI) h.2 (Nat.le_refl _) (Nat.le_refl _)) (pr_Bb hI) (fr_Bb hI) (fr_B7b hI) (fr_B65b hI) (fr_B67b hI) (fun z => absurd (e.symm.trans z) (by decide)) (fun z => absurd (e.symm.trans z) (by decide)) (fun z => absurd (e.symm.trans z) (by decide)) (fun z => absurd (e.symm.trans z) (by decide)) (fun z => absurd (e.symm.trans z) (by decide)) (fun z => absurd (e.symm.trans z) (by decide)) (fun _ => ⟨rx0, (Z_kp (S₉ := S₉) (Ay_li Z_88) (oli_x rx1 rx2) rx3 rx4)⟩)⟩
      · exact ⟨_, hd_7_4, K _ _ (cl_X h (zA_of hI) h.2 (Nat.le_refl _) (Nat.le_refl _)) (pr_Bb hI) (fr_Bb hI) (fr_B7b hI) (fr_B65b hI) (fr_B67b hI) (fun z => absurd (e.symm.trans z) (by decide)) (fun z => absurd (e.symm.trans z) (by decide)) (fun z => absurd (e.symm.trans z) (by decide)) (fun z => absurd (e.symm.trans z) (by decide)) (fun z => absurd (e.symm.trans z) (by decide)) (fun z => absurd (e.symm.trans z) (by decide)) (fun _ => ⟨rx0, (Z_kp (S₉ := S₉) (Ay_li Z_88) (oli_x rx1 rx2) rx3 rx4)⟩)⟩
      · exact ⟨_, hd_7_5, K _ _ (cl_X h (zA_of hI) h.2 (Nat.le_refl _) (Nat.le_refl _)) (pr_Bb hI) (fr_Bb hI) (fr_B7b hI) (fr_B65b hI) (fr_B67b hI) (fun z => absurd (e.symm.trans z) (by decide)) (fun z => absurd (e.symm.trans z) (by decide)) (fun z => absurd (e.symm.trans z) (by decide)) (fun z => absurd (e.symm.trans z) (by decide)) (fun z => absurd (e.symm.trans z) (by decide)) (fun z => absurd (e.symm.trans z) (by decide)) (fun _ => ⟨rx0, (Z_kp (S₉ := S₉) (Ay_li Z_88) (oli_x rx1 rx2) rx3 rx4)⟩)⟩
      ))
theorem gfm_8 {X : Nat × (Nat → Int32)} {d w : Nat} {S : ma_S} {Q : Option ma_V → ma_S → Prop} (x0 : Int32) (x1 : Int32) (hd : 12 ≤ d) (hw : 470 ≤ w) (hS : zT S) (h : ma_wp X (d - 1) (w - 23) 152 0 [(0, .inr (.inr (some 64))), (1, .inl x0), (2, .inl x1)] [] S (zi (fun v2 S1 => zT S1 ∧ (Q (some (.inl (0 : Int32))) (ma_put S1 125 0 (.inr (.inl (v2.toInt64)))))) (fun x S1 => ∃ c, ma_hd method_10_code 5 x 5 [(0, 10, 13, 25), (0, 10, 17, 38), (0, 10, 21, 13)] = some c ∧ Q (some (.inl c)) S1))) : ma_fp X 8 d w 0 [(0, .inr (.inr (some 64))), (1, .inl x0), (2, .inl x1), (3, .inr (.inr (some 125)))] [] S Q := by
  refine zf_push fm_8 dF8_0 (v := .inr (.inr (some 125))) rfl ?_
  refine zf_push fm_8 dF8_1 (v := .inl (0 : Int32)) rfl ?_
  refine zf_push fm_8 dF8_2 (v := .inr (.inr (some 64))) rfl ?_
  refine zf_push fm_8 dF8_3 (v := .inl x0) rfl ?_
  refine zf_push fm_8 dF8_4 (v := .inl x1) rfl ?_
  refine zf_cv fm_8 dF8_5 v_14_45_11 hm_152 [.inl x1, .inl x0] [.inl (0 : Int32), .inr (.inr (some 125))] rfl (zT_rt hS s_64 rfl) ⟨by omega, by omega⟩ rfl (zw_mono h (zi_go ?_ ?_))
  · intro v2 S1 hv
    obtain ⟨hS1, h⟩ := hv
    refine zf_stk fm_8 dF8_8 (st₉ := [.inr (.inl (v2.toInt64)), .inl (0 : Int32), .inr (.inr (some 125))]) rfl rfl ?_
    refine zf_one fm_8 dF8_9 (oo_las (zT_is hS1 s_125) (zT_h hS1 s_125) (a := 0) rfl ⟨by decide, by decide⟩) ?_
    refine zf_goto fm_8 dF8_10 (t := 25) rfl ?_
    refine zf_push fm_8 dF8_25 (v := .inl (0 : Int32)) rfl ?_
    exact zf_iret fm_8 dF8_26 h
  · intro x S9 hx
    exact ⟨⟨by decide, rfl⟩, hx⟩
theorem fw_8 {X : Nat × (Nat → Int32)} {d w T : Nat} {S : ma_S} {Q : Option ma_V → ma_S → Prop} (x0 : Int32) (x1 : Int32) (hd : 12 ≤ d) (hw : 470 ≤ w) (h : zHsm S)  (hB : mR S 64 11 ≠ none → xB S (mR S 70)) (hC : mR S 64 11 = some 84 → cC (aT 84 S) [] (kC S) (T : Int) ∧ qI (aT 84 S)) (hV : zIv S) (hT5 : T + 1 ≤ 512) (K : ∀ (v : Int32) S₉, zCl S S₉ → mR S₉ 64 11 = mR S 64 11 → mI S₉ 64 1 = mI S 64 1 → mI S₉ 64 7 = mI S 64 7 → mI S₉ 65 = mI S 65 → (mI S₉ 67 = mI S 67 ∧ mI S₉ 68 = mI S 68) → (mR S 64 11 = some 87 → xB S₉ (mR S₉ 70) ∧ aS 88 S₉ = aS 88 S) → (mR S 64 11 = some 79 → xB S₉ (mR S₉ 70) ∧ aS 88 S₉ = aS 88 S ∧ zfP 79 (mI S₉) = zfP 79 (mI S)) → (mR S 64 11 = some 84 → xB S₉ (mR S₉ 70) ∧ aS 88 S₉ = aS 88 S ∧ zfP 84 (mI S₉) = zfP 84 (mI S) ∧ cC (aS 88 S₉) [] (kC S₉) (T : Int)) → (mR S 64 11 = some 80 → xB S₉ (mR S₉ 70) ∧ zOf (aL S) (aL S₉)) → (mR S 64 11 = some 81 → xB S₉ (mR S₉ 70) ∧ zOf (aH S) (aH S₉)) → (mR S 64 11 = some 82 → xB S₉ (mR S₉ 70) ∧ zOf (aG S) (aG S₉)) → (mR S 64 11 = some 91 → xB S₉ (mR S₉ 70) ∧ zOf (zX93 (aZ S) (mI S₉ 93)) (aZ S₉)) → (∃ y : Int32, (v = 0 → mL S₉ 125 0 = y.toInt64) ∧ zSel (mR S 64 11 ≠ none) (v.toInt = 1) (qNge (aS 88 S) x0 x1 v y)) → Q (some (.inl v)) S₉) : ma_fp X 8 d w 0 [(0, .inr (.inr (some 64))), (1, .inl x0), (2, .inl x1), (3, .inr (.inr (some 125)))] [] S Q := by
  refine gfm_8 x0 x1 hd hw h.1.1 ?_
  rcases h.2 with e | ⟨p, hp, e⟩
  · exact sp_152_64_sx_p0 x0 x1 (by omega) (by omega) (zB_of h.1) e (fun v S₉ hI w => absurd w (by decide)) (fun x S₉ hx hI => zi_x (by
      subst hx
      exact ⟨_, hd_8_3, K _ _ (cl_X h (zA_of hI) h.2 (Nat.le_refl _) (Nat.le_refl _)) (pr_Bb hI) (fr_Bb hI) (fr_B7b hI) (fr_B65b hI) (fr_B67b hI) (fun z => absurd (e.symm.trans z) (by decide)) (fun z => absurd (e.symm.trans z) (by decide)) (fun z => absurd (e.symm.trans z) (by decide)) (fun z => absurd (e.symm.trans z) (by decide)) (fun z => absurd (e.symm.trans z) (by decide)) (fun z => absurd (e.symm.trans z) (by decide)) (fun z => absurd (e.symm.trans z) (by decide)) ⟨0, fun z => absurd z (by decide), Or.inl ⟨fun w => w e, rfl⟩⟩⟩
      ))
  · simp only [zcl7, List.mem_cons, List.not_mem_nil, or_false] at hp
    rcases hp with rfl | rfl | rfl | rfl | rfl | rfl | rfl
    · exact sp_152_64_s_p79 (ab := aS 88 S) (fq := zfP 79 (mI S)) x0 x1 (by omega) (by omega) (zB_of h.1) e (hB (fun z => absurd (e.symm.trans z) (by decide))) rfl rfl (fun v S₉ hI _ rp0 rp1 rp2 => zi_n ⟨zG_T hI, K _ _ (cl_put (cl_A h (zA_of hI) h.2 (Nat.le_succ _) (Nat.le_add_right _ _))) (pr_B hI) (fr_B hI) (fr_B7 hI) (fr_B65 hI) (fr_B67 hI) (fun z => absurd (e.symm.trans z) (by decide)) (fun _ => ⟨rp0, (aS_o (zA_of hI)).trans (kge_y rp1), rp2⟩) (fun z => absurd (e.symm.trans z) (by decide)) (fun z => absurd (e.symm.trans z) (by decide)) (fun z => absurd (e.symm.trans z) (by decide)) (fun z => absurd (e.symm.trans z) (by decide)) (fun z => absurd (e.symm.trans z) (by decide)) ⟨v, fun _ => rfl, Or.inr ⟨(fun z => absurd (e.symm.trans z) (by decide)), Or.inr ⟨rp1.1, Or.inr ⟨rp1.2.1, rfl, rp1.2.2.2⟩⟩⟩⟩⟩) (fun x S₉ hx hI rx0 rx1 rx2 rx3 => zi_x (by
      rcases hx with rfl | rfl
      · exact ⟨_, hd_8_1, K _ _ (cl_X h (zA_of hI) h.2 (Nat.le_refl _) (Nat.le_refl _)) (pr_Bb hI) (fr_Bb hI) (fr_B7b hI) (fr_B65b hI) (fr_B67b hI) (fun z => absurd (e.symm.trans z) (by decide)) (fun _ => ⟨rx0, rx1, rx3⟩) (fun z => absurd (e.symm.trans z) (by decide)) (fun z => absurd (e.symm.trans z) (by decide)) (fun z => absurd (e.symm.trans z) (by decide)) (fun z => absurd (e.symm.trans z) (by decide)) (fun z => absurd (e.symm.trans z) (by decide)) ⟨0, fun z => absurd z (by decide), Or.inr ⟨(fun z => absurd (e.symm.trans z) (by decide)), rx2.elim (fun w => absurd w.1 (by decide)) (fun w => Or.inr ⟨w.2.1, Or.inl ⟨w.2.2, rfl⟩⟩)⟩⟩⟩
      · exact ⟨_, hd_8_4, K _ _ (cl_X h (zA_of hI) h.2 (Nat.le_refl _) (Nat.le_refl _)) (pr_Bb hI) (fr_Bb hI) (fr_B7b hI) (fr_B65b hI) (fr_B67b hI) (fun z => absurd (e.symm.trans z) (by decide)) (fun _ => ⟨rx0, rx1, rx3⟩) (fun z => absurd (e.symm.trans z) (by decide)) (fun z => absurd (e.symm.trans z) (by decide)) (fun z => absurd (e.symm.trans z) (by decide)) (fun z => absurd (e.symm.trans z) (by decide)) (fun z => absurd (e.symm.trans z) (by decide)) ⟨0, fun z => absurd z (by decide), Or.inr ⟨(fun z => absurd (e.symm.trans z) (by decide)), rx2.elim (fun w => Or.inl ⟨w.2, rfl⟩) (fun w => absurd w.1 (by decide))⟩⟩⟩
      ))
    · exact sp_152_64_sm_p80 (ab := aS 88 S) (fp80 := mI S 80) x0 x1 (by omega) (by omega) (zB_of h.1) e (hB (fun z => absurd (e.symm.trans z) (by decide))) rfl rfl (fun v S₉ hI _ rp0 rp1 rp2 => zi_n ⟨zG_T hI, K _ _ (cl_put (cl_A h (zA_of hI) h.2 (Nat.le_succ _) (Nat.le_add_right _ _))) (pr_B hI) (fr_B hI) (fr_B7 hI) (fr_B65 hI) (fr_B67 hI) (fun z => absurd (e.symm.trans z) (by decide)) (fun z => absurd (e.symm.trans z) (by decide)) (fun z => absurd (e.symm.trans z) (by decide)) (fun _ => ⟨rp0, (by rw [(O_o5 (zA_of hI)).1]; exact L_kp (S₉ := S₉) Ay_L (kge_y rp1) rp2)⟩) (fun z => absurd (e.symm.trans z) (by decide)) (fun z => absurd (e.symm.trans z) (by decide)) (fun z => absurd (e.symm.trans z) (by decide)) ⟨v, fun _ => rfl, Or.inr ⟨(fun z => absurd (e.symm.trans z) (by decide)), Or.inr ⟨rp1.1, Or.inr ⟨rp1.2.1, rfl, rp1.2.2.2⟩⟩⟩⟩⟩) (fun x S₉ hx hI rx0 rx1 rx2 rx3 => zi_x (by
      rcases hx with rfl | rfl
      · exact ⟨_, hd_8_1, K _ _ (cl_X h (zA_of hI) h.2 (Nat.le_refl _) (Nat.le_refl _)) (pr_Bb hI) (fr_Bb hI) (fr_B7b hI) (fr_B65b hI) (fr_B67b hI) (fun z => absurd (e.symm.trans z) (by decide)) (fun z => absurd (e.symm.trans z) (by decide)) (fun z => absurd (e.symm.trans z) (by decide)) (fun _ => ⟨rx0, (L_kp (S₉ := S₉) Ay_L rx1 rx3)⟩) (fun z => absurd (e.symm.trans z) (by decide)) (fun z => absurd (e.symm.trans z) (by decide)) (fun z => absurd (e.symm.trans z) (by decide)) ⟨0, fun z => absurd z (by decide), Or.inr ⟨(fun z => absurd (e.symm.trans z) (by decide)), rx2.elim (fun w => absurd w.1 (by decide)) (fun w => Or.inr ⟨w.2.1, Or.inl ⟨w.2.2, rfl⟩⟩)⟩⟩⟩
      · exact ⟨_, hd_8_4, K _ _ (cl_X h (zA_of hI) h.2 (Nat.le_refl _) (Nat.le_refl _)) (pr_Bb hI) (fr_Bb hI) (fr_B7b hI) (fr_B65b hI) (fr_B67b hI) (fun z => absurd (e.symm.trans z) (by decide)) (fun z => absurd (e.symm.trans z) (by decide)) (fun z => absurd (e.symm.trans z) (by decide)) (fun _ => ⟨rx0, (L_kp (S₉ := S₉) Ay_L rx1 rx3)⟩) (fun z => absurd (e.symm.trans z) (by decide)) (fun z => absurd (e.symm.trans z) (by decide)) (fun z => absurd (e.symm.trans z) (by decide)) ⟨0, fun z => absurd z (by decide), Or.inr ⟨(fun z => absurd (e.symm.trans z) (by decide)), rx2.elim (fun w => Or.inl ⟨w.2, rfl⟩) (fun w => absurd w.1 (by decide))⟩⟩⟩
      ))
    · exact sp_152_64_sm_p81 (ab := aS 88 S) (fp81 := mI S 81) x0 x1 (by omega) (by omega) (zB_of h.1) e (hB (fun z => absurd (e.symm.trans z) (by decide))) rfl rfl (fun v S₉ hI _ rp0 rp1 rp2 => zi_n ⟨zG_T hI, K _ _ (cl_put (cl_A h (zA_of hI) h.2 (Nat.le_succ _) (Nat.le_add_right _ _))) (pr_B hI) (fr_B hI) (fr_B7 hI) (fr_B65 hI) (fr_B67 hI) (fun z => absurd (e.symm.trans z) (by decide)) (fun z => absurd (e.symm.trans z) (by decide)) (fun z => absurd (e.symm.trans z) (by decide)) (fun z => absurd (e.symm.trans z) (by decide)) (fun _ => ⟨rp0, (by rw [(O_o5 (zA_of hI)).2.1]; exact H_kp (S₉ := S₉) Ay_H (kge_y rp1) rp2)⟩) (fun z => absurd (e.symm.trans z) (by decide)) (fun z => absurd (e.symm.trans z) (by decide)) ⟨v, fun _ => rfl, Or.inr ⟨(fun z => absurd (e.symm.trans z) (by decide)), Or.inr ⟨rp1.1, Or.inr ⟨rp1.2.1, rfl, rp1.2.2.2⟩⟩⟩⟩⟩) (fun x S₉ hx hI rx0 rx1 rx2 rx3 => zi_x (by
      rcases hx with rfl | rfl
      · exact ⟨_, hd_8_1, K _ _ (cl_X h (zA_of hI) h.2 (Nat.le_refl _) (Nat.le_refl _)) (pr_Bb hI) (fr_Bb hI) (fr_B7b hI) (fr_B65b hI) (fr_B67b hI) (fun z => absurd (e.symm.trans z) (by decide)) (fun z => absurd (e.symm.trans z) (by decide)) (fun z => absurd (e.symm.trans z) (by decide)) (fun z => absurd (e.symm.trans z) (by decide)) (fun _ => ⟨rx0, (H_kp (S₉ := S₉) Ay_H rx1 rx3)⟩) (fun z => absurd (e.symm.trans z) (by decide)) (fun z => absurd (e.symm.trans z) (by decide)) ⟨0, fun z => absurd z (by decide), Or.inr ⟨(fun z => absurd (e.symm.trans z) (by decide)), rx2.elim (fun w => absurd w.1 (by decide)) (fun w => Or.inr ⟨w.2.1, Or.inl ⟨w.2.2, rfl⟩⟩)⟩⟩⟩
      · exact ⟨_, hd_8_4, K _ _ (cl_X h (zA_of hI) h.2 (Nat.le_refl _) (Nat.le_refl _)) (pr_Bb hI) (fr_Bb hI) (fr_B7b hI) (fr_B65b hI) (fr_B67b hI) (fun z => absurd (e.symm.trans z) (by decide)) (fun z => absurd (e.symm.trans z) (by decide)) (fun z => absurd (e.symm.trans z) (by decide)) (fun z => absurd (e.symm.trans z) (by decide)) (fun _ => ⟨rx0, (H_kp (S₉ := S₉) Ay_H rx1 rx3)⟩) (fun z => absurd (e.symm.trans z) (by decide)) (fun z => absurd (e.symm.trans z) (by decide)) ⟨0, fun z => absurd z (by decide), Or.inr ⟨(fun z => absurd (e.symm.trans z) (by decide)), rx2.elim (fun w => Or.inl ⟨w.2, rfl⟩) (fun w => absurd w.1 (by decide))⟩⟩⟩
      ))
    · exact sp_152_64_sm_p82 (ab := aS 88 S) (fp82 := mI S 82) (fp83 := mI S 83) x0 x1 (by omega) (by omega) (zB_of h.1) e (hB (fun z => absurd (e.symm.trans z) (by decide))) rfl rfl rfl (fun v S₉ hI _ rp0 rp1 rp2 rp3 => zi_n ⟨zG_T hI, K _ _ (cl_put (cl_A h (zA_of hI) h.2 (Nat.le_succ _) (Nat.le_add_right _ _))) (pr_B hI) (fr_B hI) (fr_B7 hI) (fr_B65 hI) (fr_B67 hI) (fun z => absurd (e.symm.trans z) (by decide)) (fun z => absurd (e.symm.trans z) (by decide)) (fun z => absurd (e.symm.trans z) (by decide)) (fun z => absurd (e.symm.trans z) (by decide)) (fun z => absurd (e.symm.trans z) (by decide)) (fun _ => ⟨rp0, (by rw [(O_o5 (zA_of hI)).2.2.1]; exact G_kp (S₉ := S₉) Ay_G (kge_y rp1) rp2 rp3)⟩) (fun z => absurd (e.symm.trans z) (by decide)) ⟨v, fun _ => rfl, Or.inr ⟨(fun z => absurd (e.symm.trans z) (by decide)), Or.inr ⟨rp1.1, Or.inr ⟨rp1.2.1, rfl, rp1.2.2.2⟩⟩⟩⟩⟩) (fun x S₉ hx hI rx0 rx1 rx2 rx3 rx4 => zi_x (by
      rcases hx with rfl | rfl
      · exact ⟨_, hd_8_1, K _ _ (cl_X h (zA_of hI) h.2 (Nat.le_refl _) (Nat.le_refl _)) (pr_Bb hI) (fr_Bb hI) (fr_B7b hI) (fr_B65b hI) (fr_B67b hI) (fun z => absurd (e.symm.trans z) (by decide)) (fun z => absurd (e.symm.trans z) (by decide)) (fun z => absurd (e.symm.trans z) (by decide)) (fun z => absurd (e.symm.trans z) (by decide)) (fun z => absurd (e.symm.trans z) (by decide)) (fun _ => ⟨rx0, (G_kp (S₉ := S₉) Ay_G rx1 rx3 rx4)⟩) (fun z => absurd (e.symm.trans z) (by decide)) ⟨0, fun z => absurd z (by decide), Or.inr ⟨(fun z => absurd (e.symm.trans z) (by decide)), rx2.elim (fun w => absurd w.1 (by decide)) (fun w => Or.inr ⟨w.2.1, Or.inl ⟨w.2.2, rfl⟩⟩)⟩⟩⟩
      · exact ⟨_, hd_8_4, K _ _ (cl_X h (zA_of hI) h.2 (Nat.le_refl _) (Nat.le_refl _)) (pr_Bb hI) (fr_Bb hI) (fr_B7b hI) (fr_B65b hI) (fr_B67b hI) (fun z => absurd (e.symm.trans z) (by decide)) (fun z => absurd (e.symm.trans z) (by decide)) (fun z => absurd (e.symm.trans z) (by decide)) (fun z => absurd (e.symm.trans z) (by decide)) (fun z => absurd (e.symm.trans z) (by decide)) (fun _ => ⟨rx0, (G_kp (S₉ := S₉) Ay_G rx1 rx3 rx4)⟩) (fun z => absurd (e.symm.trans z) (by decide)) ⟨0, fun z => absurd z (by decide), Or.inr ⟨(fun z => absurd (e.symm.trans z) (by decide)), rx2.elim (fun w => Or.inl ⟨w.2, rfl⟩) (fun w => absurd w.1 (by decide))⟩⟩⟩
      ))
    · exact sp_152_64_sk_p84 (ab := aS 88 S) (B := (T : Int)) (fq := zfP 84 (mI S)) x0 x1 (by omega) (by omega) (zB_of h.1) e (hB (fun z => absurd (e.symm.trans z) (by decide))) rfl (C_o8 T_88 (hC e).1) rfl (fun v S₉ hI _ rp0 rp1 rp2 rp3 => zi_n ⟨zG_T hI, K _ _ (cl_put (cl_A h (zA_of hI) h.2 (Nat.le_succ _) (Nat.le_add_right _ _))) (pr_B hI) (fr_B hI) (fr_B7 hI) (fr_B65 hI) (fr_B67 hI) (fun z => absurd (e.symm.trans z) (by decide)) (fun z => absurd (e.symm.trans z) (by decide)) (fun _ => ⟨rp0, (aS_o (zA_of hI)).trans (kge_y rp2), rp3, (by rw [aS_o (zA_of hI)]; exact rp1)⟩) (fun z => absurd (e.symm.trans z) (by decide)) (fun z => absurd (e.symm.trans z) (by decide)) (fun z => absurd (e.symm.trans z) (by decide)) (fun z => absurd (e.symm.trans z) (by decide)) ⟨v, fun _ => rfl, Or.inr ⟨(fun z => absurd (e.symm.trans z) (by decide)), Or.inr ⟨rp2.1, Or.inr ⟨rp2.2.1, rfl, rp2.2.2.2⟩⟩⟩⟩⟩) (fun x S₉ hx hI rx0 rx1 rx2 rx3 rx4 => zi_x (by
      rcases hx with rfl | rfl
      · exact ⟨_, hd_8_1, K _ _ (cl_X h (zA_of hI) h.2 (Nat.le_refl _) (Nat.le_refl _)) (pr_Bb hI) (fr_Bb hI) (fr_B7b hI) (fr_B65b hI) (fr_B67b hI) (fun z => absurd (e.symm.trans z) (by decide)) (fun z => absurd (e.symm.trans z) (by decide)) (fun _ => ⟨rx0, rx1, rx4, (by show cC (aS 88 S₉) [] (kC S₉) _; rw [rx1]; exact rx2)⟩) (fun z => absurd (e.symm.trans z) (by decide)) (fun z => absurd (e.symm.trans z) (by decide)) (fun z => absurd (e.symm.trans z) (by decide)) (fun z => absurd (e.symm.trans z) (by decide)) ⟨0, fun z => absurd z (by decide), Or.inr ⟨(fun z => absurd (e.symm.trans z) (by decide)), rx3.elim (fun w => absurd w.1 (by decide)) (fun w => Or.inr ⟨w.2.1, Or.inl ⟨w.2.2, rfl⟩⟩)⟩⟩⟩
      · exact ⟨_, hd_8_4, K _ _ (cl_X h (zA_of hI) h.2 (Nat.le_refl _) (Nat.le_refl _)) (pr_Bb hI) (fr_Bb hI) (fr_B7b hI) (fr_B65b hI) (fr_B67b hI) (fun z => absurd (e.symm.trans z) (by decide)) (fun z => absurd (e.symm.trans z) (by decide)) (fun _ => ⟨rx0, rx1, rx4, (by show cC (aS 88 S₉) [] (kC S₉) _; rw [rx1]; exact rx2)⟩) (fun z => absurd (e.symm.trans z) (by decide)) (fun z => absurd (e.symm.trans z) (by decide)) (fun z => absurd (e.symm.trans z) (by decide)) (fun z => absurd (e.symm.trans z) (by decide)) ⟨0, fun z => absurd z (by decide), Or.inr ⟨(fun z => absurd (e.symm.trans z) (by decide)), rx3.elim (fun w => Or.inl ⟨w.2, rfl⟩) (fun w => absurd w.1 (by decide))⟩⟩⟩
      ))
    · exact sp_152_64_s_p87 (ab := aS 88 S) x0 x1 (by omega) (by omega) (zB_of h.1) e (hB (fun z => absurd (e.symm.trans z) (by decide))) rfl (fun v S₉ hI _ rp0 rp1 => zi_n ⟨zG_T hI, K _ _ (cl_put (cl_A h (zA_of hI) h.2 (Nat.le_succ _) (Nat.le_add_right _ _))) (pr_B hI) (fr_B hI) (fr_B7 hI) (fr_B65 hI) (fr_B67 hI) (fun _ => ⟨rp0, (aS_o (zA_of hI)).trans (kge_y rp1)⟩) (fun z => absurd (e.symm.trans z) (by decide)) (fun z => absurd (e.symm.trans z) (by decide)) (fun z => absurd (e.symm.trans z) (by decide)) (fun z => absurd (e.symm.trans z) (by decide)) (fun z => absurd (e.symm.trans z) (by decide)) (fun z => absurd (e.symm.trans z) (by decide)) ⟨v, fun _ => rfl, Or.inr ⟨(fun z => absurd (e.symm.trans z) (by decide)), Or.inr ⟨rp1.1, Or.inr ⟨rp1.2.1, rfl, rp1.2.2.2⟩⟩⟩⟩⟩) (fun x S₉ hx hI rx0 rx1 rx2 => zi_x (by
      rcases hx with rfl | rfl
      · exact ⟨_, hd_8_1, K _ _ (cl_X h (zA_of hI) h.2 (Nat.le_refl _) (Nat.le_refl _)) (pr_Bb hI) (fr_Bb hI) (fr_B7b hI) (fr_B65b hI) (fr_B67b hI) (fun _ => ⟨rx0, rx1⟩) (fun z => absurd (e.symm.trans z) (by decide)) (fun z => absurd (e.symm.trans z) (by decide)) (fun z => absurd (e.symm.trans z) (by decide)) (fun z => absurd (e.symm.trans z) (by decide)) (fun z => absurd (e.symm.trans z) (by decide)) (fun z => absurd (e.symm.trans z) (by decide)) ⟨0, fun z => absurd z (by decide), Or.inr ⟨(fun z => absurd (e.symm.trans z) (by decide)), rx2.elim (fun w => absurd w.1 (by decide)) (fun w => Or.inr ⟨w.2.1, Or.inl ⟨w.2.2, rfl⟩⟩)⟩⟩⟩
      · exact ⟨_, hd_8_4, K _ _ (cl_X h (zA_of hI) h.2 (Nat.le_refl _) (Nat.le_refl _)) (pr_Bb hI) (fr_Bb hI) (fr_B7b hI) (fr_B65b hI) (fr_B67b hI) (fun _ => ⟨rx0, rx1⟩) (fun z => absurd (e.symm.trans z) (by decide)) (fun z => absurd (e.symm.trans z) (by decide)) (fun z => absurd (e.symm.trans z) (by decide)) (fun z => absurd (e.symm.trans z) (by decide)) (fun z => absurd (e.symm.trans z) (by decide)) (fun z => absurd (e.symm.trans z) (by decide)) ⟨0, fun z => absurd z (by decide), Or.inr ⟨(fun z => absurd (e.symm.trans z) (by decide)), rx2.elim (fun w => Or.inl ⟨w.2, rfl⟩) (fun w => absurd w.1 (by decide))⟩⟩⟩
      ))
    · exact sp_152_64_sm_p91 (ab := aS 88 S) (fp91 := mI S 91) (fp92 := mI S 92) x0 x1 (by omega) (by omega) (zB_of h.1) e (hB (fun z => absurd (e.symm.trans z) (by decide))) rfl rfl rfl (fun v S₉ hI _ rp0 rp1 rp2 rp3 => zi_n ⟨zG_T hI, K _ _ (cl_put (cl_A h (zA_of hI) h.2 (Nat.le_succ _) (Nat.le_add_right _ _))) (pr_B hI) (fr_B hI) (fr_B7 hI) (fr_B65 hI) (fr_B67 hI) (fun z => absurd (e.symm.trans z) (by decide)) (fun z => absurd (e.symm.trans z) (by decide)) (fun z => absurd (e.symm.trans z) (by decide)) (fun z => absurd (e.symm.trans z) (by decide)) (fun z => absurd (e.symm.trans z) (by decide)) (fun z => absurd (e.symm.trans z) (by decide)) (fun _ => ⟨rp0, (by rw [(O_o5 (zA_of hI)).2.2.2]; exact Z_kp (S₉ := S₉) Ay_Z (kge_y rp1) rp2 rp3)⟩) ⟨v, fun _ => rfl, Or.inr ⟨(fun z => absurd (e.symm.trans z) (by decide)), Or.inr ⟨rp1.1, Or.inr ⟨rp1.2.1, rfl, rp1.2.2.2⟩⟩⟩⟩⟩) (fun x S₉ hx hI rx0 rx1 rx2 rx3 rx4 => zi_x (by
      rcases hx with rfl | rfl
      · exact ⟨_, hd_8_1, K _ _ (cl_X h (zA_of hI) h.2 (Nat.le_refl _) (Nat.le_refl _)) (pr_Bb hI) (fr_Bb hI) (fr_B7b hI) (fr_B65b hI) (fr_B67b hI) (fun z => absurd (e.symm.trans z) (by decide)) (fun z => absurd (e.symm.trans z) (by decide)) (fun z => absurd (e.symm.trans z) (by decide)) (fun z => absurd (e.symm.trans z) (by decide)) (fun z => absurd (e.symm.trans z) (by decide)) (fun z => absurd (e.symm.trans z) (by decide)) (fun _ => ⟨rx0, (Z_kp (S₉ := S₉) Ay_Z rx1 rx3 rx4)⟩) ⟨0, fun z => absurd z (by decide), Or.inr ⟨(fun z => absurd (e.symm.trans z) (by decide)), rx2.elim (fun w => absurd w.1 (by decide)) (fun w => Or.inr ⟨w.2.1, Or.inl ⟨w.2.2, rfl⟩⟩)⟩⟩⟩
      · exact ⟨_, hd_8_4, K _ _ (cl_X h (zA_of hI) h.2 (Nat.le_refl _) (Nat.le_refl _)) (pr_Bb hI) (fr_Bb hI) (fr_B7b hI) (fr_B65b hI) (fr_B67b hI) (fun z => absurd (e.symm.trans z) (by decide)) (fun z => absurd (e.symm.trans z) (by decide)) (fun z => absurd (e.symm.trans z) (by decide)) (fun z => absurd (e.symm.trans z) (by decide)) (fun z => absurd (e.symm.trans z) (by decide)) (fun z => absurd (e.symm.trans z) (by decide)) (fun _ => ⟨rx0, (Z_kp (S₉ := S₉) Ay_Z rx1 rx3 rx4)⟩) ⟨0, fun z => absurd z (by decide), Or.inr ⟨(fun z => absurd (e.symm.trans z) (by decide)), rx2.elim (fun w => Or.inl ⟨w.2, rfl⟩) (fun w => absurd w.1 (by decide))⟩⟩⟩
      ))
theorem gfm_9 {X : Nat × (Nat → Int32)} {d w : Nat} {S : ma_S} {Q : Option ma_V → ma_S → Prop} (x0 : Int32) (x1 : Int32) (hd : 12 ≤ d) (hw : 470 ≤ w) (hS : zT S) (h : ma_wp X (d - 1) (w - 24) 153 0 [(0, .inr (.inr (some 64))), (1, .inl x0), (2, .inl x1)] [] S (zi (fun v2 S1 => zT S1 ∧ (Q (some (.inl (0 : Int32))) (ma_put S1 125 0 (.inr (.inl (v2.toInt64)))))) (fun x S1 => ∃ c, ma_hd method_11_code 5 x 5 [(0, 10, 13, 19), (0, 10, 17, 25), (0, 10, 21, 38)] = some c ∧ Q (some (.inl c)) S1))) : ma_fp X 9 d w 0 [(0, .inr (.inr (some 64))), (1, .inl x0), (2, .inl x1), (3, .inr (.inr (some 125)))] [] S Q := by
  refine zf_push fm_9 dF9_0 (v := .inr (.inr (some 125))) rfl ?_
  refine zf_push fm_9 dF9_1 (v := .inl (0 : Int32)) rfl ?_
  refine zf_push fm_9 dF9_2 (v := .inr (.inr (some 64))) rfl ?_
  refine zf_push fm_9 dF9_3 (v := .inl x0) rfl ?_
  refine zf_push fm_9 dF9_4 (v := .inl x1) rfl ?_
  refine zf_cv fm_9 dF9_5 v_14_48_11 hm_153 [.inl x1, .inl x0] [.inl (0 : Int32), .inr (.inr (some 125))] rfl (zT_rt hS s_64 rfl) ⟨by omega, by omega⟩ rfl (zw_mono h (zi_go ?_ ?_))
  · intro v2 S1 hv
    obtain ⟨hS1, h⟩ := hv
    refine zf_stk fm_9 dF9_8 (st₉ := [.inr (.inl (v2.toInt64)), .inl (0 : Int32), .inr (.inr (some 125))]) rfl rfl ?_
    refine zf_one fm_9 dF9_9 (oo_las (zT_is hS1 s_125) (zT_h hS1 s_125) (a := 0) rfl ⟨by decide, by decide⟩) ?_
    refine zf_goto fm_9 dF9_10 (t := 25) rfl ?_
    refine zf_push fm_9 dF9_25 (v := .inl (0 : Int32)) rfl ?_
    exact zf_iret fm_9 dF9_26 h
  · intro x S9 hx
    exact ⟨⟨by decide, rfl⟩, hx⟩
theorem fw_9 {X : Nat × (Nat → Int32)} {d w T : Nat} {S : ma_S} {Q : Option ma_V → ma_S → Prop} (x0 : Int32) (x1 : Int32) (hd : 12 ≤ d) (hw : 470 ≤ w) (h : zHsm S)  (hB : mR S 64 11 ≠ none → xB S (mR S 70)) (hC : mR S 64 11 = some 84 → cC (aT 84 S) [] (kC S) (T : Int) ∧ qI (aT 84 S)) (hV : zIv S) (hT5 : T + 1 ≤ 512) (K : ∀ (v : Int32) S₉, zCl S S₉ → mR S₉ 64 11 = mR S 64 11 → mI S₉ 64 1 = mI S 64 1 → mI S₉ 64 7 = mI S 64 7 → mI S₉ 65 = mI S 65 → (mI S₉ 67 = mI S 67 ∧ mI S₉ 68 = mI S 68) → (mR S 64 11 = some 87 → xB S₉ (mR S₉ 70) ∧ aS 88 S₉ = xRo (aS 88 S) x0 x1) → (mR S 64 11 = some 79 → xB S₉ (mR S₉ 70) ∧ aS 88 S₉ = oRo (aS 88 S) x0 x1 ∧ zfP 79 (mI S₉) = zfP 79 (mI S)) → (mR S 64 11 = some 84 → xB S₉ (mR S₉ 70) ∧ aS 88 S₉ = kRo (aS 88 S) x0 x1 ∧ zfP 84 (mI S₉) = zfP 84 (mI S) ∧ cC (aS 88 S₉) [] (kC S₉) (T : Int)) → (mR S 64 11 = some 80 → xB S₉ (mR S₉ 70) ∧ zOf (oRo (aL S) x0 x1) (aL S₉)) → (mR S 64 11 = some 81 → xB S₉ (mR S₉ 70) ∧ zOf (oRo (aH S) x0 x1) (aH S₉)) → (mR S 64 11 = some 82 → xB S₉ (mR S₉ 70) ∧ zOf (oRo (aG S) x0 x1) (aG S₉)) → (mR S 64 11 = some 91 → xB S₉ (mR S₉ 70) ∧ zOf (zX93 (oRo (aZ S) x0 x1) (mI S₉ 93)) (aZ S₉)) → Q (some (.inl v)) S₉) : ma_fp X 9 d w 0 [(0, .inr (.inr (some 64))), (1, .inl x0), (2, .inl x1), (3, .inr (.inr (some 125)))] [] S Q := by
  refine gfm_9 x0 x1 hd hw h.1.1 ?_
  rcases h.2 with e | ⟨p, hp, e⟩
  · exact sp_153_64_sx_p0 x0 x1 (by omega) (by omega) (zB_of h.1) e (fun v S₉ hI w => absurd w (by decide)) (fun x S₉ hx hI hq => zi_x (by
      rcases hx with rfl | rfl
      · exact ⟨_, hd_9_2, K _ _ (cl_X h (zA_of hI) h.2 (Nat.le_refl _) (Nat.le_refl _)) (pr_Bb hI) (fr_Bb hI) (fr_B7b hI) (fr_B65b hI) (fr_B67b hI) (fun z => absurd (e.symm.trans z) (by decide)) (fun z => absurd (e.symm.trans z) (by decide)) (fun z => absurd (e.symm.trans z) (by decide)) (fun z => absurd (e.symm.trans z) (by decide)) (fun z => absurd (e.symm.trans z) (by decide)) (fun z => absurd (e.symm.trans z) (by decide)) (fun z => absurd (e.symm.trans z) (by decide))⟩
      · exact ⟨_, hd_9_3, K _ _ (cl_X h (zA_of hI) h.2 (Nat.le_refl _) (Nat.le_refl _)) (pr_Bb hI) (fr_Bb hI) (fr_B7b hI) (fr_B65b hI) (fr_B67b hI) (fun z => absurd (e.symm.trans z) (by decide)) (fun z => absurd (e.symm.trans z) (by decide)) (fun z => absurd (e.symm.trans z) (by decide)) (fun z => absurd (e.symm.trans z) (by decide)) (fun z => absurd (e.symm.trans z) (by decide)) (fun z => absurd (e.symm.trans z) (by decide)) (fun z => absurd (e.symm.trans z) (by decide))⟩
      ))
  · simp only [zcl7, List.mem_cons, List.not_mem_nil, or_false] at hp
    rcases hp with rfl | rfl | rfl | rfl | rfl | rfl | rfl
    · exact sp_153_64_s_p79 (ab := aS 88 S) (fq := zfP 79 (mI S)) x0 x1 (by omega) (by omega) (zB_of h.1) e (hB (fun z => absurd (e.symm.trans z) (by decide))) rfl rfl (fun v S₉ hI _ rp0 rp1 rp2 => zi_n ⟨zG_T hI, K _ _ (cl_put (cl_A h (zA_of hI) h.2 (Nat.le_succ _) (Nat.le_add_right _ _))) (pr_B hI) (fr_B hI) (fr_B7 hI) (fr_B65 hI) (fr_B67 hI) (fun z => absurd (e.symm.trans z) (by decide)) (fun _ => ⟨rp0, (aS_o (zA_of hI)).trans (oro_y rp1), rp2⟩) (fun z => absurd (e.symm.trans z) (by decide)) (fun z => absurd (e.symm.trans z) (by decide)) (fun z => absurd (e.symm.trans z) (by decide)) (fun z => absurd (e.symm.trans z) (by decide)) (fun z => absurd (e.symm.trans z) (by decide))⟩) (fun x S₉ hx hI rx0 rx1 rx2 rx3 => zi_x (by
      rcases hx with rfl | rfl
      · exact ⟨_, hd_9_2, K _ _ (cl_X h (zA_of hI) h.2 (Nat.le_refl _) (Nat.le_refl _)) (pr_Bb hI) (fr_Bb hI) (fr_B7b hI) (fr_B65b hI) (fr_B67b hI) (fun z => absurd (e.symm.trans z) (by decide)) (fun _ => ⟨rx0, (oro_x rx1 rx2), rx3⟩) (fun z => absurd (e.symm.trans z) (by decide)) (fun z => absurd (e.symm.trans z) (by decide)) (fun z => absurd (e.symm.trans z) (by decide)) (fun z => absurd (e.symm.trans z) (by decide)) (fun z => absurd (e.symm.trans z) (by decide))⟩
      · exact ⟨_, hd_9_4, K _ _ (cl_X h (zA_of hI) h.2 (Nat.le_refl _) (Nat.le_refl _)) (pr_Bb hI) (fr_Bb hI) (fr_B7b hI) (fr_B65b hI) (fr_B67b hI) (fun z => absurd (e.symm.trans z) (by decide)) (fun _ => ⟨rx0, (oro_x rx1 rx2), rx3⟩) (fun z => absurd (e.symm.trans z) (by decide)) (fun z => absurd (e.symm.trans z) (by decide)) (fun z => absurd (e.symm.trans z) (by decide)) (fun z => absurd (e.symm.trans z) (by decide)) (fun z => absurd (e.symm.trans z) (by decide))⟩
      ))
    · exact sp_153_64_sm_p80 (ab := aS 88 S) (fp80 := mI S 80) x0 x1 (by omega) (by omega) (zB_of h.1) e (hB (fun z => absurd (e.symm.trans z) (by decide))) rfl rfl (fun v S₉ hI _ rp0 rp1 rp2 => zi_n ⟨zG_T hI, K _ _ (cl_put (cl_A h (zA_of hI) h.2 (Nat.le_succ _) (Nat.le_add_right _ _))) (pr_B hI) (fr_B hI) (fr_B7 hI) (fr_B65 hI) (fr_B67 hI) (fun z => absurd (e.symm.trans z) (by decide)) (fun z => absurd (e.symm.trans z) (by decide)) (fun z => absurd (e.symm.trans z) (by decide)) (fun _ => ⟨rp0, (by rw [(O_o5 (zA_of hI)).1]; exact L_kp (S₉ := S₉) (Ay_ro M_88) (oro_y rp1) rp2)⟩) (fun z => absurd (e.symm.trans z) (by decide)) (fun z => absurd (e.symm.trans z) (by decide)) (fun z => absurd (e.symm.trans z) (by decide))⟩) (fun x S₉ hx hI rx0 rx1 rx2 rx3 => zi_x (by
      rcases hx with rfl | rfl
      · exact ⟨_, hd_9_2, K _ _ (cl_X h (zA_of hI) h.2 (Nat.le_refl _) (Nat.le_refl _)) (pr_Bb hI) (fr_Bb hI) (fr_B7b hI) (fr_B65b hI) (fr_B67b hI) (fun z => absurd (e.symm.trans z) (by decide)) (fun z => absurd (e.symm.trans z) (by decide)) (fun z => absurd (e.symm.trans z) (by decide)) (fun _ => ⟨rx0, (L_kp (S₉ := S₉) (Ay_ro M_88) (oro_x rx1 rx2) rx3)⟩) (fun z => absurd (e.symm.trans z) (by decide)) (fun z => absurd (e.symm.trans z) (by decide)) (fun z => absurd (e.symm.trans z) (by decide))⟩
      · exact ⟨_, hd_9_4, K _ _ (cl_X h (zA_of hI) h.2 (Nat.le_refl _) (Nat.le_refl _)) (pr_Bb hI) (fr_Bb hI) (fr_B7b hI) (fr_B65b hI) (fr_B67b hI) (fun z => absurd (e.symm.trans z) (by decide)) (fun z => absurd (e.symm.trans z) (by decide)) (fun z => absurd (e.symm.trans z) (by decide)) (fun _ => ⟨rx0, (L_kp (S₉ := S₉) (Ay_ro M_88) (oro_x rx1 rx2) rx3)⟩) (fun z => absurd (e.symm.trans z) (by decide)) (fun z => absurd (e.symm.trans z) (by decide)) (fun z => absurd (e.symm.trans z) (by decide))⟩
      ))
    · exact sp_153_64_sm_p81 (ab := aS 88 S) (fp81 := mI S 81) x0 x1 (by omega) (by omega) (zB_of h.1) e (hB (fun z => absurd (e.symm.trans z) (by decide))) rfl rfl (fun v S₉ hI _ rp0 rp1 rp2 => zi_n ⟨zG_T hI, K _ _ (cl_put (cl_A h (zA_of hI) h.2 (Nat.le_succ _) (Nat.le_add_right _ _))) (pr_B hI) (fr_B hI) (fr_B7 hI) (fr_B65 hI) (fr_B67 hI) (fun z => absurd (e.symm.trans z) (by decide)) (fun z => absurd (e.symm.trans z) (by decide)) (fun z => absurd (e.symm.trans z) (by decide)) (fun z => absurd (e.symm.trans z) (by decide)) (fun _ => ⟨rp0, (by rw [(O_o5 (zA_of hI)).2.1]; exact H_kp (S₉ := S₉) (Ay_ro M_88) (oro_y rp1) rp2)⟩) (fun z => absurd (e.symm.trans z) (by decide)) (fun z => absurd (e.symm.trans z) (by decide))⟩) (fun x S₉ hx hI rx0 rx1 rx2 rx3 => zi_x (by
      rcases hx with rfl | rfl
      · exact ⟨_, hd_9_2, K _ _ (cl_X h (zA_of hI) h.2 (Nat.le_refl _) (Nat.le_refl _)) (pr_Bb hI) (fr_Bb hI) (fr_B7b hI) (fr_B65b hI) (fr_B67b hI) (fun z => absurd (e.symm.trans z) (by decide)) (fun z => absurd (e.symm.trans z) (by decide)) (fun z => absurd (e.symm.trans z) (by decide)) (fun z => absurd (e.symm.trans z) (by decide)) (fun _ => ⟨rx0, (H_kp (S₉ := S₉) (Ay_ro M_88) (oro_x rx1 rx2) rx3)⟩) (fun z => absurd (e.symm.trans z) (by decide)) (fun z => absurd (e.symm.trans z) (by decide))⟩
      · exact ⟨_, hd_9_4, K _ _ (cl_X h (zA_of hI) h.2 (Nat.le_refl _) (Nat.le_refl _)) (pr_Bb hI) (fr_Bb hI) (fr_B7b hI) (fr_B65b hI) (fr_B67b hI) (fun z => absurd (e.symm.trans z) (by decide)) (fun z => absurd (e.symm.trans z) (by decide)) (fun z => absurd (e.symm.trans z) (by decide)) (fun z => absurd (e.symm.trans z) (by decide)) (fun _ => ⟨rx0, (H_kp (S₉ := S₉) (Ay_ro M_88) (oro_x rx1 rx2) rx3)⟩) (fun z => absurd (e.symm.trans z) (by decide)) (fun z => absurd (e.symm.trans z) (by decide))⟩
      ))
    · exact sp_153_64_sm_p82 (ab := aS 88 S) (fp82 := mI S 82) (fp83 := mI S 83) x0 x1 (by omega) (by omega) (zB_of h.1) e (hB (fun z => absurd (e.symm.trans z) (by decide))) rfl rfl rfl (fun v S₉ hI _ rp0 rp1 rp2 rp3 => zi_n ⟨zG_T hI, K _ _ (cl_put (cl_A h (zA_of hI) h.2 (Nat.le_succ _) (Nat.le_add_right _ _))) (pr_B hI) (fr_B hI) (fr_B7 hI) (fr_B65 hI) (fr_B67 hI) (fun z => absurd (e.symm.trans z) (by decide)) (fun z => absurd (e.symm.trans z) (by decide)) (fun z => absurd (e.symm.trans z) (by decide)) (fun z => absurd (e.symm.trans z) (by decide)) (fun z => absurd (e.symm.trans z) (by decide)) (fun _ => ⟨rp0, (by rw [(O_o5 (zA_of hI)).2.2.1]; exact G_kp (S₉ := S₉) (Ay_ro G_88) (oro_y rp1) rp2 rp3)⟩) (fun z => absurd (e.symm.trans z) (by decide))⟩) (fun x S₉ hx hI rx0 rx1 rx2 rx3 rx4 => zi_x (by
      rcases hx with rfl | rfl
      · exact ⟨_, hd_9_2, K _ _ (cl_X h (zA_of hI) h.2 (Nat.le_refl _) (Nat.le_refl _)) (pr_Bb hI) (fr_Bb hI) (fr_B7b hI) (fr_B65b hI) (fr_B67b hI) (fun z => absurd (e.symm.trans z) (by decide)) (fun z => absurd (e.symm.trans z) (by decide)) (fun z => absurd (e.symm.trans z) (by decide)) (fun z => absurd (e.symm.trans z) (by decide)) (fun z => absurd (e.symm.trans z) (by decide)) (fun _ => ⟨rx0, (G_kp (S₉ := S₉) (Ay_ro G_88) (oro_x rx1 rx2) rx3 rx4)⟩) (fun z => absurd (e.symm.trans z) (by decide))⟩
      · exact ⟨_, hd_9_4, K _ _ (cl_X h (zA_of hI) h.2 (Nat.le_refl _) (Nat.le_refl _)) (pr_Bb hI) (fr_Bb hI) (fr_B7b hI) (fr_B65b hI) (fr_B67b hI) (fun z => absurd (e.symm.trans z) (by decide)) (fun z => absurd (e.symm.trans z) (by decide)) (fun z => absurd (e.symm.trans z) (by decide)) (fun z => absurd (e.symm.trans z) (by decide)) (fun z => absurd (e.symm.trans z) (by decide)) (fun _ => ⟨rx0, (G_kp (S₉ := S₉) (Ay_ro G_88) (oro_x rx1 rx2) rx3 rx4)⟩) (fun z => absurd (e.symm.trans z) (by decide))⟩
      ))
    · exact sp_153_64_sk_p84 (ab := aS 88 S) (B := (T : Int)) (fq := zfP 84 (mI S)) x0 x1 (by omega) (by omega) (zB_of h.1) e (hB (fun z => absurd (e.symm.trans z) (by decide))) rfl (C_o8 T_88 (hC e).1) (by omega) rfl (fun v S₉ hI _ rp0 rp1 rp2 rp3 => zi_n ⟨zG_T hI, K _ _ (cl_put (cl_A h (zA_of hI) h.2 (Nat.le_succ _) (Nat.le_add_right _ _))) (pr_B hI) (fr_B hI) (fr_B7 hI) (fr_B65 hI) (fr_B67 hI) (fun z => absurd (e.symm.trans z) (by decide)) (fun z => absurd (e.symm.trans z) (by decide)) (fun _ => ⟨rp0, (aS_o (zA_of hI)).trans (cro_y rp2), rp3, (by rw [aS_o (zA_of hI)]; exact rp1)⟩) (fun z => absurd (e.symm.trans z) (by decide)) (fun z => absurd (e.symm.trans z) (by decide)) (fun z => absurd (e.symm.trans z) (by decide)) (fun z => absurd (e.symm.trans z) (by decide))⟩) (fun x S₉ hx hI rx0 rx1 rx2 rx3 rx4 => zi_x (by
      rcases hx with rfl | rfl
      · exact ⟨_, hd_9_2, K _ _ (cl_X h (zA_of hI) h.2 (Nat.le_refl _) (Nat.le_refl _)) (pr_Bb hI) (fr_Bb hI) (fr_B7b hI) (fr_B65b hI) (fr_B67b hI) (fun z => absurd (e.symm.trans z) (by decide)) (fun z => absurd (e.symm.trans z) (by decide)) (fun _ => ⟨rx0, (cro_x rx1 rx3), rx4, (by show cC (aS 88 S₉) [] (kC S₉) _; rw [rx1]; exact rx2)⟩) (fun z => absurd (e.symm.trans z) (by decide)) (fun z => absurd (e.symm.trans z) (by decide)) (fun z => absurd (e.symm.trans z) (by decide)) (fun z => absurd (e.symm.trans z) (by decide))⟩
      · exact ⟨_, hd_9_4, K _ _ (cl_X h (zA_of hI) h.2 (Nat.le_refl _) (Nat.le_refl _)) (pr_Bb hI) (fr_Bb hI) (fr_B7b hI) (fr_B65b hI) (fr_B67b hI) (fun z => absurd (e.symm.trans z) (by decide)) (fun z => absurd (e.symm.trans z) (by decide)) (fun _ => ⟨rx0, (cro_x rx1 rx3), rx4, (by show cC (aS 88 S₉) [] (kC S₉) _; rw [rx1]; exact rx2)⟩) (fun z => absurd (e.symm.trans z) (by decide)) (fun z => absurd (e.symm.trans z) (by decide)) (fun z => absurd (e.symm.trans z) (by decide)) (fun z => absurd (e.symm.trans z) (by decide))⟩
      ))
    · exact sp_153_64_s_p87 (ab := aS 88 S) x0 x1 (by omega) (by omega) (zB_of h.1) e (hB (fun z => absurd (e.symm.trans z) (by decide))) rfl (fun v S₉ hI _ rp0 rp1 => zi_n ⟨zG_T hI, K _ _ (cl_put (cl_A h (zA_of hI) h.2 (Nat.le_succ _) (Nat.le_add_right _ _))) (pr_B hI) (fr_B hI) (fr_B7 hI) (fr_B65 hI) (fr_B67 hI) (fun _ => ⟨rp0, (aS_o (zA_of hI)).trans (kro_y rp1)⟩) (fun z => absurd (e.symm.trans z) (by decide)) (fun z => absurd (e.symm.trans z) (by decide)) (fun z => absurd (e.symm.trans z) (by decide)) (fun z => absurd (e.symm.trans z) (by decide)) (fun z => absurd (e.symm.trans z) (by decide)) (fun z => absurd (e.symm.trans z) (by decide))⟩) (fun x S₉ hx hI rx0 rx1 rx2 => zi_x (by
      rcases hx with rfl | rfl
      · exact ⟨_, hd_9_2, K _ _ (cl_X h (zA_of hI) h.2 (Nat.le_refl _) (Nat.le_refl _)) (pr_Bb hI) (fr_Bb hI) (fr_B7b hI) (fr_B65b hI) (fr_B67b hI) (fun _ => ⟨rx0, (kro_x rx1 rx2)⟩) (fun z => absurd (e.symm.trans z) (by decide)) (fun z => absurd (e.symm.trans z) (by decide)) (fun z => absurd (e.symm.trans z) (by decide)) (fun z => absurd (e.symm.trans z) (by decide)) (fun z => absurd (e.symm.trans z) (by decide)) (fun z => absurd (e.symm.trans z) (by decide))⟩
      · exact ⟨_, hd_9_4, K _ _ (cl_X h (zA_of hI) h.2 (Nat.le_refl _) (Nat.le_refl _)) (pr_Bb hI) (fr_Bb hI) (fr_B7b hI) (fr_B65b hI) (fr_B67b hI) (fun _ => ⟨rx0, (kro_x rx1 rx2)⟩) (fun z => absurd (e.symm.trans z) (by decide)) (fun z => absurd (e.symm.trans z) (by decide)) (fun z => absurd (e.symm.trans z) (by decide)) (fun z => absurd (e.symm.trans z) (by decide)) (fun z => absurd (e.symm.trans z) (by decide)) (fun z => absurd (e.symm.trans z) (by decide))⟩
      ))
    · exact sp_153_64_sm_p91 (ab := aS 88 S) (fp91 := mI S 91) (fp92 := mI S 92) x0 x1 (by omega) (by omega) (zB_of h.1) e (hB (fun z => absurd (e.symm.trans z) (by decide))) rfl rfl rfl (fun v S₉ hI _ rp0 rp1 rp2 rp3 => zi_n ⟨zG_T hI, K _ _ (cl_put (cl_A h (zA_of hI) h.2 (Nat.le_succ _) (Nat.le_add_right _ _))) (pr_B hI) (fr_B hI) (fr_B7 hI) (fr_B65 hI) (fr_B67 hI) (fun z => absurd (e.symm.trans z) (by decide)) (fun z => absurd (e.symm.trans z) (by decide)) (fun z => absurd (e.symm.trans z) (by decide)) (fun z => absurd (e.symm.trans z) (by decide)) (fun z => absurd (e.symm.trans z) (by decide)) (fun z => absurd (e.symm.trans z) (by decide)) (fun _ => ⟨rp0, (by rw [(O_o5 (zA_of hI)).2.2.2]; exact Z_kp (S₉ := S₉) (Ay_ro Z_88) (oro_y rp1) rp2 rp3)⟩)⟩) (fun x S₉ hx hI rx0 rx1 rx2 rx3 rx4 => zi_x (by
      rcases hx with rfl | rfl
      · exact ⟨_, hd_9_2, K _ _ (cl_X h (zA_of hI) h.2 (Nat.le_refl _) (Nat.le_refl _)) (pr_Bb hI) (fr_Bb hI) (fr_B7b hI) (fr_B65b hI) (fr_B67b hI) (fun z => absurd (e.symm.trans z) (by decide)) (fun z => absurd (e.symm.trans z) (by decide)) (fun z => absurd (e.symm.trans z) (by decide)) (fun z => absurd (e.symm.trans z) (by decide)) (fun z => absurd (e.symm.trans z) (by decide)) (fun z => absurd (e.symm.trans z) (by decide)) (fun _ => ⟨rx0, (Z_kp (S₉ := S₉) (Ay_ro Z_88) (oro_x rx1 rx2) rx3 rx4)⟩)⟩
      · exact ⟨_, hd_9_4, K _ _ (cl_X h (zA_of hI) h.2 (Nat.le_refl _) (Nat.le_refl _)) (pr_Bb hI) (fr_Bb hI) (fr_B7b hI) (fr_B65b hI) (fr_B67b hI) (fun z => absurd (e.symm.trans z) (by decide)) (fun z => absurd (e.symm.trans z) (by decide)) (fun z => absurd (e.symm.trans z) (by decide)) (fun z => absurd (e.symm.trans z) (by decide)) (fun z => absurd (e.symm.trans z) (by decide)) (fun z => absurd (e.symm.trans z) (by decide)) (fun _ => ⟨rx0, (Z_kp (S₉ := S₉) (Ay_ro Z_88) (oro_x rx1 rx2) rx3 rx4)⟩)⟩
      ))
theorem gfm_10 {X : Nat × (Nat → Int32)} {d w : Nat} {S : ma_S} {Q : Option ma_V → ma_S → Prop} (x0 : Int32) (x1 : Int32) (hd : 12 ≤ d) (hw : 470 ≤ w) (hS : zT S) (h : ma_wp X (d - 1) (w - 24) 154 0 [(0, .inr (.inr (some 64))), (1, .inl x0), (2, .inl x1)] [] S (zi (fun v2 S1 => zT S1 ∧ (Q (some (.inl (0 : Int32))) (ma_put S1 125 0 (.inr (.inl (v2.toInt64)))))) (fun x S1 => ∃ c, ma_hd method_12_code 5 x 5 [(0, 10, 13, 19), (0, 10, 17, 25), (0, 10, 21, 38)] = some c ∧ Q (some (.inl c)) S1))) : ma_fp X 10 d w 0 [(0, .inr (.inr (some 64))), (1, .inl x0), (2, .inl x1), (3, .inr (.inr (some 125)))] [] S Q := by
  refine zf_push fm_10 dF10_0 (v := .inr (.inr (some 125))) rfl ?_
  refine zf_push fm_10 dF10_1 (v := .inl (0 : Int32)) rfl ?_
  refine zf_push fm_10 dF10_2 (v := .inr (.inr (some 64))) rfl ?_
  refine zf_push fm_10 dF10_3 (v := .inl x0) rfl ?_
  refine zf_push fm_10 dF10_4 (v := .inl x1) rfl ?_
  refine zf_cv fm_10 dF10_5 v_14_51_11 hm_154 [.inl x1, .inl x0] [.inl (0 : Int32), .inr (.inr (some 125))] rfl (zT_rt hS s_64 rfl) ⟨by omega, by omega⟩ rfl (zw_mono h (zi_go ?_ ?_))
  · intro v2 S1 hv
    obtain ⟨hS1, h⟩ := hv
    refine zf_stk fm_10 dF10_8 (st₉ := [.inr (.inl (v2.toInt64)), .inl (0 : Int32), .inr (.inr (some 125))]) rfl rfl ?_
    refine zf_one fm_10 dF10_9 (oo_las (zT_is hS1 s_125) (zT_h hS1 s_125) (a := 0) rfl ⟨by decide, by decide⟩) ?_
    refine zf_goto fm_10 dF10_10 (t := 25) rfl ?_
    refine zf_push fm_10 dF10_25 (v := .inl (0 : Int32)) rfl ?_
    exact zf_iret fm_10 dF10_26 h
  · intro x S9 hx
    exact ⟨⟨by decide, rfl⟩, hx⟩
theorem fw_10 {X : Nat × (Nat → Int32)} {d w T : Nat} {S : ma_S} {Q : Option ma_V → ma_S → Prop} (x0 : Int32) (x1 : Int32) (hd : 12 ≤ d) (hw : 470 ≤ w) (h : zHsm S)  (hB : mR S 64 11 ≠ none → xB S (mR S 70)) (hC : mR S 64 11 = some 84 → cC (aT 84 S) [] (kC S) (T : Int) ∧ qI (aT 84 S)) (hV : zIv S) (hT5 : T + 1 ≤ 512) (K : ∀ (v : Int32) S₉, zCl S S₉ → mR S₉ 64 11 = mR S 64 11 → mI S₉ 64 1 = mI S 64 1 → mI S₉ 64 7 = mI S 64 7 → mI S₉ 65 = mI S 65 → (mI S₉ 67 = mI S 67 ∧ mI S₉ 68 = mI S 68) → (mR S 64 11 = some 87 → xB S₉ (mR S₉ 70) ∧ aS 88 S₉ = xWe (aS 88 S) x0 x1) → (mR S 64 11 = some 79 → xB S₉ (mR S₉ 70) ∧ aS 88 S₉ = xWe (aS 88 S) x0 x1 ∧ zfP 79 (mI S₉) = zfP 79 (mI S)) → (mR S 64 11 = some 84 → xB S₉ (mR S₉ 70) ∧ aS 88 S₉ = xWe (aS 88 S) x0 x1 ∧ zfP 84 (mI S₉) = zfP 84 (mI S) ∧ cC (aS 88 S₉) [] (kC S₉) (T : Int)) → (mR S 64 11 = some 80 → xB S₉ (mR S₉ 70) ∧ zOf (xWe (aL S) x0 x1) (aL S₉)) → (mR S 64 11 = some 81 → xB S₉ (mR S₉ 70) ∧ zOf (xWe (aH S) x0 x1) (aH S₉)) → (mR S 64 11 = some 82 → xB S₉ (mR S₉ 70) ∧ zOf (xWe (aG S) x0 x1) (aG S₉)) → (mR S 64 11 = some 91 → xB S₉ (mR S₉ 70) ∧ zOf (zX93 (xWe (aZ S) x0 x1) (mI S₉ 93)) (aZ S₉)) → Q (some (.inl v)) S₉) : ma_fp X 10 d w 0 [(0, .inr (.inr (some 64))), (1, .inl x0), (2, .inl x1), (3, .inr (.inr (some 125)))] [] S Q := by
  refine gfm_10 x0 x1 hd hw h.1.1 ?_
  rcases h.2 with e | ⟨p, hp, e⟩
  · exact sp_154_64_sx_p0 x0 x1 (by omega) (by omega) (zB_of h.1) e (fun v S₉ hI w => absurd w (by decide)) (fun x S₉ hx hI hq => zi_x (by
      rcases hx with rfl | rfl
      · exact ⟨_, hd_10_2, K _ _ (cl_X h (zA_of hI) h.2 (Nat.le_refl _) (Nat.le_refl _)) (pr_Bb hI) (fr_Bb hI) (fr_B7b hI) (fr_B65b hI) (fr_B67b hI) (fun z => absurd (e.symm.trans z) (by decide)) (fun z => absurd (e.symm.trans z) (by decide)) (fun z => absurd (e.symm.trans z) (by decide)) (fun z => absurd (e.symm.trans z) (by decide)) (fun z => absurd (e.symm.trans z) (by decide)) (fun z => absurd (e.symm.trans z) (by decide)) (fun z => absurd (e.symm.trans z) (by decide))⟩
      · exact ⟨_, hd_10_3, K _ _ (cl_X h (zA_of hI) h.2 (Nat.le_refl _) (Nat.le_refl _)) (pr_Bb hI) (fr_Bb hI) (fr_B7b hI) (fr_B65b hI) (fr_B67b hI) (fun z => absurd (e.symm.trans z) (by decide)) (fun z => absurd (e.symm.trans z) (by decide)) (fun z => absurd (e.symm.trans z) (by decide)) (fun z => absurd (e.symm.trans z) (by decide)) (fun z => absurd (e.symm.trans z) (by decide)) (fun z => absurd (e.symm.trans z) (by decide)) (fun z => absurd (e.symm.trans z) (by decide))⟩
      ))
  · simp only [zcl7, List.mem_cons, List.not_mem_nil, or_false] at hp
    rcases hp with rfl | rfl | rfl | rfl | rfl | rfl | rfl
    · exact sp_154_64_s_p79 (ab := aS 88 S) (fq := zfP 79 (mI S)) x0 x1 (by omega) (by omega) (zB_of h.1) e (hB (fun z => absurd (e.symm.trans z) (by decide))) rfl rfl (fun v S₉ hI _ rp0 rp1 rp2 => zi_n ⟨zG_T hI, K _ _ (cl_put (cl_A h (zA_of hI) h.2 (Nat.le_succ _) (Nat.le_add_right _ _))) (pr_B hI) (fr_B hI) (fr_B7 hI) (fr_B65 hI) (fr_B67 hI) (fun z => absurd (e.symm.trans z) (by decide)) (fun _ => ⟨rp0, (aS_o (zA_of hI)).trans (kwe_y rp1), rp2⟩) (fun z => absurd (e.symm.trans z) (by decide)) (fun z => absurd (e.symm.trans z) (by decide)) (fun z => absurd (e.symm.trans z) (by decide)) (fun z => absurd (e.symm.trans z) (by decide)) (fun z => absurd (e.symm.trans z) (by decide))⟩) (fun x S₉ hx hI rx0 rx1 rx2 rx3 => zi_x (by
      rcases hx with rfl | rfl
      · exact ⟨_, hd_10_2, K _ _ (cl_X h (zA_of hI) h.2 (Nat.le_refl _) (Nat.le_refl _)) (pr_Bb hI) (fr_Bb hI) (fr_B7b hI) (fr_B65b hI) (fr_B67b hI) (fun z => absurd (e.symm.trans z) (by decide)) (fun _ => ⟨rx0, (kwe_x rx1 rx2), rx3⟩) (fun z => absurd (e.symm.trans z) (by decide)) (fun z => absurd (e.symm.trans z) (by decide)) (fun z => absurd (e.symm.trans z) (by decide)) (fun z => absurd (e.symm.trans z) (by decide)) (fun z => absurd (e.symm.trans z) (by decide))⟩
      · exact ⟨_, hd_10_4, K _ _ (cl_X h (zA_of hI) h.2 (Nat.le_refl _) (Nat.le_refl _)) (pr_Bb hI) (fr_Bb hI) (fr_B7b hI) (fr_B65b hI) (fr_B67b hI) (fun z => absurd (e.symm.trans z) (by decide)) (fun _ => ⟨rx0, (kwe_x rx1 rx2), rx3⟩) (fun z => absurd (e.symm.trans z) (by decide)) (fun z => absurd (e.symm.trans z) (by decide)) (fun z => absurd (e.symm.trans z) (by decide)) (fun z => absurd (e.symm.trans z) (by decide)) (fun z => absurd (e.symm.trans z) (by decide))⟩
      ))
    · exact sp_154_64_sm_p80 (ab := aS 88 S) (fp80 := mI S 80) x0 x1 (by omega) (by omega) (zB_of h.1) e (hB (fun z => absurd (e.symm.trans z) (by decide))) rfl rfl (fun v S₉ hI _ rp0 rp1 rp2 => zi_n ⟨zG_T hI, K _ _ (cl_put (cl_A h (zA_of hI) h.2 (Nat.le_succ _) (Nat.le_add_right _ _))) (pr_B hI) (fr_B hI) (fr_B7 hI) (fr_B65 hI) (fr_B67 hI) (fun z => absurd (e.symm.trans z) (by decide)) (fun z => absurd (e.symm.trans z) (by decide)) (fun z => absurd (e.symm.trans z) (by decide)) (fun _ => ⟨rp0, (by rw [(O_o5 (zA_of hI)).1]; exact L_kp (S₉ := S₉) (Ay_we M_88) (kwe_y rp1) rp2)⟩) (fun z => absurd (e.symm.trans z) (by decide)) (fun z => absurd (e.symm.trans z) (by decide)) (fun z => absurd (e.symm.trans z) (by decide))⟩) (fun x S₉ hx hI rx0 rx1 rx2 rx3 => zi_x (by
      rcases hx with rfl | rfl
      · exact ⟨_, hd_10_2, K _ _ (cl_X h (zA_of hI) h.2 (Nat.le_refl _) (Nat.le_refl _)) (pr_Bb hI) (fr_Bb hI) (fr_B7b hI) (fr_B65b hI) (fr_B67b hI) (fun z => absurd (e.symm.trans z) (by decide)) (fun z => absurd (e.symm.trans z) (by decide)) (fun z => absurd (e.symm.trans z) (by decide)) (fun _ => ⟨rx0, (L_kp (S₉ := S₉) (Ay_we M_88) (kwe_x rx1 rx2) rx3)⟩) (fun z => absurd (e.symm.trans z) (by decide)) (fun z => absurd (e.symm.trans z) (by decide)) (fun z => absurd (e.symm.trans z) (by decide))⟩
      · exact ⟨_, hd_10_4, K _ _ (cl_X h (zA_of hI) h.2 (Nat.le_refl _) (Nat.le_refl _)) (pr_Bb hI) (fr_Bb hI) (fr_B7b hI) (fr_B65b hI) (fr_B67b hI) (fun z => absurd (e.symm.trans z) (by decide)) (fun z => absurd (e.symm.trans z) (by decide)) (fun z => absurd (e.symm.trans z) (by decide)) (fun _ => ⟨rx0, (L_kp (S₉ := S₉) (Ay_we M_88) (kwe_x rx1 rx2) rx3)⟩) (fun z => absurd (e.symm.trans z) (by decide)) (fun z => absurd (e.symm.trans z) (by decide)) (fun z => absurd (e.symm.trans z) (by decide))⟩
      ))
    · exact sp_154_64_sm_p81 (ab := aS 88 S) (fp81 := mI S 81) x0 x1 (by omega) (by omega) (zB_of h.1) e (hB (fun z => absurd (e.symm.trans z) (by decide))) rfl rfl (fun v S₉ hI _ rp0 rp1 rp2 => zi_n ⟨zG_T hI, K _ _ (cl_put (cl_A h (zA_of hI) h.2 (Nat.le_succ _) (Nat.le_add_right _ _))) (pr_B hI) (fr_B hI) (fr_B7 hI) (fr_B65 hI) (fr_B67 hI) (fun z => absurd (e.symm.trans z) (by decide)) (fun z => absurd (e.symm.trans z) (by decide)) (fun z => absurd (e.symm.trans z) (by decide)) (fun z => absurd (e.symm.trans z) (by decide)) (fun _ => ⟨rp0, (by rw [(O_o5 (zA_of hI)).2.1]; exact H_kp (S₉ := S₉) (Ay_we M_88) (kwe_y rp1) rp2)⟩) (fun z => absurd (e.symm.trans z) (by decide)) (fun z => absurd (e.symm.trans z) (by decide))⟩) (fun x S₉ hx hI rx0 rx1 rx2 rx3 => zi_x (by
      rcases hx with rfl | rfl
      · exact ⟨_, hd_10_2, K _ _ (cl_X h (zA_of hI) h.2 (Nat.le_refl _) (Nat.le_refl _)) (pr_Bb hI) (fr_Bb hI) (fr_B7b hI) (fr_B65b hI) (fr_B67b hI) (fun z => absurd (e.symm.trans z) (by decide)) (fun z => absurd (e.symm.trans z) (by decide)) (fun z => absurd (e.symm.trans z) (by decide)) (fun z => absurd (e.symm.trans z) (by decide)) (fun _ => ⟨rx0, (H_kp (S₉ := S₉) (Ay_we M_88) (kwe_x rx1 rx2) rx3)⟩) (fun z => absurd (e.symm.trans z) (by decide)) (fun z => absurd (e.symm.trans z) (by decide))⟩
      · exact ⟨_, hd_10_4, K _ _ (cl_X h (zA_of hI) h.2 (Nat.le_refl _) (Nat.le_refl _)) (pr_Bb hI) (fr_Bb hI) (fr_B7b hI) (fr_B65b hI) (fr_B67b hI) (fun z => absurd (e.symm.trans z) (by decide)) (fun z => absurd (e.symm.trans z) (by decide)) (fun z => absurd (e.symm.trans z) (by decide)) (fun z => absurd (e.symm.trans z) (by decide)) (fun _ => ⟨rx0, (H_kp (S₉ := S₉) (Ay_we M_88) (kwe_x rx1 rx2) rx3)⟩) (fun z => absurd (e.symm.trans z) (by decide)) (fun z => absurd (e.symm.trans z) (by decide))⟩
      ))
    · exact sp_154_64_sm_p82 (ab := aS 88 S) (fp82 := mI S 82) (fp83 := mI S 83) x0 x1 (by omega) (by omega) (zB_of h.1) e (hB (fun z => absurd (e.symm.trans z) (by decide))) rfl rfl rfl (fun v S₉ hI _ rp0 rp1 rp2 rp3 => zi_n ⟨zG_T hI, K _ _ (cl_put (cl_A h (zA_of hI) h.2 (Nat.le_succ _) (Nat.le_add_right _ _))) (pr_B hI) (fr_B hI) (fr_B7 hI) (fr_B65 hI) (fr_B67 hI) (fun z => absurd (e.symm.trans z) (by decide)) (fun z => absurd (e.symm.trans z) (by decide)) (fun z => absurd (e.symm.trans z) (by decide)) (fun z => absurd (e.symm.trans z) (by decide)) (fun z => absurd (e.symm.trans z) (by decide)) (fun _ => ⟨rp0, (by rw [(O_o5 (zA_of hI)).2.2.1]; exact G_kp (S₉ := S₉) (Ay_we G_88) (kwe_y rp1) rp2 rp3)⟩) (fun z => absurd (e.symm.trans z) (by decide))⟩) (fun x S₉ hx hI rx0 rx1 rx2 rx3 rx4 => zi_x (by
      rcases hx with rfl | rfl
      · exact ⟨_, hd_10_2, K _ _ (cl_X h (zA_of hI) h.2 (Nat.le_refl _) (Nat.le_refl _)) (pr_Bb hI) (fr_Bb hI) (fr_B7b hI) (fr_B65b hI) (fr_B67b hI) (fun z => absurd (e.symm.trans z) (by decide)) (fun z => absurd (e.symm.trans z) (by decide)) (fun z => absurd (e.symm.trans z) (by decide)) (fun z => absurd (e.symm.trans z) (by decide)) (fun z => absurd (e.symm.trans z) (by decide)) (fun _ => ⟨rx0, (G_kp (S₉ := S₉) (Ay_we G_88) (kwe_x rx1 rx2) rx3 rx4)⟩) (fun z => absurd (e.symm.trans z) (by decide))⟩
      · exact ⟨_, hd_10_4, K _ _ (cl_X h (zA_of hI) h.2 (Nat.le_refl _) (Nat.le_refl _)) (pr_Bb hI) (fr_Bb hI) (fr_B7b hI) (fr_B65b hI) (fr_B67b hI) (fun z => absurd (e.symm.trans z) (by decide)) (fun z => absurd (e.symm.trans z) (by decide)) (fun z => absurd (e.symm.trans z) (by decide)) (fun z => absurd (e.symm.trans z) (by decide)) (fun z => absurd (e.symm.trans z) (by decide)) (fun _ => ⟨rx0, (G_kp (S₉ := S₉) (Ay_we G_88) (kwe_x rx1 rx2) rx3 rx4)⟩) (fun z => absurd (e.symm.trans z) (by decide))⟩
      ))
    · exact sp_154_64_sk_p84 (ab := aS 88 S) (B := (T : Int)) (fq := zfP 84 (mI S)) x0 x1 (by omega) (by omega) (zB_of h.1) e (hB (fun z => absurd (e.symm.trans z) (by decide))) rfl (C_o8 T_88 (hC e).1) rfl (fun v S₉ hI _ rp0 rp1 rp2 rp3 => zi_n ⟨zG_T hI, K _ _ (cl_put (cl_A h (zA_of hI) h.2 (Nat.le_succ _) (Nat.le_add_right _ _))) (pr_B hI) (fr_B hI) (fr_B7 hI) (fr_B65 hI) (fr_B67 hI) (fun z => absurd (e.symm.trans z) (by decide)) (fun z => absurd (e.symm.trans z) (by decide)) (fun _ => ⟨rp0, (aS_o (zA_of hI)).trans (kwe_y rp2), rp3, (by rw [aS_o (zA_of hI)]; exact rp1)⟩) (fun z => absurd (e.symm.trans z) (by decide)) (fun z => absurd (e.symm.trans z) (by decide)) (fun z => absurd (e.symm.trans z) (by decide)) (fun z => absurd (e.symm.trans z) (by decide))⟩) (fun x S₉ hx hI rx0 rx1 rx2 rx3 rx4 => zi_x (by
      rcases hx with rfl | rfl
      · exact ⟨_, hd_10_2, K _ _ (cl_X h (zA_of hI) h.2 (Nat.le_refl _) (Nat.le_refl _)) (pr_Bb hI) (fr_Bb hI) (fr_B7b hI) (fr_B65b hI) (fr_B67b hI) (fun z => absurd (e.symm.trans z) (by decide)) (fun z => absurd (e.symm.trans z) (by decide)) (fun _ => ⟨rx0, (kwe_x rx1 rx3), rx4, (by show cC (aS 88 S₉) [] (kC S₉) _; rw [rx1]; exact rx2)⟩) (fun z => absurd (e.symm.trans z) (by decide)) (fun z => absurd (e.symm.trans z) (by decide)) (fun z => absurd (e.symm.trans z) (by decide)) (fun z => absurd (e.symm.trans z) (by decide))⟩
      · exact ⟨_, hd_10_4, K _ _ (cl_X h (zA_of hI) h.2 (Nat.le_refl _) (Nat.le_refl _)) (pr_Bb hI) (fr_Bb hI) (fr_B7b hI) (fr_B65b hI) (fr_B67b hI) (fun z => absurd (e.symm.trans z) (by decide)) (fun z => absurd (e.symm.trans z) (by decide)) (fun _ => ⟨rx0, (kwe_x rx1 rx3), rx4, (by show cC (aS 88 S₉) [] (kC S₉) _; rw [rx1]; exact rx2)⟩) (fun z => absurd (e.symm.trans z) (by decide)) (fun z => absurd (e.symm.trans z) (by decide)) (fun z => absurd (e.symm.trans z) (by decide)) (fun z => absurd (e.symm.trans z) (by decide))⟩
      ))
    · exact sp_154_64_s_p87 (ab := aS 88 S) x0 x1 (by omega) (by omega) (zB_of h.1) e (hB (fun z => absurd (e.symm.trans z) (by decide))) rfl (fun v S₉ hI _ rp0 rp1 => zi_n ⟨zG_T hI, K _ _ (cl_put (cl_A h (zA_of hI) h.2 (Nat.le_succ _) (Nat.le_add_right _ _))) (pr_B hI) (fr_B hI) (fr_B7 hI) (fr_B65 hI) (fr_B67 hI) (fun _ => ⟨rp0, (aS_o (zA_of hI)).trans (kwe_y rp1)⟩) (fun z => absurd (e.symm.trans z) (by decide)) (fun z => absurd (e.symm.trans z) (by decide)) (fun z => absurd (e.symm.trans z) (by decide)) (fun z => absurd (e.symm.trans z) (by decide)) (fun z => absurd (e.symm.trans z) (by decide)) (fun z => absurd (e.symm.trans z) (by decide))⟩) (fun x S₉ hx hI rx0 rx1 rx2 => zi_x (by
      rcases hx with rfl | rfl
      · exact ⟨_, hd_10_2, K _ _ (cl_X h (zA_of hI) h.2 (Nat.le_refl _) (Nat.le_refl _)) (pr_Bb hI) (fr_Bb hI) (fr_B7b hI) (fr_B65b hI) (fr_B67b hI) (fun _ => ⟨rx0, (kwe_x rx1 rx2)⟩) (fun z => absurd (e.symm.trans z) (by decide)) (fun z => absurd (e.symm.trans z) (by decide)) (fun z => absurd (e.symm.trans z) (by decide)) (fun z => absurd (e.symm.trans z) (by decide)) (fun z => absurd (e.symm.trans z) (by decide)) (fun z => absurd (e.symm.trans z) (by decide))⟩
      · exact ⟨_, hd_10_4, K _ _ (cl_X h (zA_of hI) h.2 (Nat.le_refl _) (Nat.le_refl _)) (pr_Bb hI) (fr_Bb hI) (fr_B7b hI) (fr_B65b hI) (fr_B67b hI) (fun _ => ⟨rx0, (kwe_x rx1 rx2)⟩) (fun z => absurd (e.symm.trans z) (by decide)) (fun z => absurd (e.symm.trans z) (by decide)) (fun z => absurd (e.symm.trans z) (by decide)) (fun z => absurd (e.symm.trans z) (by decide)) (fun z => absurd (e.symm.trans z) (by decide)) (fun z => absurd (e.symm.trans z) (by decide))⟩
      ))
    · exact sp_154_64_sm_p91 (ab := aS 88 S) (fp91 := mI S 91) (fp92 := mI S 92) x0 x1 (by omega) (by omega) (zB_of h.1) e (hB (fun z => absurd (e.symm.trans z) (by decide))) rfl rfl rfl (fun v S₉ hI _ rp0 rp1 rp2 rp3 => zi_n ⟨zG_T hI, K _ _ (cl_put (cl_A h (zA_of hI) h.2 (Nat.le_succ _) (Nat.le_add_right _ _))) (pr_B hI) (fr_B hI) (fr_B7 hI) (fr_B65 hI) (fr_B67 hI) (fun z => absurd (e.symm.trans z) (by decide)) (fun z => absurd (e.symm.trans z) (by decide)) (fun z => absurd (e.symm.trans z) (by decide)) (fun z => absurd (e.symm.trans z) (by decide)) (fun z => absurd (e.symm.trans z) (by decide)) (fun z => absurd (e.symm.trans z) (by decide)) (fun _ => ⟨rp0, (by rw [(O_o5 (zA_of hI)).2.2.2]; exact Z_kp (S₉ := S₉) (Ay_we Z_88) (kwe_y rp1) rp2 rp3)⟩)⟩) (fun x S₉ hx hI rx0 rx1 rx2 rx3 rx4 => zi_x (by
      rcases hx with rfl | rfl
      · exact ⟨_, hd_10_2, K _ _ (cl_X h (zA_of hI) h.2 (Nat.le_refl _) (Nat.le_refl _)) (pr_Bb hI) (fr_Bb hI) (fr_B7b hI) (fr_B65b hI) (fr_B67b hI) (fun z => absurd (e.symm.trans z) (by decide)) (fun z => absurd (e.symm.trans z) (by decide)) (fun z => absurd (e.symm.trans z) (by decide)) (fun z => absurd (e.symm.trans z) (by decide)) (fun z => absurd (e.symm.trans z) (by decide)) (fun z => absurd (e.symm.trans z) (by decide)) (fun _ => ⟨rx0, (Z_kp (S₉ := S₉) (Ay_we Z_88) (kwe_x rx1 rx2) rx3 rx4)⟩)⟩
      · exact ⟨_, hd_10_4, K _ _ (cl_X h (zA_of hI) h.2 (Nat.le_refl _) (Nat.le_refl _)) (pr_Bb hI) (fr_Bb hI) (fr_B7b hI) (fr_B65b hI) (fr_B67b hI) (fun z => absurd (e.symm.trans z) (by decide)) (fun z => absurd (e.symm.trans z) (by decide)) (fun z => absurd (e.symm.trans z) (by decide)) (fun z => absurd (e.symm.trans z) (by decide)) (fun z => absurd (e.symm.trans z) (by decide)) (fun z => absurd (e.symm.trans z) (by decide)) (fun _ => ⟨rx0, (Z_kp (S₉ := S₉) (Ay_we Z_88) (kwe_x rx1 rx2) rx3 rx4)⟩)⟩
      ))
theorem gfm_11 {X : Nat × (Nat → Int32)} {d w : Nat} {S : ma_S} {Q : Option ma_V → ma_S → Prop} (x0 : Int32) (x1 : Int32) (hd : 12 ≤ d) (hw : 470 ≤ w) (hS : zT S) (h : ma_wp X (d - 1) (w - 24) 155 0 [(0, .inr (.inr (some 64))), (1, .inl x0), (2, .inl x1)] [] S (zi (fun v2 S1 => zT S1 ∧ (Q (some (.inl (0 : Int32))) (ma_put S1 125 0 (.inr (.inl (v2.toInt64)))))) (fun x S1 => ∃ c, ma_hd method_13_code 5 x 5 [(0, 10, 13, 19), (0, 10, 17, 25)] = some c ∧ Q (some (.inl c)) S1))) : ma_fp X 11 d w 0 [(0, .inr (.inr (some 64))), (1, .inl x0), (2, .inl x1), (3, .inr (.inr (some 125)))] [] S Q := by
  refine zf_push fm_11 dF11_0 (v := .inr (.inr (some 125))) rfl ?_
  refine zf_push fm_11 dF11_1 (v := .inl (0 : Int32)) rfl ?_
  refine zf_push fm_11 dF11_2 (v := .inr (.inr (some 64))) rfl ?_
  refine zf_push fm_11 dF11_3 (v := .inl x0) rfl ?_
  refine zf_push fm_11 dF11_4 (v := .inl x1) rfl ?_
  refine zf_cv fm_11 dF11_5 v_14_54_11 hm_155 [.inl x1, .inl x0] [.inl (0 : Int32), .inr (.inr (some 125))] rfl (zT_rt hS s_64 rfl) ⟨by omega, by omega⟩ rfl (zw_mono h (zi_go ?_ ?_))
  · intro v2 S1 hv
    obtain ⟨hS1, h⟩ := hv
    refine zf_stk fm_11 dF11_8 (st₉ := [.inr (.inl (v2.toInt64)), .inl (0 : Int32), .inr (.inr (some 125))]) rfl rfl ?_
    refine zf_one fm_11 dF11_9 (oo_las (zT_is hS1 s_125) (zT_h hS1 s_125) (a := 0) rfl ⟨by decide, by decide⟩) ?_
    refine zf_goto fm_11 dF11_10 (t := 21) rfl ?_
    refine zf_push fm_11 dF11_21 (v := .inl (0 : Int32)) rfl ?_
    exact zf_iret fm_11 dF11_22 h
  · intro x S9 hx
    exact ⟨⟨by decide, rfl⟩, hx⟩
theorem fw_11 {X : Nat × (Nat → Int32)} {d w T : Nat} {S : ma_S} {Q : Option ma_V → ma_S → Prop} (x0 : Int32) (x1 : Int32) (hd : 12 ≤ d) (hw : 470 ≤ w) (h : zHsm S)  (hB : mR S 64 11 ≠ none → xB S (mR S 70)) (hC : mR S 64 11 = some 84 → cC (aT 84 S) [] (kC S) (T : Int) ∧ qI (aT 84 S)) (hV : zIv S) (hT5 : T + 1 ≤ 512) (K : ∀ (v : Int32) S₉, zCl S S₉ → mR S₉ 64 11 = mR S 64 11 → mI S₉ 64 1 = mI S 64 1 → mI S₉ 64 7 = mI S 64 7 → mI S₉ 65 = mI S 65 → (mI S₉ 67 = mI S 67 ∧ mI S₉ 68 = mI S 68) → (mR S 64 11 = some 87 → xB S₉ (mR S₉ 70) ∧ aS 88 S₉ = xSg (aS 88 S) x0 x1) → (mR S 64 11 = some 79 → xB S₉ (mR S₉ 70) ∧ aS 88 S₉ = oSg (aS 88 S) x0 x1 ∧ zfP 79 (mI S₉) = zfP 79 (mI S)) → (mR S 64 11 = some 84 → xB S₉ (mR S₉ 70) ∧ aS 88 S₉ = kSg (aS 88 S) x0 x1 ∧ zfP 84 (mI S₉) = zfP 84 (mI S) ∧ cC (aS 88 S₉) [] (kC S₉) (T : Int)) → (mR S 64 11 = some 80 → xB S₉ (mR S₉ 70) ∧ zOf (oSg (aL S) x0 x1) (aL S₉)) → (mR S 64 11 = some 81 → xB S₉ (mR S₉ 70) ∧ zOf (oSg (aH S) x0 x1) (aH S₉)) → (mR S 64 11 = some 82 → xB S₉ (mR S₉ 70) ∧ zOf (oSg (aG S) x0 x1) (aG S₉)) → (mR S 64 11 = some 91 → xB S₉ (mR S₉ 70) ∧ zOf (zX93 (oSg (aZ S) x0 x1) (mI S₉ 93)) (aZ S₉)) → Q (some (.inl v)) S₉) : ma_fp X 11 d w 0 [(0, .inr (.inr (some 64))), (1, .inl x0), (2, .inl x1), (3, .inr (.inr (some 125)))] [] S Q := by
  refine gfm_11 x0 x1 hd hw h.1.1 ?_
  rcases h.2 with e | ⟨p, hp, e⟩
  · exact sp_155_64_sx_p0 x0 x1 (by omega) (by omega) (zB_of h.1) e (fun v S₉ hI w => absurd w (by decide)) (fun x S₉ hx hI hq => zi_x (by
      rcases hx with rfl | rfl
      · exact ⟨_, hd_11_2, K _ _ (cl_X h (zA_of hI) h.2 (Nat.le_refl _) (Nat.le_refl _)) (pr_Bb hI) (fr_Bb hI) (fr_B7b hI) (fr_B65b hI) (fr_B67b hI) (fun z => absurd (e.symm.trans z) (by decide)) (fun z => absurd (e.symm.trans z) (by decide)) (fun z => absurd (e.symm.trans z) (by decide)) (fun z => absurd (e.symm.trans z) (by decide)) (fun z => absurd (e.symm.trans z) (by decide)) (fun z => absurd (e.symm.trans z) (by decide)) (fun z => absurd (e.symm.trans z) (by decide))⟩
      · exact ⟨_, hd_11_3, K _ _ (cl_X h (zA_of hI) h.2 (Nat.le_refl _) (Nat.le_refl _)) (pr_Bb hI) (fr_Bb hI) (fr_B7b hI) (fr_B65b hI) (fr_B67b hI) (fun z => absurd (e.symm.trans z) (by decide)) (fun z => absurd (e.symm.trans z) (by decide)) (fun z => absurd (e.symm.trans z) (by decide)) (fun z => absurd (e.symm.trans z) (by decide)) (fun z => absurd (e.symm.trans z) (by decide)) (fun z => absurd (e.symm.trans z) (by decide)) (fun z => absurd (e.symm.trans z) (by decide))⟩
      ))
  · simp only [zcl7, List.mem_cons, List.not_mem_nil, or_false] at hp
    rcases hp with rfl | rfl | rfl | rfl | rfl | rfl | rfl
    · exact sp_155_64_s_p79 (ab := aS 88 S) (fq := zfP 79 (mI S)) x0 x1 (by omega) (by omega) (zB_of h.1) e (hB (fun z => absurd (e.symm.trans z) (by decide))) rfl rfl (fun v S₉ hI _ rp0 rp1 rp2 => zi_n ⟨zG_T hI, K _ _ (cl_put (cl_A h (zA_of hI) h.2 (Nat.le_succ _) (Nat.le_add_right _ _))) (pr_B hI) (fr_B hI) (fr_B7 hI) (fr_B65 hI) (fr_B67 hI) (fun z => absurd (e.symm.trans z) (by decide)) (fun _ => ⟨rp0, (aS_o (zA_of hI)).trans (osg_y rp1), rp2⟩) (fun z => absurd (e.symm.trans z) (by decide)) (fun z => absurd (e.symm.trans z) (by decide)) (fun z => absurd (e.symm.trans z) (by decide)) (fun z => absurd (e.symm.trans z) (by decide)) (fun z => absurd (e.symm.trans z) (by decide))⟩) (fun x S₉ hx hI rx0 rx1 rx2 rx3 => zi_x (by
      subst hx
      exact ⟨_, hd_11_2, K _ _ (cl_X h (zA_of hI) h.2 (Nat.le_refl _) (Nat.le_refl _)) (pr_Bb hI) (fr_Bb hI) (fr_B7b hI) (fr_B65b hI) (fr_B67b hI) (fun z => absurd (e.symm.trans z) (by decide)) (fun _ => ⟨rx0, (osg_x rx1 rx2), rx3⟩) (fun z => absurd (e.symm.trans z) (by decide)) (fun z => absurd (e.symm.trans z) (by decide)) (fun z => absurd (e.symm.trans z) (by decide)) (fun z => absurd (e.symm.trans z) (by decide)) (fun z => absurd (e.symm.trans z) (by decide))⟩
      ))
    · exact sp_155_64_sm_p80 (ab := aS 88 S) (fp80 := mI S 80) x0 x1 (by omega) (by omega) (zB_of h.1) e (hB (fun z => absurd (e.symm.trans z) (by decide))) rfl rfl (fun v S₉ hI _ rp0 rp1 rp2 => zi_n ⟨zG_T hI, K _ _ (cl_put (cl_A h (zA_of hI) h.2 (Nat.le_succ _) (Nat.le_add_right _ _))) (pr_B hI) (fr_B hI) (fr_B7 hI) (fr_B65 hI) (fr_B67 hI) (fun z => absurd (e.symm.trans z) (by decide)) (fun z => absurd (e.symm.trans z) (by decide)) (fun z => absurd (e.symm.trans z) (by decide)) (fun _ => ⟨rp0, (by rw [(O_o5 (zA_of hI)).1]; exact L_kp (S₉ := S₉) (Ay_sg M_88) (osg_y rp1) rp2)⟩) (fun z => absurd (e.symm.trans z) (by decide)) (fun z => absurd (e.symm.trans z) (by decide)) (fun z => absurd (e.symm.trans z) (by decide))⟩) (fun x S₉ hx hI rx0 rx1 rx2 rx3 => zi_x (by
      subst hx
      exact ⟨_, hd_11_2, K _ _ (cl_X h (zA_of hI) h.2 (Nat.le_refl _) (Nat.le_refl _)) (pr_Bb hI) (fr_Bb hI) (fr_B7b hI) (fr_B65b hI) (fr_B67b hI) (fun z => absurd (e.symm.trans z) (by decide)) (fun z => absurd (e.symm.trans z) (by decide)) (fun z => absurd (e.symm.trans z) (by decide)) (fun _ => ⟨rx0, (L_kp (S₉ := S₉) (Ay_sg M_88) (osg_x rx1 rx2) rx3)⟩) (fun z => absurd (e.symm.trans z) (by decide)) (fun z => absurd (e.symm.trans z) (by decide)) (fun z => absurd (e.symm.trans z) (by decide))⟩
      ))
    · exact sp_155_64_sm_p81 (ab := aS 88 S) (fp81 := mI S 81) x0 x1 (by omega) (by omega) (zB_of h.1) e (hB (fun z => absurd (e.symm.trans z) (by decide))) rfl rfl (fun v S₉ hI _ rp0 rp1 rp2 => zi_n ⟨zG_T hI, K _ _ (cl_put (cl_A h (zA_of hI) h.2 (Nat.le_succ _) (Nat.le_add_right _ _))) (pr_B hI) (fr_B hI) (fr_B7 hI) (fr_B65 hI) (fr_B67 hI) (fun z => absurd (e.symm.trans z) (by decide)) (fun z => absurd (e.symm.trans z) (by decide)) (fun z => absurd (e.symm.trans z) (by decide)) (fun z => absurd (e.symm.trans z) (by decide)) (fun _ => ⟨rp0, (by rw [(O_o5 (zA_of hI)).2.1]; exact H_kp (S₉ := S₉) (Ay_sg M_88) (osg_y rp1) rp2)⟩) (fun z => absurd (e.symm.trans z) (by decide)) (fun z => absurd (e.symm.trans z) (by decide))⟩) (fun x S₉ hx hI rx0 rx1 rx2 rx3 => zi_x (by
      subst hx
      exact ⟨_, hd_11_2, K _ _ (cl_X h (zA_of hI) h.2 (Nat.le_refl _) (Nat.le_refl _)) (pr_Bb hI) (fr_Bb hI) (fr_B7b hI) (fr_B65b hI) (fr_B67b hI) (fun z => absurd (e.symm.trans z) (by decide)) (fun z => absurd (e.symm.trans z) (by decide)) (fun z => absurd (e.symm.trans z) (by decide)) (fun z => absurd (e.symm.trans z) (by decide)) (fun _ => ⟨rx0, (H_kp (S₉ := S₉) (Ay_sg M_88) (osg_x rx1 rx2) rx3)⟩) (fun z => absurd (e.symm.trans z) (by decide)) (fun z => absurd (e.symm.trans z) (by decide))⟩
      ))
    · exact sp_155_64_sm_p82 (ab := aS 88 S) (fp82 := mI S 82) (fp83 := mI S 83) x0 x1 (by omega) (by omega) (zB_of h.1) e (hB (fun z => absurd (e.symm.trans z) (by decide))) rfl rfl rfl (fun v S₉ hI _ rp0 rp1 rp2 rp3 => zi_n ⟨zG_T hI, K _ _ (cl_put (cl_A h (zA_of hI) h.2 (Nat.le_succ _) (Nat.le_add_right _ _))) (pr_B hI) (fr_B hI) (fr_B7 hI) (fr_B65 hI) (fr_B67 hI) (fun z => absurd (e.symm.trans z) (by decide)) (fun z => absurd (e.symm.trans z) (by decide)) (fun z => absurd (e.symm.trans z) (by decide)) (fun z => absurd (e.symm.trans z) (by decide)) (fun z => absurd (e.symm.trans z) (by decide)) (fun _ => ⟨rp0, (by rw [(O_o5 (zA_of hI)).2.2.1]; exact G_kp (S₉ := S₉) (Ay_sg G_88) (osg_y rp1) rp2 rp3)⟩) (fun z => absurd (e.symm.trans z) (by decide))⟩) (fun x S₉ hx hI rx0 rx1 rx2 rx3 rx4 => zi_x (by
      subst hx
      exact ⟨_, hd_11_2, K _ _ (cl_X h (zA_of hI) h.2 (Nat.le_refl _) (Nat.le_refl _)) (pr_Bb hI) (fr_Bb hI) (fr_B7b hI) (fr_B65b hI) (fr_B67b hI) (fun z => absurd (e.symm.trans z) (by decide)) (fun z => absurd (e.symm.trans z) (by decide)) (fun z => absurd (e.symm.trans z) (by decide)) (fun z => absurd (e.symm.trans z) (by decide)) (fun z => absurd (e.symm.trans z) (by decide)) (fun _ => ⟨rx0, (G_kp (S₉ := S₉) (Ay_sg G_88) (osg_x rx1 rx2) rx3 rx4)⟩) (fun z => absurd (e.symm.trans z) (by decide))⟩
      ))
    · exact sp_155_64_sk_p84 (ab := aS 88 S) (B := (T : Int)) (fq := zfP 84 (mI S)) x0 x1 (by omega) (by omega) (zB_of h.1) e (hB (fun z => absurd (e.symm.trans z) (by decide))) rfl (C_o8 T_88 (hC e).1) (by omega) rfl (fun v S₉ hI _ rp0 rp1 rp2 rp3 => zi_n ⟨zG_T hI, K _ _ (cl_put (cl_A h (zA_of hI) h.2 (Nat.le_succ _) (Nat.le_add_right _ _))) (pr_B hI) (fr_B hI) (fr_B7 hI) (fr_B65 hI) (fr_B67 hI) (fun z => absurd (e.symm.trans z) (by decide)) (fun z => absurd (e.symm.trans z) (by decide)) (fun _ => ⟨rp0, (aS_o (zA_of hI)).trans (csg_y rp2), rp3, (by rw [aS_o (zA_of hI)]; exact rp1)⟩) (fun z => absurd (e.symm.trans z) (by decide)) (fun z => absurd (e.symm.trans z) (by decide)) (fun z => absurd (e.symm.trans z) (by decide)) (fun z => absurd (e.symm.trans z) (by decide))⟩) (fun x S₉ hx hI rx0 rx1 rx2 rx3 rx4 => zi_x (by
      subst hx
      exact ⟨_, hd_11_2, K _ _ (cl_X h (zA_of hI) h.2 (Nat.le_refl _) (Nat.le_refl _)) (pr_Bb hI) (fr_Bb hI) (fr_B7b hI) (fr_B65b hI) (fr_B67b hI) (fun z => absurd (e.symm.trans z) (by decide)) (fun z => absurd (e.symm.trans z) (by decide)) (fun _ => ⟨rx0, (csg_x rx1 rx3), rx4, (by show cC (aS 88 S₉) [] (kC S₉) _; rw [rx1]; exact rx2)⟩) (fun z => absurd (e.symm.trans z) (by decide)) (fun z => absurd (e.symm.trans z) (by decide)) (fun z => absurd (e.symm.trans z) (by decide)) (fun z => absurd (e.symm.trans z) (by decide))⟩
      ))
    · exact sp_155_64_s_p87 (ab := aS 88 S) x0 x1 (by omega) (by omega) (zB_of h.1) e (hB (fun z => absurd (e.symm.trans z) (by decide))) rfl (fun v S₉ hI _ rp0 rp1 => zi_n ⟨zG_T hI, K _ _ (cl_put (cl_A h (zA_of hI) h.2 (Nat.le_succ _) (Nat.le_add_right _ _))) (pr_B hI) (fr_B hI) (fr_B7 hI) (fr_B65 hI) (fr_B67 hI) (fun _ => ⟨rp0, (aS_o (zA_of hI)).trans (ksg_y rp1)⟩) (fun z => absurd (e.symm.trans z) (by decide)) (fun z => absurd (e.symm.trans z) (by decide)) (fun z => absurd (e.symm.trans z) (by decide)) (fun z => absurd (e.symm.trans z) (by decide)) (fun z => absurd (e.symm.trans z) (by decide)) (fun z => absurd (e.symm.trans z) (by decide))⟩) (fun x S₉ hx hI rx0 rx1 rx2 => zi_x (by
      subst hx
      exact ⟨_, hd_11_2, K _ _ (cl_X h (zA_of hI) h.2 (Nat.le_refl _) (Nat.le_refl _)) (pr_Bb hI) (fr_Bb hI) (fr_B7b hI) (fr_B65b hI) (fr_B67b hI) (fun _ => ⟨rx0, (ksg_x rx1 rx2)⟩) (fun z => absurd (e.symm.trans z) (by decide)) (fun z => absurd (e.symm.trans z) (by decide)) (fun z => absurd (e.symm.trans z) (by decide)) (fun z => absurd (e.symm.trans z) (by decide)) (fun z => absurd (e.symm.trans z) (by decide)) (fun z => absurd (e.symm.trans z) (by decide))⟩
      ))
    · exact sp_155_64_sm_p91 (ab := aS 88 S) (fp91 := mI S 91) (fp92 := mI S 92) x0 x1 (by omega) (by omega) (zB_of h.1) e (hB (fun z => absurd (e.symm.trans z) (by decide))) rfl rfl rfl (fun v S₉ hI _ rp0 rp1 rp2 rp3 => zi_n ⟨zG_T hI, K _ _ (cl_put (cl_A h (zA_of hI) h.2 (Nat.le_succ _) (Nat.le_add_right _ _))) (pr_B hI) (fr_B hI) (fr_B7 hI) (fr_B65 hI) (fr_B67 hI) (fun z => absurd (e.symm.trans z) (by decide)) (fun z => absurd (e.symm.trans z) (by decide)) (fun z => absurd (e.symm.trans z) (by decide)) (fun z => absurd (e.symm.trans z) (by decide)) (fun z => absurd (e.symm.trans z) (by decide)) (fun z => absurd (e.symm.trans z) (by decide)) (fun _ => ⟨rp0, (by rw [(O_o5 (zA_of hI)).2.2.2]; exact Z_kp (S₉ := S₉) (Ay_sg Z_88) (osg_y rp1) rp2 rp3)⟩)⟩) (fun x S₉ hx hI rx0 rx1 rx2 rx3 rx4 => zi_x (by
      subst hx
      exact ⟨_, hd_11_2, K _ _ (cl_X h (zA_of hI) h.2 (Nat.le_refl _) (Nat.le_refl _)) (pr_Bb hI) (fr_Bb hI) (fr_B7b hI) (fr_B65b hI) (fr_B67b hI) (fun z => absurd (e.symm.trans z) (by decide)) (fun z => absurd (e.symm.trans z) (by decide)) (fun z => absurd (e.symm.trans z) (by decide)) (fun z => absurd (e.symm.trans z) (by decide)) (fun z => absurd (e.symm.trans z) (by decide)) (fun z => absurd (e.symm.trans z) (by decide)) (fun _ => ⟨rx0, (Z_kp (S₉ := S₉) (Ay_sg Z_88) (osg_x rx1 rx2) rx3 rx4)⟩)⟩
      ))
theorem gfm_12 {X : Nat × (Nat → Int32)} {d w : Nat} {S : ma_S} {Q : Option ma_V → ma_S → Prop} (x0 : Int32) (x1 : Int32) (hd : 12 ≤ d) (hw : 470 ≤ w) (hS : zT S) (h : ma_wp X (d - 1) (w - 24) 156 0 [(0, .inr (.inr (some 64))), (1, .inl x0), (2, .inl x1)] [] S (zi (fun v2 S1 => zT S1 ∧ (Q (some (.inl (0 : Int32))) (ma_put S1 125 0 (.inr (.inl (v2.toInt64)))))) (fun x S1 => ∃ c, ma_hd method_14_code 5 x 5 [(0, 10, 13, 25), (0, 10, 17, 38), (0, 10, 21, 61)] = some c ∧ Q (some (.inl c)) S1))) : ma_fp X 12 d w 0 [(0, .inr (.inr (some 64))), (1, .inl x0), (2, .inl x1), (3, .inr (.inr (some 125)))] [] S Q := by
  refine zf_push fm_12 dF12_0 (v := .inr (.inr (some 125))) rfl ?_
  refine zf_push fm_12 dF12_1 (v := .inl (0 : Int32)) rfl ?_
  refine zf_push fm_12 dF12_2 (v := .inr (.inr (some 64))) rfl ?_
  refine zf_push fm_12 dF12_3 (v := .inl x0) rfl ?_
  refine zf_push fm_12 dF12_4 (v := .inl x1) rfl ?_
  refine zf_cv fm_12 dF12_5 v_14_57_11 hm_156 [.inl x1, .inl x0] [.inl (0 : Int32), .inr (.inr (some 125))] rfl (zT_rt hS s_64 rfl) ⟨by omega, by omega⟩ rfl (zw_mono h (zi_go ?_ ?_))
  · intro v2 S1 hv
    obtain ⟨hS1, h⟩ := hv
    refine zf_stk fm_12 dF12_8 (st₉ := [.inr (.inl (v2.toInt64)), .inl (0 : Int32), .inr (.inr (some 125))]) rfl rfl ?_
    refine zf_one fm_12 dF12_9 (oo_las (zT_is hS1 s_125) (zT_h hS1 s_125) (a := 0) rfl ⟨by decide, by decide⟩) ?_
    refine zf_goto fm_12 dF12_10 (t := 25) rfl ?_
    refine zf_push fm_12 dF12_25 (v := .inl (0 : Int32)) rfl ?_
    exact zf_iret fm_12 dF12_26 h
  · intro x S9 hx
    exact ⟨⟨by decide, rfl⟩, hx⟩
theorem fw_12 {X : Nat × (Nat → Int32)} {d w T : Nat} {S : ma_S} {Q : Option ma_V → ma_S → Prop} (x0 : Int32) (x1 : Int32) (hd : 12 ≤ d) (hw : 470 ≤ w) (h : zHsm S) (hb1 : x1 = 0 ∨ x1 = 1) (hB : mR S 64 11 ≠ none → xB S (mR S 70)) (hC : mR S 64 11 = some 84 → cC (aT 84 S) [] (kC S) (T : Int) ∧ qI (aT 84 S)) (hV : zIv S) (hT5 : T + 1 ≤ 512) (K : ∀ (v : Int32) S₉, zCl S S₉ → mR S₉ 64 11 = mR S 64 11 → mI S₉ 64 1 = mI S 64 1 → mI S₉ 64 7 = mI S 64 7 → mI S₉ 65 = mI S 65 → (mI S₉ 67 = mI S 67 ∧ mI S₉ 68 = mI S 68) → (mR S 64 11 = some 87 → xB S₉ (mR S₉ 70) ∧ aS 88 S₉ = xHo (aS 88 S) x0 x1) → (mR S 64 11 = some 79 → xB S₉ (mR S₉ 70) ∧ aS 88 S₉ = xHo (aS 88 S) x0 x1 ∧ zfP 79 (mI S₉) = zfP 79 (mI S)) → (mR S 64 11 = some 84 → xB S₉ (mR S₉ 70) ∧ aS 88 S₉ = kHo (aS 88 S) x0 x1 ∧ zfP 84 (mI S₉) = zfP 84 (mI S) ∧ cC (aS 88 S₉) [] (kC S₉) ((T : Int) + 1)) → (mR S 64 11 = some 80 → xB S₉ (mR S₉ 70) ∧ zOf (xHo (aL S) x0 x1) (aL S₉)) → (mR S 64 11 = some 81 → xB S₉ (mR S₉ 70) ∧ zOf (aH S) (aH S₉)) → (mR S 64 11 = some 82 → xB S₉ (mR S₉ 70) ∧ zOf (yHo (aG S) x0 x1) (aG S₉)) → (mR S 64 11 = some 91 → xB S₉ (mR S₉ 70) ∧ zOf (zX93 (xHo (aZ S) x0 x1) (mI S₉ 93)) (aZ S₉)) → Q (some (.inl v)) S₉) : ma_fp X 12 d w 0 [(0, .inr (.inr (some 64))), (1, .inl x0), (2, .inl x1), (3, .inr (.inr (some 125)))] [] S Q := by
  refine gfm_12 x0 x1 hd hw h.1.1 ?_
  rcases h.2 with e | ⟨p, hp, e⟩
  · exact sp_156_64_sx_p0 x0 x1 (by omega) (by omega) (zB_of h.1) e (fun v S₉ hI w => absurd w (by decide)) (fun x S₉ hx hI => zi_x (by
      subst hx
      exact ⟨_, hd_12_3, K _ _ (cl_X h (zA_of hI) h.2 (Nat.le_refl _) (Nat.le_refl _)) (pr_Bb hI) (fr_Bb hI) (fr_B7b hI) (fr_B65b hI) (fr_B67b hI) (fun z => absurd (e.symm.trans z) (by decide)) (fun z => absurd (e.symm.trans z) (by decide)) (fun z => absurd (e.symm.trans z) (by decide)) (fun z => absurd (e.symm.trans z) (by decide)) (fun z => absurd (e.symm.trans z) (by decide)) (fun z => absurd (e.symm.trans z) (by decide)) (fun z => absurd (e.symm.trans z) (by decide))⟩
      ))
  · simp only [zcl7, List.mem_cons, List.not_mem_nil, or_false] at hp
    rcases hp with rfl | rfl | rfl | rfl | rfl | rfl | rfl
    · exact sp_156_64_s_p79 (ab := aS 88 S) (fq := zfP 79 (mI S)) x0 x1 (by omega) (by omega) (zB_of h.1) e (hB (fun z => absurd (e.symm.trans z) (by decide))) rfl (i_01 hb1).1 (i_01 hb1).2 rfl (fun v S₉ hI _ rp0 rp1 rp2 => zi_n ⟨zG_T hI, K _ _ (cl_put (cl_A h (zA_of hI) h.2 (Nat.le_succ _) (Nat.le_add_right _ _))) (pr_B hI) (fr_B hI) (fr_B7 hI) (fr_B65 hI) (fr_B67 hI) (fun z => absurd (e.symm.trans z) (by decide)) (fun _ => ⟨rp0, (aS_o (zA_of hI)).trans (kho_y rp1), rp2⟩) (fun z => absurd (e.symm.trans z) (by decide)) (fun z => absurd (e.symm.trans z) (by decide)) (fun z => absurd (e.symm.trans z) (by decide)) (fun z => absurd (e.symm.trans z) (by decide)) (fun z => absurd (e.symm.trans z) (by decide))⟩) (fun x S₉ hx hI rx0 rx1 rx2 rx3 => zi_x (by
      rcases hx with rfl | rfl
      · exact ⟨_, hd_12_4, K _ _ (cl_X h (zA_of hI) h.2 (Nat.le_refl _) (Nat.le_refl _)) (pr_Bb hI) (fr_Bb hI) (fr_B7b hI) (fr_B65b hI) (fr_B67b hI) (fun z => absurd (e.symm.trans z) (by decide)) (fun _ => ⟨rx0, (kho_x rx1 rx2), rx3⟩) (fun z => absurd (e.symm.trans z) (by decide)) (fun z => absurd (e.symm.trans z) (by decide)) (fun z => absurd (e.symm.trans z) (by decide)) (fun z => absurd (e.symm.trans z) (by decide)) (fun z => absurd (e.symm.trans z) (by decide))⟩
      · exact ⟨_, hd_12_6, K _ _ (cl_X h (zA_of hI) h.2 (Nat.le_refl _) (Nat.le_refl _)) (pr_Bb hI) (fr_Bb hI) (fr_B7b hI) (fr_B65b hI) (fr_B67b hI) (fun z => absurd (e.symm.trans z) (by decide)) (fun _ => ⟨rx0, (kho_x rx1 rx2), rx3⟩) (fun z => absurd (e.symm.trans z) (by decide)) (fun z => absurd (e.symm.trans z) (by decide)) (fun z => absurd (e.symm.trans z) (by decide)) (fun z => absurd (e.symm.trans z) (by decide)) (fun z => absurd (e.symm.trans z) (by decide))⟩
      ))
    · exact sp_156_64_sm_p80 (ab := aS 88 S) (fp80 := mI S 80) x0 x1 (by omega) (by omega) (zB_of h.1) e (hB (fun z => absurd (e.symm.trans z) (by decide))) rfl (i_01 hb1).1 (i_01 hb1).2 rfl (fun v S₉ hI _ rp0 rp1 rp2 => zi_n ⟨zG_T hI, K _ _ (cl_put (cl_A h (zA_of hI) h.2 (Nat.le_succ _) (Nat.le_add_right _ _))) (pr_B hI) (fr_B hI) (fr_B7 hI) (fr_B65 hI) (fr_B67 hI) (fun z => absurd (e.symm.trans z) (by decide)) (fun z => absurd (e.symm.trans z) (by decide)) (fun z => absurd (e.symm.trans z) (by decide)) (fun _ => ⟨rp0, (by rw [(O_o5 (zA_of hI)).1]; exact L_kp (S₉ := S₉) (Ay_ho M_88) (kho_y rp1) rp2)⟩) (fun z => absurd (e.symm.trans z) (by decide)) (fun z => absurd (e.symm.trans z) (by decide)) (fun z => absurd (e.symm.trans z) (by decide))⟩) (fun x S₉ hx hI rx0 rx1 rx2 rx3 => zi_x (by
      rcases hx with rfl | rfl
      · exact ⟨_, hd_12_4, K _ _ (cl_X h (zA_of hI) h.2 (Nat.le_refl _) (Nat.le_refl _)) (pr_Bb hI) (fr_Bb hI) (fr_B7b hI) (fr_B65b hI) (fr_B67b hI) (fun z => absurd (e.symm.trans z) (by decide)) (fun z => absurd (e.symm.trans z) (by decide)) (fun z => absurd (e.symm.trans z) (by decide)) (fun _ => ⟨rx0, (L_kp (S₉ := S₉) (Ay_ho M_88) (kho_x rx1 rx2) rx3)⟩) (fun z => absurd (e.symm.trans z) (by decide)) (fun z => absurd (e.symm.trans z) (by decide)) (fun z => absurd (e.symm.trans z) (by decide))⟩
      · exact ⟨_, hd_12_6, K _ _ (cl_X h (zA_of hI) h.2 (Nat.le_refl _) (Nat.le_refl _)) (pr_Bb hI) (fr_Bb hI) (fr_B7b hI) (fr_B65b hI) (fr_B67b hI) (fun z => absurd (e.symm.trans z) (by decide)) (fun z => absurd (e.symm.trans z) (by decide)) (fun z => absurd (e.symm.trans z) (by decide)) (fun _ => ⟨rx0, (L_kp (S₉ := S₉) (Ay_ho M_88) (kho_x rx1 rx2) rx3)⟩) (fun z => absurd (e.symm.trans z) (by decide)) (fun z => absurd (e.symm.trans z) (by decide)) (fun z => absurd (e.symm.trans z) (by decide))⟩
      ))
    · exact sp_156_64_sm_p81 (ab := aS 88 S) (fp81 := mI S 81) x0 x1 (by omega) (by omega) (zB_of h.1) e (hB (fun z => absurd (e.symm.trans z) (by decide))) rfl (i_01 hb1).1 (i_01 hb1).2 rfl (fun v S₉ hI _ rp0 rp1 rp2 => rp1.elim) (fun x S₉ hx hI rx0 rx1 rx2 rx3 => zi_x (by
      rcases hx with rfl | rfl
      · exact ⟨_, hd_12_4, K _ _ (cl_X h (zA_of hI) h.2 (Nat.le_refl _) (Nat.le_refl _)) (pr_Bb hI) (fr_Bb hI) (fr_B7b hI) (fr_B65b hI) (fr_B67b hI) (fun z => absurd (e.symm.trans z) (by decide)) (fun z => absurd (e.symm.trans z) (by decide)) (fun z => absurd (e.symm.trans z) (by decide)) (fun z => absurd (e.symm.trans z) (by decide)) (fun _ => ⟨rx0, (H_kp (S₉ := S₉) Ay_H rx1 rx3)⟩) (fun z => absurd (e.symm.trans z) (by decide)) (fun z => absurd (e.symm.trans z) (by decide))⟩
      · exact ⟨_, hd_12_6, K _ _ (cl_X h (zA_of hI) h.2 (Nat.le_refl _) (Nat.le_refl _)) (pr_Bb hI) (fr_Bb hI) (fr_B7b hI) (fr_B65b hI) (fr_B67b hI) (fun z => absurd (e.symm.trans z) (by decide)) (fun z => absurd (e.symm.trans z) (by decide)) (fun z => absurd (e.symm.trans z) (by decide)) (fun z => absurd (e.symm.trans z) (by decide)) (fun _ => ⟨rx0, (H_kp (S₉ := S₉) Ay_H rx1 rx3)⟩) (fun z => absurd (e.symm.trans z) (by decide)) (fun z => absurd (e.symm.trans z) (by decide))⟩
      ))
    · exact sp_156_64_sm_p82 (ab := aS 88 S) (fp82 := mI S 82) (fp83 := mI S 83) x0 x1 (by omega) (by omega) (zB_of h.1) e (hB (fun z => absurd (e.symm.trans z) (by decide))) rfl (i_01 hb1).1 (i_01 hb1).2 rfl rfl (fun v S₉ hI _ rp0 rp1 rp2 rp3 => zi_n ⟨zG_T hI, K _ _ (cl_put (cl_A h (zA_of hI) h.2 (Nat.le_succ _) (Nat.le_add_right _ _))) (pr_B hI) (fr_B hI) (fr_B7 hI) (fr_B65 hI) (fr_B67 hI) (fun z => absurd (e.symm.trans z) (by decide)) (fun z => absurd (e.symm.trans z) (by decide)) (fun z => absurd (e.symm.trans z) (by decide)) (fun z => absurd (e.symm.trans z) (by decide)) (fun z => absurd (e.symm.trans z) (by decide)) (fun _ => ⟨rp0, (by rw [(O_o5 (zA_of hI)).2.2.1]; exact Gh_y (S₉ := S₉) ⟨rp1.1, rp1.2.1, rp1.2.2.1, rp1.2.2.2.1⟩ rp2 rp3)⟩) (fun z => absurd (e.symm.trans z) (by decide))⟩) (fun x S₉ hx hI rx0 rx1 rx2 rx3 rx4 => zi_x (by
      rcases hx with rfl | rfl
      · exact ⟨_, hd_12_4, K _ _ (cl_X h (zA_of hI) h.2 (Nat.le_refl _) (Nat.le_refl _)) (pr_Bb hI) (fr_Bb hI) (fr_B7b hI) (fr_B65b hI) (fr_B67b hI) (fun z => absurd (e.symm.trans z) (by decide)) (fun z => absurd (e.symm.trans z) (by decide)) (fun z => absurd (e.symm.trans z) (by decide)) (fun z => absurd (e.symm.trans z) (by decide)) (fun z => absurd (e.symm.trans z) (by decide)) (fun _ => ⟨rx0, (Gh_m (S₉ := S₉) rx2 rx1 rx3 rx4)⟩) (fun z => absurd (e.symm.trans z) (by decide))⟩
      · exact ⟨_, hd_12_6, K _ _ (cl_X h (zA_of hI) h.2 (Nat.le_refl _) (Nat.le_refl _)) (pr_Bb hI) (fr_Bb hI) (fr_B7b hI) (fr_B65b hI) (fr_B67b hI) (fun z => absurd (e.symm.trans z) (by decide)) (fun z => absurd (e.symm.trans z) (by decide)) (fun z => absurd (e.symm.trans z) (by decide)) (fun z => absurd (e.symm.trans z) (by decide)) (fun z => absurd (e.symm.trans z) (by decide)) (fun _ => ⟨rx0, (Gh_m (S₉ := S₉) rx2 rx1 rx3 rx4)⟩) (fun z => absurd (e.symm.trans z) (by decide))⟩
      ))
    · exact sp_156_64_sk_p84 (ab := aS 88 S) (B := (T : Int)) (fq := zfP 84 (mI S)) x0 x1 (by omega) (by omega) (zB_of h.1) e (hB (fun z => absurd (e.symm.trans z) (by decide))) rfl (C_o8 T_88 (hC e).1) (by omega) (i_01 hb1).1 (i_01 hb1).2 rfl (fun v S₉ hI _ rp0 rp1 rp2 rp3 => zi_n ⟨zG_T hI, K _ _ (cl_put (cl_A h (zA_of hI) h.2 (Nat.le_succ _) (Nat.le_add_right _ _))) (pr_B hI) (fr_B hI) (fr_B7 hI) (fr_B65 hI) (fr_B67 hI) (fun z => absurd (e.symm.trans z) (by decide)) (fun z => absurd (e.symm.trans z) (by decide)) (fun _ => ⟨rp0, (aS_o (zA_of hI)).trans (cho_y rp2), rp3, (by rw [aS_o (zA_of hI)]; exact rp1)⟩) (fun z => absurd (e.symm.trans z) (by decide)) (fun z => absurd (e.symm.trans z) (by decide)) (fun z => absurd (e.symm.trans z) (by decide)) (fun z => absurd (e.symm.trans z) (by decide))⟩) (fun x S₉ hx hI rx0 rx1 rx2 rx3 rx4 => zi_x (by
      rcases hx with rfl | rfl
      · exact ⟨_, hd_12_4, K _ _ (cl_X h (zA_of hI) h.2 (Nat.le_refl _) (Nat.le_refl _)) (pr_Bb hI) (fr_Bb hI) (fr_B7b hI) (fr_B65b hI) (fr_B67b hI) (fun z => absurd (e.symm.trans z) (by decide)) (fun z => absurd (e.symm.trans z) (by decide)) (fun _ => ⟨rx0, (cho_x rx1 rx3), rx4, (by show cC (aS 88 S₉) [] (kC S₉) _; rw [rx1]; exact C_up rx2)⟩) (fun z => absurd (e.symm.trans z) (by decide)) (fun z => absurd (e.symm.trans z) (by decide)) (fun z => absurd (e.symm.trans z) (by decide)) (fun z => absurd (e.symm.trans z) (by decide))⟩
      · exact ⟨_, hd_12_6, K _ _ (cl_X h (zA_of hI) h.2 (Nat.le_refl _) (Nat.le_refl _)) (pr_Bb hI) (fr_Bb hI) (fr_B7b hI) (fr_B65b hI) (fr_B67b hI) (fun z => absurd (e.symm.trans z) (by decide)) (fun z => absurd (e.symm.trans z) (by decide)) (fun _ => ⟨rx0, (cho_x rx1 rx3), rx4, (by show cC (aS 88 S₉) [] (kC S₉) _; rw [rx1]; exact C_up rx2)⟩) (fun z => absurd (e.symm.trans z) (by decide)) (fun z => absurd (e.symm.trans z) (by decide)) (fun z => absurd (e.symm.trans z) (by decide)) (fun z => absurd (e.symm.trans z) (by decide))⟩
      ))
    · exact sp_156_64_s_p87 (ab := aS 88 S) x0 x1 (by omega) (by omega) (zB_of h.1) e (hB (fun z => absurd (e.symm.trans z) (by decide))) rfl (i_01 hb1).1 (i_01 hb1).2 (fun v S₉ hI _ rp0 rp1 => zi_n ⟨zG_T hI, K _ _ (cl_put (cl_A h (zA_of hI) h.2 (Nat.le_succ _) (Nat.le_add_right _ _))) (pr_B hI) (fr_B hI) (fr_B7 hI) (fr_B65 hI) (fr_B67 hI) (fun _ => ⟨rp0, (aS_o (zA_of hI)).trans (kho_y rp1)⟩) (fun z => absurd (e.symm.trans z) (by decide)) (fun z => absurd (e.symm.trans z) (by decide)) (fun z => absurd (e.symm.trans z) (by decide)) (fun z => absurd (e.symm.trans z) (by decide)) (fun z => absurd (e.symm.trans z) (by decide)) (fun z => absurd (e.symm.trans z) (by decide))⟩) (fun x S₉ hx hI rx0 rx1 rx2 => zi_x (by
      rcases hx with rfl | rfl
      · exact ⟨_, hd_12_4, K _ _ (cl_X h (zA_of hI) h.2 (Nat.le_refl _) (Nat.le_refl _)) (pr_Bb hI) (fr_Bb hI) (fr_B7b hI) (fr_B65b hI) (fr_B67b hI) (fun _ => ⟨rx0, (kho_x rx1 rx2)⟩) (fun z => absurd (e.symm.trans z) (by decide)) (fun z => absurd (e.symm.trans z) (by decide)) (fun z => absurd (e.symm.trans z) (by decide)) (fun z => absurd (e.symm.trans z) (by decide)) (fun z => absurd (e.symm.trans z) (by decide)) (fun z => absurd (e.symm.trans z) (by decide))⟩
      · exact ⟨_, hd_12_6, K _ _ (cl_X h (zA_of hI) h.2 (Nat.le_refl _) (Nat.le_refl _)) (pr_Bb hI) (fr_Bb hI) (fr_B7b hI) (fr_B65b hI) (fr_B67b hI) (fun _ => ⟨rx0, (kho_x rx1 rx2)⟩) (fun z => absurd (e.symm.trans z) (by decide)) (fun z => absurd (e.symm.trans z) (by decide)) (fun z => absurd (e.symm.trans z) (by decide)) (fun z => absurd (e.symm.trans z) (by decide)) (fun z => absurd (e.symm.trans z) (by decide)) (fun z => absurd (e.symm.trans z) (by decide))⟩
      ))
    · exact sp_156_64_sm_p91 (ab := aS 88 S) (fp91 := mI S 91) (fp92 := mI S 92) x0 x1 (by omega) (by omega) (zB_of h.1) e (hB (fun z => absurd (e.symm.trans z) (by decide))) rfl (i_01 hb1).1 (i_01 hb1).2 rfl rfl (fun v S₉ hI _ rp0 rp1 rp2 rp3 => zi_n ⟨zG_T hI, K _ _ (cl_put (cl_A h (zA_of hI) h.2 (Nat.le_succ _) (Nat.le_add_right _ _))) (pr_B hI) (fr_B hI) (fr_B7 hI) (fr_B65 hI) (fr_B67 hI) (fun z => absurd (e.symm.trans z) (by decide)) (fun z => absurd (e.symm.trans z) (by decide)) (fun z => absurd (e.symm.trans z) (by decide)) (fun z => absurd (e.symm.trans z) (by decide)) (fun z => absurd (e.symm.trans z) (by decide)) (fun z => absurd (e.symm.trans z) (by decide)) (fun _ => ⟨rp0, (by rw [(O_o5 (zA_of hI)).2.2.2]; exact Z_kp (S₉ := S₉) (Ay_ho Z_88) (kho_y rp1) rp2 rp3)⟩)⟩) (fun x S₉ hx hI rx0 rx1 rx2 rx3 rx4 => zi_x (by
      rcases hx with rfl | rfl
      · exact ⟨_, hd_12_4, K _ _ (cl_X h (zA_of hI) h.2 (Nat.le_refl _) (Nat.le_refl _)) (pr_Bb hI) (fr_Bb hI) (fr_B7b hI) (fr_B65b hI) (fr_B67b hI) (fun z => absurd (e.symm.trans z) (by decide)) (fun z => absurd (e.symm.trans z) (by decide)) (fun z => absurd (e.symm.trans z) (by decide)) (fun z => absurd (e.symm.trans z) (by decide)) (fun z => absurd (e.symm.trans z) (by decide)) (fun z => absurd (e.symm.trans z) (by decide)) (fun _ => ⟨rx0, (Z_kp (S₉ := S₉) (Ay_ho Z_88) (kho_x rx1 rx2) rx3 rx4)⟩)⟩
      · exact ⟨_, hd_12_6, K _ _ (cl_X h (zA_of hI) h.2 (Nat.le_refl _) (Nat.le_refl _)) (pr_Bb hI) (fr_Bb hI) (fr_B7b hI) (fr_B65b hI) (fr_B67b hI) (fun z => absurd (e.symm.trans z) (by decide)) (fun z => absurd (e.symm.trans z) (by decide)) (fun z => absurd (e.symm.trans z) (by decide)) (fun z => absurd (e.symm.trans z) (by decide)) (fun z => absurd (e.symm.trans z) (by decide)) (fun z => absurd (e.symm.trans z) (by decide)) (fun _ => ⟨rx0, (Z_kp (S₉ := S₉) (Ay_ho Z_88) (kho_x rx1 rx2) rx3 rx4)⟩)⟩
      ))
theorem gfm_13 {X : Nat × (Nat → Int32)} {d w : Nat} {S : ma_S} {Q : Option ma_V → ma_S → Prop} (x0 : Int32) (hd : 12 ≤ d) (hw : 471 ≤ w) (hS : zT S) (h : ma_wp X (d - 1) (w - 23) 157 0 [(0, .inr (.inr (some 64))), (1, .inl x0)] [] S (zi (fun v2 S1 => zT S1 ∧ (Q (some (.inl (0 : Int32))) (ma_put S1 125 0 (.inr (.inl (v2.toInt64)))))) (fun x S1 => ∃ c, ma_hd method_15_code 4 x 4 [(0, 9, 12, 25), (0, 9, 15, 38)] = some c ∧ Q (some (.inl c)) S1))) : ma_fp X 13 d w 0 [(0, .inr (.inr (some 64))), (1, .inl x0), (2, .inr (.inr (some 125)))] [] S Q := by
  refine zf_push fm_13 dF13_0 (v := .inr (.inr (some 125))) rfl ?_
  refine zf_push fm_13 dF13_1 (v := .inl (0 : Int32)) rfl ?_
  refine zf_push fm_13 dF13_2 (v := .inr (.inr (some 64))) rfl ?_
  refine zf_push fm_13 dF13_3 (v := .inl x0) rfl ?_
  refine zf_cv fm_13 dF13_4 v_14_63_11 hm_157 [.inl x0] [.inl (0 : Int32), .inr (.inr (some 125))] rfl (zT_rt hS s_64 rfl) ⟨by omega, by omega⟩ rfl (zw_mono h (zi_go ?_ ?_))
  · intro v2 S1 hv
    obtain ⟨hS1, h⟩ := hv
    refine zf_stk fm_13 dF13_7 (st₉ := [.inr (.inl (v2.toInt64)), .inl (0 : Int32), .inr (.inr (some 125))]) rfl rfl ?_
    refine zf_one fm_13 dF13_8 (oo_las (zT_is hS1 s_125) (zT_h hS1 s_125) (a := 0) rfl ⟨by decide, by decide⟩) ?_
    refine zf_goto fm_13 dF13_9 (t := 18) rfl ?_
    refine zf_push fm_13 dF13_18 (v := .inl (0 : Int32)) rfl ?_
    exact zf_iret fm_13 dF13_19 h
  · intro x S9 hx
    exact ⟨⟨by decide, rfl⟩, hx⟩
theorem fw_13 {X : Nat × (Nat → Int32)} {d w T : Nat} {S : ma_S} {Q : Option ma_V → ma_S → Prop} (x0 : Int32) (hd : 12 ≤ d) (hw : 471 ≤ w) (h : zHsm S)  (hB : mR S 64 11 ≠ none → xB S (mR S 70)) (hC : mR S 64 11 = some 84 → cC (aT 84 S) [] (kC S) (T : Int) ∧ qI (aT 84 S)) (hV : zIv S) (hT5 : T + 1 ≤ 512) (K : ∀ (v : Int32) S₉, zCl S S₉ → mR S₉ 64 11 = mR S 64 11 → mI S₉ 64 1 = mI S 64 1 → mI S₉ 64 7 = mI S 64 7 → mI S₉ 65 = mI S 65 → (mI S₉ 67 = mI S 67 ∧ mI S₉ 68 = mI S 68) → (mR S 64 11 = some 87 → xB S₉ (mR S₉ 70) ∧ aS 88 S₉ = xWi (aS 88 S) x0) → (mR S 64 11 = some 79 → xB S₉ (mR S₉ 70) ∧ aS 88 S₉ = xWi (aS 88 S) x0 ∧ zfP 79 (mI S₉) = zfP 79 (mI S)) → (mR S 64 11 = some 84 → xB S₉ (mR S₉ 70) ∧ aS 88 S₉ = xWi (aS 88 S) x0 ∧ zfP 84 (mI S₉) = zfP 84 (mI S) ∧ cC (aS 88 S₉) [] (kC S₉) (T : Int)) → (mR S 64 11 = some 80 → xB S₉ (mR S₉ 70) ∧ zOf (xWi (aL S) x0) (aL S₉)) → (mR S 64 11 = some 81 → xB S₉ (mR S₉ 70) ∧ zOf (xWi (aH S) x0) (aH S₉)) → (mR S 64 11 = some 82 → xB S₉ (mR S₉ 70) ∧ zOf (xWi (aG S) x0) (aG S₉)) → (mR S 64 11 = some 91 → xB S₉ (mR S₉ 70) ∧ zOf (zX93 (xWi (aZ S) x0) (mI S₉ 93)) (aZ S₉)) → Q (some (.inl v)) S₉) : ma_fp X 13 d w 0 [(0, .inr (.inr (some 64))), (1, .inl x0), (2, .inr (.inr (some 125)))] [] S Q := by
  refine gfm_13 x0 hd hw h.1.1 ?_
  rcases h.2 with e | ⟨p, hp, e⟩
  · exact sp_157_64_sx_p0 x0 (by omega) (by omega) (zB_of h.1) e (fun v S₉ hI w => absurd w (by decide)) (fun x S₉ hx hI => zi_x (by
      subst hx
      exact ⟨_, hd_13_3, K _ _ (cl_X h (zA_of hI) h.2 (Nat.le_refl _) (Nat.le_refl _)) (pr_Bb hI) (fr_Bb hI) (fr_B7b hI) (fr_B65b hI) (fr_B67b hI) (fun z => absurd (e.symm.trans z) (by decide)) (fun z => absurd (e.symm.trans z) (by decide)) (fun z => absurd (e.symm.trans z) (by decide)) (fun z => absurd (e.symm.trans z) (by decide)) (fun z => absurd (e.symm.trans z) (by decide)) (fun z => absurd (e.symm.trans z) (by decide)) (fun z => absurd (e.symm.trans z) (by decide))⟩
      ))
  · simp only [zcl7, List.mem_cons, List.not_mem_nil, or_false] at hp
    rcases hp with rfl | rfl | rfl | rfl | rfl | rfl | rfl
    · exact sp_157_64_s_p79 (ab := aS 88 S) (fq := zfP 79 (mI S)) x0 (by omega) (by omega) (zB_of h.1) e (hB (fun z => absurd (e.symm.trans z) (by decide))) rfl rfl (fun v S₉ hI _ rp0 rp1 rp2 => zi_n ⟨zG_T hI, K _ _ (cl_put (cl_A h (zA_of hI) h.2 (Nat.le_succ _) (Nat.le_add_right _ _))) (pr_B hI) (fr_B hI) (fr_B7 hI) (fr_B65 hI) (fr_B67 hI) (fun z => absurd (e.symm.trans z) (by decide)) (fun _ => ⟨rp0, (aS_o (zA_of hI)).trans (kwi_y rp1), rp2⟩) (fun z => absurd (e.symm.trans z) (by decide)) (fun z => absurd (e.symm.trans z) (by decide)) (fun z => absurd (e.symm.trans z) (by decide)) (fun z => absurd (e.symm.trans z) (by decide)) (fun z => absurd (e.symm.trans z) (by decide))⟩) (fun x S₉ hx hI rx0 rx1 rx2 rx3 => zi_x (by
      subst hx
      exact ⟨_, hd_13_4, K _ _ (cl_X h (zA_of hI) h.2 (Nat.le_refl _) (Nat.le_refl _)) (pr_Bb hI) (fr_Bb hI) (fr_B7b hI) (fr_B65b hI) (fr_B67b hI) (fun z => absurd (e.symm.trans z) (by decide)) (fun _ => ⟨rx0, (kwi_x rx1 rx2), rx3⟩) (fun z => absurd (e.symm.trans z) (by decide)) (fun z => absurd (e.symm.trans z) (by decide)) (fun z => absurd (e.symm.trans z) (by decide)) (fun z => absurd (e.symm.trans z) (by decide)) (fun z => absurd (e.symm.trans z) (by decide))⟩
      ))
    · exact sp_157_64_sm_p80 (ab := aS 88 S) (fp80 := mI S 80) x0 (by omega) (by omega) (zB_of h.1) e (hB (fun z => absurd (e.symm.trans z) (by decide))) rfl rfl (fun v S₉ hI _ rp0 rp1 rp2 => zi_n ⟨zG_T hI, K _ _ (cl_put (cl_A h (zA_of hI) h.2 (Nat.le_succ _) (Nat.le_add_right _ _))) (pr_B hI) (fr_B hI) (fr_B7 hI) (fr_B65 hI) (fr_B67 hI) (fun z => absurd (e.symm.trans z) (by decide)) (fun z => absurd (e.symm.trans z) (by decide)) (fun z => absurd (e.symm.trans z) (by decide)) (fun _ => ⟨rp0, (by rw [(O_o5 (zA_of hI)).1]; exact L_kp (S₉ := S₉) (Ay_wi M_88) (kwi_y rp1) rp2)⟩) (fun z => absurd (e.symm.trans z) (by decide)) (fun z => absurd (e.symm.trans z) (by decide)) (fun z => absurd (e.symm.trans z) (by decide))⟩) (fun x S₉ hx hI rx0 rx1 rx2 rx3 => zi_x (by
      subst hx
      exact ⟨_, hd_13_4, K _ _ (cl_X h (zA_of hI) h.2 (Nat.le_refl _) (Nat.le_refl _)) (pr_Bb hI) (fr_Bb hI) (fr_B7b hI) (fr_B65b hI) (fr_B67b hI) (fun z => absurd (e.symm.trans z) (by decide)) (fun z => absurd (e.symm.trans z) (by decide)) (fun z => absurd (e.symm.trans z) (by decide)) (fun _ => ⟨rx0, (L_kp (S₉ := S₉) (Ay_wi M_88) (kwi_x rx1 rx2) rx3)⟩) (fun z => absurd (e.symm.trans z) (by decide)) (fun z => absurd (e.symm.trans z) (by decide)) (fun z => absurd (e.symm.trans z) (by decide))⟩
      ))
    · exact sp_157_64_sm_p81 (ab := aS 88 S) (fp81 := mI S 81) x0 (by omega) (by omega) (zB_of h.1) e (hB (fun z => absurd (e.symm.trans z) (by decide))) rfl rfl (fun v S₉ hI _ rp0 rp1 rp2 => zi_n ⟨zG_T hI, K _ _ (cl_put (cl_A h (zA_of hI) h.2 (Nat.le_succ _) (Nat.le_add_right _ _))) (pr_B hI) (fr_B hI) (fr_B7 hI) (fr_B65 hI) (fr_B67 hI) (fun z => absurd (e.symm.trans z) (by decide)) (fun z => absurd (e.symm.trans z) (by decide)) (fun z => absurd (e.symm.trans z) (by decide)) (fun z => absurd (e.symm.trans z) (by decide)) (fun _ => ⟨rp0, (by rw [(O_o5 (zA_of hI)).2.1]; exact H_kp (S₉ := S₉) (Ay_wi M_88) (kwi_y rp1) rp2)⟩) (fun z => absurd (e.symm.trans z) (by decide)) (fun z => absurd (e.symm.trans z) (by decide))⟩) (fun x S₉ hx hI rx0 rx1 rx2 rx3 => zi_x (by
      subst hx
      exact ⟨_, hd_13_4, K _ _ (cl_X h (zA_of hI) h.2 (Nat.le_refl _) (Nat.le_refl _)) (pr_Bb hI) (fr_Bb hI) (fr_B7b hI) (fr_B65b hI) (fr_B67b hI) (fun z => absurd (e.symm.trans z) (by decide)) (fun z => absurd (e.symm.trans z) (by decide)) (fun z => absurd (e.symm.trans z) (by decide)) (fun z => absurd (e.symm.trans z) (by decide)) (fun _ => ⟨rx0, (H_kp (S₉ := S₉) (Ay_wi M_88) (kwi_x rx1 rx2) rx3)⟩) (fun z => absurd (e.symm.trans z) (by decide)) (fun z => absurd (e.symm.trans z) (by decide))⟩
      ))
    · exact sp_157_64_sm_p82 (ab := aS 88 S) (fp82 := mI S 82) (fp83 := mI S 83) x0 (by omega) (by omega) (zB_of h.1) e (hB (fun z => absurd (e.symm.trans z) (by decide))) rfl rfl rfl (fun v S₉ hI _ rp0 rp1 rp2 rp3 => zi_n ⟨zG_T hI, K _ _ (cl_put (cl_A h (zA_of hI) h.2 (Nat.le_succ _) (Nat.le_add_right _ _))) (pr_B hI) (fr_B hI) (fr_B7 hI) (fr_B65 hI) (fr_B67 hI) (fun z => absurd (e.symm.trans z) (by decide)) (fun z => absurd (e.symm.trans z) (by decide)) (fun z => absurd (e.symm.trans z) (by decide)) (fun z => absurd (e.symm.trans z) (by decide)) (fun z => absurd (e.symm.trans z) (by decide)) (fun _ => ⟨rp0, (by rw [(O_o5 (zA_of hI)).2.2.1]; exact G_kp (S₉ := S₉) (Ay_wi G_88) (kwi_y rp1) rp2 rp3)⟩) (fun z => absurd (e.symm.trans z) (by decide))⟩) (fun x S₉ hx hI rx0 rx1 rx2 rx3 rx4 => zi_x (by
      subst hx
      exact ⟨_, hd_13_4, K _ _ (cl_X h (zA_of hI) h.2 (Nat.le_refl _) (Nat.le_refl _)) (pr_Bb hI) (fr_Bb hI) (fr_B7b hI) (fr_B65b hI) (fr_B67b hI) (fun z => absurd (e.symm.trans z) (by decide)) (fun z => absurd (e.symm.trans z) (by decide)) (fun z => absurd (e.symm.trans z) (by decide)) (fun z => absurd (e.symm.trans z) (by decide)) (fun z => absurd (e.symm.trans z) (by decide)) (fun _ => ⟨rx0, (G_kp (S₉ := S₉) (Ay_wi G_88) (kwi_x rx1 rx2) rx3 rx4)⟩) (fun z => absurd (e.symm.trans z) (by decide))⟩
      ))
    · exact sp_157_64_sk_p84 (ab := aS 88 S) (B := (T : Int)) (fq := zfP 84 (mI S)) x0 (by omega) (by omega) (zB_of h.1) e (hB (fun z => absurd (e.symm.trans z) (by decide))) rfl (C_o8 T_88 (hC e).1) rfl (fun v S₉ hI _ rp0 rp1 rp2 rp3 => zi_n ⟨zG_T hI, K _ _ (cl_put (cl_A h (zA_of hI) h.2 (Nat.le_succ _) (Nat.le_add_right _ _))) (pr_B hI) (fr_B hI) (fr_B7 hI) (fr_B65 hI) (fr_B67 hI) (fun z => absurd (e.symm.trans z) (by decide)) (fun z => absurd (e.symm.trans z) (by decide)) (fun _ => ⟨rp0, (aS_o (zA_of hI)).trans (kwi_y rp2), rp3, (by rw [aS_o (zA_of hI)]; exact rp1)⟩) (fun z => absurd (e.symm.trans z) (by decide)) (fun z => absurd (e.symm.trans z) (by decide)) (fun z => absurd (e.symm.trans z) (by decide)) (fun z => absurd (e.symm.trans z) (by decide))⟩) (fun x S₉ hx hI rx0 rx1 rx2 rx3 rx4 => zi_x (by
      subst hx
      exact ⟨_, hd_13_4, K _ _ (cl_X h (zA_of hI) h.2 (Nat.le_refl _) (Nat.le_refl _)) (pr_Bb hI) (fr_Bb hI) (fr_B7b hI) (fr_B65b hI) (fr_B67b hI) (fun z => absurd (e.symm.trans z) (by decide)) (fun z => absurd (e.symm.trans z) (by decide)) (fun _ => ⟨rx0, (kwi_x rx1 rx3), rx4, (by show cC (aS 88 S₉) [] (kC S₉) _; rw [rx1]; exact rx2)⟩) (fun z => absurd (e.symm.trans z) (by decide)) (fun z => absurd (e.symm.trans z) (by decide)) (fun z => absurd (e.symm.trans z) (by decide)) (fun z => absurd (e.symm.trans z) (by decide))⟩
      ))
    · exact sp_157_64_s_p87 (ab := aS 88 S) x0 (by omega) (by omega) (zB_of h.1) e (hB (fun z => absurd (e.symm.trans z) (by decide))) rfl (fun v S₉ hI _ rp0 rp1 => zi_n ⟨zG_T hI, K _ _ (cl_put (cl_A h (zA_of hI) h.2 (Nat.le_succ _) (Nat.le_add_right _ _))) (pr_B hI) (fr_B hI) (fr_B7 hI) (fr_B65 hI) (fr_B67 hI) (fun _ => ⟨rp0, (aS_o (zA_of hI)).trans (kwi_y rp1)⟩) (fun z => absurd (e.symm.trans z) (by decide)) (fun z => absurd (e.symm.trans z) (by decide)) (fun z => absurd (e.symm.trans z) (by decide)) (fun z => absurd (e.symm.trans z) (by decide)) (fun z => absurd (e.symm.trans z) (by decide)) (fun z => absurd (e.symm.trans z) (by decide))⟩) (fun x S₉ hx hI rx0 rx1 rx2 => zi_x (by
      subst hx
      exact ⟨_, hd_13_4, K _ _ (cl_X h (zA_of hI) h.2 (Nat.le_refl _) (Nat.le_refl _)) (pr_Bb hI) (fr_Bb hI) (fr_B7b hI) (fr_B65b hI) (fr_B67b hI) (fun _ => ⟨rx0, (kwi_x rx1 rx2)⟩) (fun z => absurd (e.symm.trans z) (by decide)) (fun z => absurd (e.symm.trans z) (by decide)) (fun z => absurd (e.symm.trans z) (by decide)) (fun z => absurd (e.symm.trans z) (by decide)) (fun z => absurd (e.symm.trans z) (by decide)) (fun z => absurd (e.symm.trans z) (by decide))⟩
      ))
    · exact sp_157_64_sm_p91 (ab := aS 88 S) (fp91 := mI S 91) (fp92 := mI S 92) x0 (by omega) (by omega) (zB_of h.1) e (hB (fun z => absurd (e.symm.trans z) (by decide))) rfl rfl rfl (fun v S₉ hI _ rp0 rp1 rp2 rp3 => zi_n ⟨zG_T hI, K _ _ (cl_put (cl_A h (zA_of hI) h.2 (Nat.le_succ _) (Nat.le_add_right _ _))) (pr_B hI) (fr_B hI) (fr_B7 hI) (fr_B65 hI) (fr_B67 hI) (fun z => absurd (e.symm.trans z) (by decide)) (fun z => absurd (e.symm.trans z) (by decide)) (fun z => absurd (e.symm.trans z) (by decide)) (fun z => absurd (e.symm.trans z) (by decide)) (fun z => absurd (e.symm.trans z) (by decide)) (fun z => absurd (e.symm.trans z) (by decide)) (fun _ => ⟨rp0, (by rw [(O_o5 (zA_of hI)).2.2.2]; exact Z_kp (S₉ := S₉) (Ay_wi Z_88) (kwi_y rp1) rp2 rp3)⟩)⟩) (fun x S₉ hx hI rx0 rx1 rx2 rx3 rx4 => zi_x (by
      subst hx
      exact ⟨_, hd_13_4, K _ _ (cl_X h (zA_of hI) h.2 (Nat.le_refl _) (Nat.le_refl _)) (pr_Bb hI) (fr_Bb hI) (fr_B7b hI) (fr_B65b hI) (fr_B67b hI) (fun z => absurd (e.symm.trans z) (by decide)) (fun z => absurd (e.symm.trans z) (by decide)) (fun z => absurd (e.symm.trans z) (by decide)) (fun z => absurd (e.symm.trans z) (by decide)) (fun z => absurd (e.symm.trans z) (by decide)) (fun z => absurd (e.symm.trans z) (by decide)) (fun _ => ⟨rx0, (Z_kp (S₉ := S₉) (Ay_wi Z_88) (kwi_x rx1 rx2) rx3 rx4)⟩)⟩
      ))
theorem gfm_14 {X : Nat × (Nat → Int32)} {d w : Nat} {S : ma_S} {Q : Option ma_V → ma_S → Prop} (x0 : Int32) (hd : 12 ≤ d) (hw : 471 ≤ w) (hS : zT S) (h : ma_wp X (d - 1) (w - 23) 158 0 [(0, .inr (.inr (some 64))), (1, .inl x0)] [] S (zi (fun v2 S1 => zT S1 ∧ (Q (some (.inl (0 : Int32))) (ma_put S1 125 0 (.inr (.inl (v2.toInt64)))))) (fun x S1 => ∃ c, ma_hd method_16_code 4 x 4 [(0, 9, 12, 19), (0, 9, 15, 25)] = some c ∧ Q (some (.inl c)) S1))) : ma_fp X 14 d w 0 [(0, .inr (.inr (some 64))), (1, .inl x0), (2, .inr (.inr (some 125)))] [] S Q := by
  refine zf_push fm_14 dF14_0 (v := .inr (.inr (some 125))) rfl ?_
  refine zf_push fm_14 dF14_1 (v := .inl (0 : Int32)) rfl ?_
  refine zf_push fm_14 dF14_2 (v := .inr (.inr (some 64))) rfl ?_
  refine zf_push fm_14 dF14_3 (v := .inl x0) rfl ?_
  refine zf_cv fm_14 dF14_4 v_14_66_11 hm_158 [.inl x0] [.inl (0 : Int32), .inr (.inr (some 125))] rfl (zT_rt hS s_64 rfl) ⟨by omega, by omega⟩ rfl (zw_mono h (zi_go ?_ ?_))
  · intro v2 S1 hv
    obtain ⟨hS1, h⟩ := hv
    refine zf_stk fm_14 dF14_7 (st₉ := [.inr (.inl (v2.toInt64)), .inl (0 : Int32), .inr (.inr (some 125))]) rfl rfl ?_
    refine zf_one fm_14 dF14_8 (oo_las (zT_is hS1 s_125) (zT_h hS1 s_125) (a := 0) rfl ⟨by decide, by decide⟩) ?_
    refine zf_goto fm_14 dF14_9 (t := 18) rfl ?_
    refine zf_push fm_14 dF14_18 (v := .inl (0 : Int32)) rfl ?_
    exact zf_iret fm_14 dF14_19 h
  · intro x S9 hx
    exact ⟨⟨by decide, rfl⟩, hx⟩
theorem fw_14 {X : Nat × (Nat → Int32)} {d w T : Nat} {S : ma_S} {Q : Option ma_V → ma_S → Prop} (x0 : Int32) (hd : 12 ≤ d) (hw : 471 ≤ w) (h : zHsm S)  (hB : mR S 64 11 ≠ none → xB S (mR S 70)) (hC : mR S 64 11 = some 84 → cC (aT 84 S) [] (kC S) (T : Int) ∧ qI (aT 84 S)) (hV : zIv S) (hT5 : T + 1 ≤ 512) (K : ∀ (v : Int32) S₉, zCl S S₉ → mR S₉ 64 11 = mR S 64 11 → mI S₉ 64 1 = mI S 64 1 → mI S₉ 64 7 = mI S 64 7 → mI S₉ 65 = mI S 65 → (mI S₉ 67 = mI S 67 ∧ mI S₉ 68 = mI S 68) → (mR S 64 11 = some 87 → xB S₉ (mR S₉ 70) ∧ aS 88 S₉ = xGr (aS 88 S) x0) → (mR S 64 11 = some 79 → xB S₉ (mR S₉ 70) ∧ aS 88 S₉ = oGr (aS 88 S) x0 ∧ zfP 79 (mI S₉) = zfP 79 (mI S)) → (mR S 64 11 = some 84 → xB S₉ (mR S₉ 70) ∧ aS 88 S₉ = kGr (aS 88 S) x0 ∧ zfP 84 (mI S₉) = zfP 84 (mI S) ∧ cC (aS 88 S₉) [] (kC S₉) (T : Int)) → (mR S 64 11 = some 80 → xB S₉ (mR S₉ 70) ∧ zOf (oGr (aL S) x0) (aL S₉)) → (mR S 64 11 = some 81 → xB S₉ (mR S₉ 70) ∧ zOf (oGr (aH S) x0) (aH S₉)) → (mR S 64 11 = some 82 → xB S₉ (mR S₉ 70) ∧ zOf (oGr (aG S) x0) (aG S₉)) → (mR S 64 11 = some 91 → xB S₉ (mR S₉ 70) ∧ zOf (zX93 (oGr (aZ S) x0) (mI S₉ 93)) (aZ S₉)) → Q (some (.inl v)) S₉) : ma_fp X 14 d w 0 [(0, .inr (.inr (some 64))), (1, .inl x0), (2, .inr (.inr (some 125)))] [] S Q := by
  refine gfm_14 x0 hd hw h.1.1 ?_
  rcases h.2 with e | ⟨p, hp, e⟩
  · exact sp_158_64_sx_p0 x0 (by omega) (by omega) (zB_of h.1) e (fun v S₉ hI w => absurd w (by decide)) (fun x S₉ hx hI hq => zi_x (by
      rcases hx with rfl | rfl
      · exact ⟨_, hd_14_2, K _ _ (cl_X h (zA_of hI) h.2 (Nat.le_refl _) (Nat.le_refl _)) (pr_Bb hI) (fr_Bb hI) (fr_B7b hI) (fr_B65b hI) (fr_B67b hI) (fun z => absurd (e.symm.trans z) (by decide)) (fun z => absurd (e.symm.trans z) (by decide)) (fun z => absurd (e.symm.trans z) (by decide)) (fun z => absurd (e.symm.trans z) (by decide)) (fun z => absurd (e.symm.trans z) (by decide)) (fun z => absurd (e.symm.trans z) (by decide)) (fun z => absurd (e.symm.trans z) (by decide))⟩
      · exact ⟨_, hd_14_3, K _ _ (cl_X h (zA_of hI) h.2 (Nat.le_refl _) (Nat.le_refl _)) (pr_Bb hI) (fr_Bb hI) (fr_B7b hI) (fr_B65b hI) (fr_B67b hI) (fun z => absurd (e.symm.trans z) (by decide)) (fun z => absurd (e.symm.trans z) (by decide)) (fun z => absurd (e.symm.trans z) (by decide)) (fun z => absurd (e.symm.trans z) (by decide)) (fun z => absurd (e.symm.trans z) (by decide)) (fun z => absurd (e.symm.trans z) (by decide)) (fun z => absurd (e.symm.trans z) (by decide))⟩
      ))
  · simp only [zcl7, List.mem_cons, List.not_mem_nil, or_false] at hp
    rcases hp with rfl | rfl | rfl | rfl | rfl | rfl | rfl
    · exact sp_158_64_s_p79 (ab := aS 88 S) (fq := zfP 79 (mI S)) x0 (by omega) (by omega) (zB_of h.1) e (hB (fun z => absurd (e.symm.trans z) (by decide))) rfl rfl (fun v S₉ hI _ rp0 rp1 rp2 => zi_n ⟨zG_T hI, K _ _ (cl_put (cl_A h (zA_of hI) h.2 (Nat.le_succ _) (Nat.le_add_right _ _))) (pr_B hI) (fr_B hI) (fr_B7 hI) (fr_B65 hI) (fr_B67 hI) (fun z => absurd (e.symm.trans z) (by decide)) (fun _ => ⟨rp0, (aS_o (zA_of hI)).trans (ogr_y rp1), rp2⟩) (fun z => absurd (e.symm.trans z) (by decide)) (fun z => absurd (e.symm.trans z) (by decide)) (fun z => absurd (e.symm.trans z) (by decide)) (fun z => absurd (e.symm.trans z) (by decide)) (fun z => absurd (e.symm.trans z) (by decide))⟩) (fun x S₉ hx hI rx0 rx1 rx2 rx3 => zi_x (by
      subst hx
      exact ⟨_, hd_14_2, K _ _ (cl_X h (zA_of hI) h.2 (Nat.le_refl _) (Nat.le_refl _)) (pr_Bb hI) (fr_Bb hI) (fr_B7b hI) (fr_B65b hI) (fr_B67b hI) (fun z => absurd (e.symm.trans z) (by decide)) (fun _ => ⟨rx0, (ogr_x rx1 rx2), rx3⟩) (fun z => absurd (e.symm.trans z) (by decide)) (fun z => absurd (e.symm.trans z) (by decide)) (fun z => absurd (e.symm.trans z) (by decide)) (fun z => absurd (e.symm.trans z) (by decide)) (fun z => absurd (e.symm.trans z) (by decide))⟩
      ))
    · exact sp_158_64_sm_p80 (ab := aS 88 S) (fp80 := mI S 80) x0 (by omega) (by omega) (zB_of h.1) e (hB (fun z => absurd (e.symm.trans z) (by decide))) rfl rfl (fun v S₉ hI _ rp0 rp1 rp2 => zi_n ⟨zG_T hI, K _ _ (cl_put (cl_A h (zA_of hI) h.2 (Nat.le_succ _) (Nat.le_add_right _ _))) (pr_B hI) (fr_B hI) (fr_B7 hI) (fr_B65 hI) (fr_B67 hI) (fun z => absurd (e.symm.trans z) (by decide)) (fun z => absurd (e.symm.trans z) (by decide)) (fun z => absurd (e.symm.trans z) (by decide)) (fun _ => ⟨rp0, (by rw [(O_o5 (zA_of hI)).1]; exact L_kp (S₉ := S₉) (Ay_gr M_88) (ogr_y rp1) rp2)⟩) (fun z => absurd (e.symm.trans z) (by decide)) (fun z => absurd (e.symm.trans z) (by decide)) (fun z => absurd (e.symm.trans z) (by decide))⟩) (fun x S₉ hx hI rx0 rx1 rx2 rx3 => zi_x (by
      subst hx
      exact ⟨_, hd_14_2, K _ _ (cl_X h (zA_of hI) h.2 (Nat.le_refl _) (Nat.le_refl _)) (pr_Bb hI) (fr_Bb hI) (fr_B7b hI) (fr_B65b hI) (fr_B67b hI) (fun z => absurd (e.symm.trans z) (by decide)) (fun z => absurd (e.symm.trans z) (by decide)) (fun z => absurd (e.symm.trans z) (by decide)) (fun _ => ⟨rx0, (L_kp (S₉ := S₉) (Ay_gr M_88) (ogr_x rx1 rx2) rx3)⟩) (fun z => absurd (e.symm.trans z) (by decide)) (fun z => absurd (e.symm.trans z) (by decide)) (fun z => absurd (e.symm.trans z) (by decide))⟩
      ))
    · exact sp_158_64_sm_p81 (ab := aS 88 S) (fp81 := mI S 81) x0 (by omega) (by omega) (zB_of h.1) e (hB (fun z => absurd (e.symm.trans z) (by decide))) rfl rfl (fun v S₉ hI _ rp0 rp1 rp2 => zi_n ⟨zG_T hI, K _ _ (cl_put (cl_A h (zA_of hI) h.2 (Nat.le_succ _) (Nat.le_add_right _ _))) (pr_B hI) (fr_B hI) (fr_B7 hI) (fr_B65 hI) (fr_B67 hI) (fun z => absurd (e.symm.trans z) (by decide)) (fun z => absurd (e.symm.trans z) (by decide)) (fun z => absurd (e.symm.trans z) (by decide)) (fun z => absurd (e.symm.trans z) (by decide)) (fun _ => ⟨rp0, (by rw [(O_o5 (zA_of hI)).2.1]; exact H_kp (S₉ := S₉) (Ay_gr M_88) (ogr_y rp1) rp2)⟩) (fun z => absurd (e.symm.trans z) (by decide)) (fun z => absurd (e.symm.trans z) (by decide))⟩) (fun x S₉ hx hI rx0 rx1 rx2 rx3 => zi_x (by
      subst hx
      exact ⟨_, hd_14_2, K _ _ (cl_X h (zA_of hI) h.2 (Nat.le_refl _) (Nat.le_refl _)) (pr_Bb hI) (fr_Bb hI) (fr_B7b hI) (fr_B65b hI) (fr_B67b hI) (fun z => absurd (e.symm.trans z) (by decide)) (fun z => absurd (e.symm.trans z) (by decide)) (fun z => absurd (e.symm.trans z) (by decide)) (fun z => absurd (e.symm.trans z) (by decide)) (fun _ => ⟨rx0, (H_kp (S₉ := S₉) (Ay_gr M_88) (ogr_x rx1 rx2) rx3)⟩) (fun z => absurd (e.symm.trans z) (by decide)) (fun z => absurd (e.symm.trans z) (by decide))⟩
      ))
    · exact sp_158_64_sm_p82 (ab := aS 88 S) (fp82 := mI S 82) (fp83 := mI S 83) x0 (by omega) (by omega) (zB_of h.1) e (hB (fun z => absurd (e.symm.trans z) (by decide))) rfl rfl rfl (fun v S₉ hI _ rp0 rp1 rp2 rp3 => zi_n ⟨zG_T hI, K _ _ (cl_put (cl_A h (zA_of hI) h.2 (Nat.le_succ _) (Nat.le_add_right _ _))) (pr_B hI) (fr_B hI) (fr_B7 hI) (fr_B65 hI) (fr_B67 hI) (fun z => absurd (e.symm.trans z) (by decide)) (fun z => absurd (e.symm.trans z) (by decide)) (fun z => absurd (e.symm.trans z) (by decide)) (fun z => absurd (e.symm.trans z) (by decide)) (fun z => absurd (e.symm.trans z) (by decide)) (fun _ => ⟨rp0, (by rw [(O_o5 (zA_of hI)).2.2.1]; exact G_kp (S₉ := S₉) (Ay_gr G_88) (ogr_y rp1) rp2 rp3)⟩) (fun z => absurd (e.symm.trans z) (by decide))⟩) (fun x S₉ hx hI rx0 rx1 rx2 rx3 rx4 => zi_x (by
      subst hx
      exact ⟨_, hd_14_2, K _ _ (cl_X h (zA_of hI) h.2 (Nat.le_refl _) (Nat.le_refl _)) (pr_Bb hI) (fr_Bb hI) (fr_B7b hI) (fr_B65b hI) (fr_B67b hI) (fun z => absurd (e.symm.trans z) (by decide)) (fun z => absurd (e.symm.trans z) (by decide)) (fun z => absurd (e.symm.trans z) (by decide)) (fun z => absurd (e.symm.trans z) (by decide)) (fun z => absurd (e.symm.trans z) (by decide)) (fun _ => ⟨rx0, (G_kp (S₉ := S₉) (Ay_gr G_88) (ogr_x rx1 rx2) rx3 rx4)⟩) (fun z => absurd (e.symm.trans z) (by decide))⟩
      ))
    · exact sp_158_64_sk_p84 (ab := aS 88 S) (B := (T : Int)) (fq := zfP 84 (mI S)) x0 (by omega) (by omega) (zB_of h.1) e (hB (fun z => absurd (e.symm.trans z) (by decide))) rfl (C_o8 T_88 (hC e).1) (by omega) rfl (fun v S₉ hI _ rp0 rp1 rp2 rp3 => zi_n ⟨zG_T hI, K _ _ (cl_put (cl_A h (zA_of hI) h.2 (Nat.le_succ _) (Nat.le_add_right _ _))) (pr_B hI) (fr_B hI) (fr_B7 hI) (fr_B65 hI) (fr_B67 hI) (fun z => absurd (e.symm.trans z) (by decide)) (fun z => absurd (e.symm.trans z) (by decide)) (fun _ => ⟨rp0, (aS_o (zA_of hI)).trans (cgr_y rp2), rp3, (by rw [aS_o (zA_of hI)]; exact rp1)⟩) (fun z => absurd (e.symm.trans z) (by decide)) (fun z => absurd (e.symm.trans z) (by decide)) (fun z => absurd (e.symm.trans z) (by decide)) (fun z => absurd (e.symm.trans z) (by decide))⟩) (fun x S₉ hx hI rx0 rx1 rx2 rx3 rx4 => zi_x (by
      subst hx
      exact ⟨_, hd_14_2, K _ _ (cl_X h (zA_of hI) h.2 (Nat.le_refl _) (Nat.le_refl _)) (pr_Bb hI) (fr_Bb hI) (fr_B7b hI) (fr_B65b hI) (fr_B67b hI) (fun z => absurd (e.symm.trans z) (by decide)) (fun z => absurd (e.symm.trans z) (by decide)) (fun _ => ⟨rx0, (cgr_x rx1 rx3), rx4, (by show cC (aS 88 S₉) [] (kC S₉) _; rw [rx1]; exact rx2)⟩) (fun z => absurd (e.symm.trans z) (by decide)) (fun z => absurd (e.symm.trans z) (by decide)) (fun z => absurd (e.symm.trans z) (by decide)) (fun z => absurd (e.symm.trans z) (by decide))⟩
      ))
    · exact sp_158_64_s_p87 (ab := aS 88 S) x0 (by omega) (by omega) (zB_of h.1) e (hB (fun z => absurd (e.symm.trans z) (by decide))) rfl (fun v S₉ hI _ rp0 rp1 => zi_n ⟨zG_T hI, K _ _ (cl_put (cl_A h (zA_of hI) h.2 (Nat.le_succ _) (Nat.le_add_right _ _))) (pr_B hI) (fr_B hI) (fr_B7 hI) (fr_B65 hI) (fr_B67 hI) (fun _ => ⟨rp0, (aS_o (zA_of hI)).trans (kgr_y rp1)⟩) (fun z => absurd (e.symm.trans z) (by decide)) (fun z => absurd (e.symm.trans z) (by decide)) (fun z => absurd (e.symm.trans z) (by decide)) (fun z => absurd (e.symm.trans z) (by decide)) (fun z => absurd (e.symm.trans z) (by decide)) (fun z => absurd (e.symm.trans z) (by decide))⟩) (fun x S₉ hx hI rx0 rx1 rx2 => zi_x (by
      subst hx
      exact ⟨_, hd_14_2, K _ _ (cl_X h (zA_of hI) h.2 (Nat.le_refl _) (Nat.le_refl _)) (pr_Bb hI) (fr_Bb hI) (fr_B7b hI) (fr_B65b hI) (fr_B67b hI) (fun _ => ⟨rx0, (kgr_x rx1 rx2)⟩) (fun z => absurd (e.symm.trans z) (by decide)) (fun z => absurd (e.symm.trans z) (by decide)) (fun z => absurd (e.symm.trans z) (by decide)) (fun z => absurd (e.symm.trans z) (by decide)) (fun z => absurd (e.symm.trans z) (by decide)) (fun z => absurd (e.symm.trans z) (by decide))⟩
      ))
    · exact sp_158_64_sm_p91 (ab := aS 88 S) (fp91 := mI S 91) (fp92 := mI S 92) x0 (by omega) (by omega) (zB_of h.1) e (hB (fun z => absurd (e.symm.trans z) (by decide))) rfl rfl rfl (fun v S₉ hI _ rp0 rp1 rp2 rp3 => zi_n ⟨zG_T hI, K _ _ (cl_put (cl_A h (zA_of hI) h.2 (Nat.le_succ _) (Nat.le_add_right _ _))) (pr_B hI) (fr_B hI) (fr_B7 hI) (fr_B65 hI) (fr_B67 hI) (fun z => absurd (e.symm.trans z) (by decide)) (fun z => absurd (e.symm.trans z) (by decide)) (fun z => absurd (e.symm.trans z) (by decide)) (fun z => absurd (e.symm.trans z) (by decide)) (fun z => absurd (e.symm.trans z) (by decide)) (fun z => absurd (e.symm.trans z) (by decide)) (fun _ => ⟨rp0, (by rw [(O_o5 (zA_of hI)).2.2.2]; exact Z_kp (S₉ := S₉) (Ay_gr Z_88) (ogr_y rp1) rp2 rp3)⟩)⟩) (fun x S₉ hx hI rx0 rx1 rx2 rx3 rx4 => zi_x (by
      subst hx
      exact ⟨_, hd_14_2, K _ _ (cl_X h (zA_of hI) h.2 (Nat.le_refl _) (Nat.le_refl _)) (pr_Bb hI) (fr_Bb hI) (fr_B7b hI) (fr_B65b hI) (fr_B67b hI) (fun z => absurd (e.symm.trans z) (by decide)) (fun z => absurd (e.symm.trans z) (by decide)) (fun z => absurd (e.symm.trans z) (by decide)) (fun z => absurd (e.symm.trans z) (by decide)) (fun z => absurd (e.symm.trans z) (by decide)) (fun z => absurd (e.symm.trans z) (by decide)) (fun _ => ⟨rx0, (Z_kp (S₉ := S₉) (Ay_gr Z_88) (ogr_x rx1 rx2) rx3 rx4)⟩)⟩
      ))
theorem gfm_15 {X : Nat × (Nat → Int32)} {d w : Nat} {S : ma_S} {Q : Option ma_V → ma_S → Prop}  (hd : 12 ≤ d) (hw : 472 ≤ w) (hS : zT S) (h : ma_wp X (d - 1) (w - 20) 159 0 [(0, .inr (.inr (some 64)))] [] S (zi (fun v2 S1 => zT S1 ∧ (Q (some (.inl (0 : Int32))) (ma_put S1 125 0 (.inr (.inl (v2.toInt64)))))) (fun x S1 => ∃ c, ma_hd method_17_code 3 x 3 [(0, 8, 11, 25)] = some c ∧ Q (some (.inl c)) S1))) : ma_fp X 15 d w 0 [(0, .inr (.inr (some 64))), (1, .inr (.inr (some 125)))] [] S Q := by
  refine zf_push fm_15 dF15_0 (v := .inr (.inr (some 125))) rfl ?_
  refine zf_push fm_15 dF15_1 (v := .inl (0 : Int32)) rfl ?_
  refine zf_push fm_15 dF15_2 (v := .inr (.inr (some 64))) rfl ?_
  refine zf_cv fm_15 dF15_3 v_14_69_11 hm_159 [] [.inl (0 : Int32), .inr (.inr (some 125))] rfl (zT_rt hS s_64 rfl) ⟨by omega, by omega⟩ rfl (zw_mono h (zi_go ?_ ?_))
  · intro v2 S1 hv
    obtain ⟨hS1, h⟩ := hv
    refine zf_stk fm_15 dF15_6 (st₉ := [.inr (.inl (v2.toInt64)), .inl (0 : Int32), .inr (.inr (some 125))]) rfl rfl ?_
    refine zf_one fm_15 dF15_7 (oo_las (zT_is hS1 s_125) (zT_h hS1 s_125) (a := 0) rfl ⟨by decide, by decide⟩) ?_
    refine zf_goto fm_15 dF15_8 (t := 14) rfl ?_
    refine zf_push fm_15 dF15_14 (v := .inl (0 : Int32)) rfl ?_
    exact zf_iret fm_15 dF15_15 h
  · intro x S9 hx
    exact ⟨⟨by decide, rfl⟩, hx⟩
theorem fw_15 {X : Nat × (Nat → Int32)} {d w T : Nat} {S : ma_S} {Q : Option ma_V → ma_S → Prop}  (hd : 12 ≤ d) (hw : 472 ≤ w) (h : zHsm S)  (hB : mR S 64 11 ≠ none → xB S (mR S 70)) (hC : mR S 64 11 = some 84 → cC (aT 84 S) [] (kC S) (T : Int) ∧ qI (aT 84 S)) (hV : zIv S) (hT5 : T + 1 ≤ 512) (K : ∀ (v : Int32) S₉, zCl S S₉ → mR S₉ 64 11 = mR S 64 11 → mI S₉ 64 1 = mI S 64 1 → mI S₉ 64 7 = mI S 64 7 → mI S₉ 65 = mI S 65 → (mI S₉ 67 = mI S 67 ∧ mI S₉ 68 = mI S 68) → (mR S 64 11 = some 87 → xB S₉ (mR S₉ 70) ∧ aS 88 S₉ = aCl (aS 88 S)) → (mR S 64 11 = some 79 → xB S₉ (mR S₉ 70) ∧ aT 79 S₉ = aSw (aT 79 S)) → (mR S 64 11 = some 84 → xB S₉ (mR S₉ 70) ∧ aT 84 S₉ = aSw (aT 84 S) ∧ cC (aT 84 S₉) [] (kC S₉) (T : Int)) → (mR S 64 11 = some 80 → xB S₉ (mR S₉ 70) ∧ zOf (lCl (aL S)) (aL S₉)) → (mR S 64 11 = some 81 → xB S₉ (mR S₉ 70) ∧ zOf (hCl (aH S)) (aH S₉)) → (mR S 64 11 = some 82 → xB S₉ (mR S₉ 70) ∧ zOf (gMi (gMa (aG S))) (aG S₉)) → (mR S 64 11 = some 91 → xB S₉ (mR S₉ 70) ∧ zOf (rCl (aZ S)) (aZ S₉)) → Q (some (.inl v)) S₉) : ma_fp X 15 d w 0 [(0, .inr (.inr (some 64))), (1, .inr (.inr (some 125)))] [] S Q := by
  refine gfm_15  hd hw h.1.1 ?_
  rcases h.2 with e | ⟨p, hp, e⟩
  · exact sp_159_64_sx_p0  (by omega) (by omega) (zB_of h.1) e (fun v S₉ hI w => absurd w (by decide)) (fun x S₉ hx hI => zi_x (by
      subst hx
      exact ⟨_, hd_15_3, K _ _ (cl_X h (zA_of hI) h.2 (Nat.le_refl _) (Nat.le_refl _)) (pr_Bb hI) (fr_Bb hI) (fr_B7b hI) (fr_B65b hI) (fr_B67b hI) (fun z => absurd (e.symm.trans z) (by decide)) (fun z => absurd (e.symm.trans z) (by decide)) (fun z => absurd (e.symm.trans z) (by decide)) (fun z => absurd (e.symm.trans z) (by decide)) (fun z => absurd (e.symm.trans z) (by decide)) (fun z => absurd (e.symm.trans z) (by decide)) (fun z => absurd (e.symm.trans z) (by decide))⟩
      ))
  · simp only [zcl7, List.mem_cons, List.not_mem_nil, or_false] at hp
    rcases hp with rfl | rfl | rfl | rfl | rfl | rfl | rfl
    · exact sp_159_64_s_p79 (ab := aT 79 S)  (by omega) (by omega) (zB_of h.1) e (hB (fun z => absurd (e.symm.trans z) (by decide))) rfl (fun v S₉ hI _ rp0 rp1 => zi_n ⟨zG_T hI, K _ _ (cl_put (cl_A h (zA_of hI) h.2 (Nat.le_succ _) (Nat.le_add_right _ _))) (pr_B hI) (fr_B hI) (fr_B7 hI) (fr_B65 hI) (fr_B67 hI) (fun z => absurd (e.symm.trans z) (by decide)) (fun _ => ⟨rp0, (T_o5 (zA_of hI)).trans (And.left rp1)⟩) (fun z => absurd (e.symm.trans z) (by decide)) (fun z => absurd (e.symm.trans z) (by decide)) (fun z => absurd (e.symm.trans z) (by decide)) (fun z => absurd (e.symm.trans z) (by decide)) (fun z => absurd (e.symm.trans z) (by decide))⟩) 
    · exact sp_159_64_sl_p80 (ab := aL S)  (by omega) (by omega) (zB_of h.1) e (hB (fun z => absurd (e.symm.trans z) (by decide))) rfl (hV.1 e) (fun v S₉ hI _ rp0 rp1 => zi_n ⟨zG_T hI, K _ _ (cl_put (cl_A h (zA_of hI) h.2 (Nat.le_succ _) (Nat.le_add_right _ _))) (pr_B hI) (fr_B hI) (fr_B7 hI) (fr_B65 hI) (fr_B67 hI) (fun z => absurd (e.symm.trans z) (by decide)) (fun z => absurd (e.symm.trans z) (by decide)) (fun z => absurd (e.symm.trans z) (by decide)) (fun _ => ⟨rp0, (by rw [(O_o5 (zA_of hI)).1]; exact Of_q5 rp1.1)⟩) (fun z => absurd (e.symm.trans z) (by decide)) (fun z => absurd (e.symm.trans z) (by decide)) (fun z => absurd (e.symm.trans z) (by decide))⟩) 
    · exact sp_159_64_sv_p81 (ab := aH S)  (by omega) (by omega) (zB_of h.1) e (hB (fun z => absurd (e.symm.trans z) (by decide))) rfl (hV.2.1 e) (fun v S₉ hI _ rp0 rp1 => zi_n ⟨zG_T hI, K _ _ (cl_put (cl_A h (zA_of hI) h.2 (Nat.le_succ _) (Nat.le_add_right _ _))) (pr_B hI) (fr_B hI) (fr_B7 hI) (fr_B65 hI) (fr_B67 hI) (fun z => absurd (e.symm.trans z) (by decide)) (fun z => absurd (e.symm.trans z) (by decide)) (fun z => absurd (e.symm.trans z) (by decide)) (fun z => absurd (e.symm.trans z) (by decide)) (fun _ => ⟨rp0, (by rw [(O_o5 (zA_of hI)).2.1]; exact Of_q5 rp1.1)⟩) (fun z => absurd (e.symm.trans z) (by decide)) (fun z => absurd (e.symm.trans z) (by decide))⟩) 
    · exact sp_159_64_sy_p82 (ab := aG S)  (by omega) (by omega) (zB_of h.1) e (hB (fun z => absurd (e.symm.trans z) (by decide))) rfl (hV.2.2.1 e) (fun v S₉ hI _ rp0 rp1 => zi_n ⟨zG_T hI, K _ _ (cl_put (cl_A h (zA_of hI) h.2 (Nat.le_succ _) (Nat.le_add_right _ _))) (pr_B hI) (fr_B hI) (fr_B7 hI) (fr_B65 hI) (fr_B67 hI) (fun z => absurd (e.symm.trans z) (by decide)) (fun z => absurd (e.symm.trans z) (by decide)) (fun z => absurd (e.symm.trans z) (by decide)) (fun z => absurd (e.symm.trans z) (by decide)) (fun z => absurd (e.symm.trans z) (by decide)) (fun _ => ⟨rp0, (by rw [(O_o5 (zA_of hI)).2.2.1]; exact Of_q5 rp1.1)⟩) (fun z => absurd (e.symm.trans z) (by decide))⟩) 
    · exact sp_159_64_sk_p84 (ab := aT 84 S) (B := (T : Int))  (by omega) (by omega) (zB_of h.1) e (hB (fun z => absurd (e.symm.trans z) (by decide))) rfl (hC e).1 (hC e).2 (fun v S₉ hI _ rp0 rp1 rp2 => zi_n ⟨zG_T hI, K _ _ (cl_put (cl_A h (zA_of hI) h.2 (Nat.le_succ _) (Nat.le_add_right _ _))) (pr_B hI) (fr_B hI) (fr_B7 hI) (fr_B65 hI) (fr_B67 hI) (fun z => absurd (e.symm.trans z) (by decide)) (fun z => absurd (e.symm.trans z) (by decide)) (fun _ => ⟨rp0, (T_o5 (zA_of hI)).trans (And.left rp1), (by rw [T_o5 (zA_of hI)]; exact rp2)⟩) (fun z => absurd (e.symm.trans z) (by decide)) (fun z => absurd (e.symm.trans z) (by decide)) (fun z => absurd (e.symm.trans z) (by decide)) (fun z => absurd (e.symm.trans z) (by decide))⟩) 
    · exact sp_159_64_s_p87 (ab := aS 88 S)  (by omega) (by omega) (zB_of h.1) e (hB (fun z => absurd (e.symm.trans z) (by decide))) rfl (fun v S₉ hI _ rp0 rp1 => zi_n ⟨zG_T hI, K _ _ (cl_put (cl_A h (zA_of hI) h.2 (Nat.le_succ _) (Nat.le_add_right _ _))) (pr_B hI) (fr_B hI) (fr_B7 hI) (fr_B65 hI) (fr_B67 hI) (fun _ => ⟨rp0, (aS_o (zA_of hI)).trans (kcl_y rp1)⟩) (fun z => absurd (e.symm.trans z) (by decide)) (fun z => absurd (e.symm.trans z) (by decide)) (fun z => absurd (e.symm.trans z) (by decide)) (fun z => absurd (e.symm.trans z) (by decide)) (fun z => absurd (e.symm.trans z) (by decide)) (fun z => absurd (e.symm.trans z) (by decide))⟩) 
    · exact sp_159_64_sz_p91 (ab := aZ S)  (by omega) (by omega) (zB_of h.1) e (hB (fun z => absurd (e.symm.trans z) (by decide))) rfl (hV.2.2.2 e) (fun v S₉ hI _ rp0 rp1 => zi_n ⟨zG_T hI, K _ _ (cl_put (cl_A h (zA_of hI) h.2 (Nat.le_succ _) (Nat.le_add_right _ _))) (pr_B hI) (fr_B hI) (fr_B7 hI) (fr_B65 hI) (fr_B67 hI) (fun z => absurd (e.symm.trans z) (by decide)) (fun z => absurd (e.symm.trans z) (by decide)) (fun z => absurd (e.symm.trans z) (by decide)) (fun z => absurd (e.symm.trans z) (by decide)) (fun z => absurd (e.symm.trans z) (by decide)) (fun z => absurd (e.symm.trans z) (by decide)) (fun _ => ⟨rp0, (by rw [(O_o5 (zA_of hI)).2.2.2]; exact Of_q5 rp1.1)⟩)⟩) 
theorem gfm_16 {X : Nat × (Nat → Int32)} {d w : Nat} {S : ma_S} {Q : Option ma_V → ma_S → Prop} (x0 : Int32) (hd : 12 ≤ d) (hw : 471 ≤ w) (hS : zT S) (h : ma_wp X (d - 1) (w - 23) 160 0 [(0, .inr (.inr (some 64))), (1, .inl x0)] [] S (zi (fun v2 S1 => zT S1 ∧ (Q (some (.inl (0 : Int32))) (ma_put S1 125 0 (.inr (.inl (v2.toInt64)))))) (fun x S1 => ∃ c, ma_hd method_18_code 4 x 4 [(0, 9, 12, 19), (0, 9, 15, 25), (0, 9, 18, 61)] = some c ∧ Q (some (.inl c)) S1))) : ma_fp X 16 d w 0 [(0, .inr (.inr (some 64))), (1, .inl x0), (2, .inr (.inr (some 125)))] [] S Q := by
  refine zf_push fm_16 dF16_0 (v := .inr (.inr (some 125))) rfl ?_
  refine zf_push fm_16 dF16_1 (v := .inl (0 : Int32)) rfl ?_
  refine zf_push fm_16 dF16_2 (v := .inr (.inr (some 64))) rfl ?_
  refine zf_push fm_16 dF16_3 (v := .inl x0) rfl ?_
  refine zf_cv fm_16 dF16_4 v_14_73_11 hm_160 [.inl x0] [.inl (0 : Int32), .inr (.inr (some 125))] rfl (zT_rt hS s_64 rfl) ⟨by omega, by omega⟩ rfl (zw_mono h (zi_go ?_ ?_))
  · intro v2 S1 hv
    obtain ⟨hS1, h⟩ := hv
    refine zf_stk fm_16 dF16_7 (st₉ := [.inr (.inl (v2.toInt64)), .inl (0 : Int32), .inr (.inr (some 125))]) rfl rfl ?_
    refine zf_one fm_16 dF16_8 (oo_las (zT_is hS1 s_125) (zT_h hS1 s_125) (a := 0) rfl ⟨by decide, by decide⟩) ?_
    refine zf_goto fm_16 dF16_9 (t := 21) rfl ?_
    refine zf_push fm_16 dF16_21 (v := .inl (0 : Int32)) rfl ?_
    exact zf_iret fm_16 dF16_22 h
  · intro x S9 hx
    exact ⟨⟨by decide, rfl⟩, hx⟩
theorem fw_16 {X : Nat × (Nat → Int32)} {d w T : Nat} {S : ma_S} {Q : Option ma_V → ma_S → Prop} (x0 : Int32) (hd : 12 ≤ d) (hw : 471 ≤ w) (h : zHsm S) (hB : mR S 64 11 ≠ none → xB S (mR S 70)) (hC : mR S 64 11 = some 84 → cC (aT 84 S) [] (kC S) (T : Int) ∧ qI (aT 84 S)) (hV : zIv S) (hT5 : T + 1 ≤ 512) (KN : ∀ (v : Int32) S₉, zCl S S₉ → mR S₉ 64 11 = mR S 64 11 → mI S₉ 64 1 = mI S 64 1 → mI S₉ 64 7 = mI S 64 7 → mI S₉ 65 = mI S 65 → (mI S₉ 67 = mI S 67 ∧ mI S₉ 68 = mI S 68) → mR S 64 11 = some 87 → (0 ≤ x0.toInt ∧ x0.toInt ≤ 1000) → xB S₉ (mR S₉ 70) → aS 88 S₉ = aGo (aS 88 S) x0.toInt.toNat → Q (some (.inl 0)) S₉) (KX : ∀ (v : Int32) S₉, zCl S S₉ → mR S₉ 64 11 = mR S 64 11 → mI S₉ 64 1 = mI S 64 1 → mI S₉ 64 7 = mI S 64 7 → mI S₉ 65 = mI S 65 → (mI S₉ 67 = mI S 67 ∧ mI S₉ 68 = mI S 68) → ((x0.toInt < 0 ∨ 1000 < x0.toInt) ∨ mR S 64 11 ≠ some 87) → (mR S 64 11 = some 87 → xB S₉ (mR S₉ 70) ∧ aS 88 S₉ = aS 88 S) → (mR S 64 11 ≠ none → mR S 64 11 ≠ some 87 → zKp S S₉ ∧ zKm S S₉) → Q (some (.inl v)) S₉) : ma_fp X 16 d w 0 [(0, .inr (.inr (some 64))), (1, .inl x0), (2, .inr (.inr (some 125)))] [] S Q := by
  refine gfm_16 x0 hd hw h.1.1 ?_
  rcases h.2 with e | ⟨p, hp, e⟩
  · exact sp_160_64_sq_p0 x0 (by omega) (by omega) (zB_of h.1) e (fun v S₉ hI w => absurd w (by decide)) (fun x S₉ hx hI hq => zi_x (by
      rcases hx with rfl | rfl
      · exact ⟨_, hd_16_2, KX _ _ (cl_X h (zA_of hI) h.2 (Nat.le_refl _) (Nat.le_refl _)) (pr_Bb hI) (fr_Bb hI) (fr_B7b hI) (fr_B65b hI) (fr_B67b hI) (Or.inl (by omega)) (fun z => absurd (e.symm.trans z) (by decide)) (fun z _ => absurd e z)⟩
      · exact ⟨_, hd_16_3, KX _ _ (cl_X h (zA_of hI) h.2 (Nat.le_refl _) (Nat.le_refl _)) (pr_Bb hI) (fr_Bb hI) (fr_B7b hI) (fr_B65b hI) (fr_B67b hI) (Or.inr (fun z => absurd (e.symm.trans z) (by decide))) (fun z => absurd (e.symm.trans z) (by decide)) (fun z _ => absurd e z)⟩
      ))
  · simp only [zcl7, List.mem_cons, List.not_mem_nil, or_false] at hp
    rcases hp with rfl | rfl | rfl | rfl | rfl | rfl | rfl
    · exact sp_160_64_sh_p79 (I0 := mI S) (L0 := mL S) (R0 := mR S 70) x0 (by omega) (by omega) (zB_of h.1) e fn9_0 (fun v S₉ hI w => absurd w (by decide)) (fun x S₉ hx hI hq rx0 => zi_x (by
      rcases hx with rfl | rfl
      · exact ⟨_, hd_16_2, KX _ _ (cl_X h (zA_of hI) h.2 (Nat.le_refl _) (Nat.le_refl _)) (pr_Bb hI) (fr_Bb hI) (fr_B7b hI) (fr_B65b hI) (fr_B67b hI) (Or.inl (by omega)) (fun z => absurd (e.symm.trans z) (by decide)) (fun _ _ => ⟨fm_kp (S₉ := S₉) rx0 h.1, fm_km (S₉ := S₉) rx0 h.1⟩)⟩
      · exact ⟨_, hd_16_6, KX _ _ (cl_X h (zA_of hI) h.2 (Nat.le_refl _) (Nat.le_refl _)) (pr_Bb hI) (fr_Bb hI) (fr_B7b hI) (fr_B65b hI) (fr_B67b hI) (Or.inr (fun z => absurd (e.symm.trans z) (by decide))) (fun z => absurd (e.symm.trans z) (by decide)) (fun _ _ => ⟨fm_kp (S₉ := S₉) rx0 h.1, fm_km (S₉ := S₉) rx0 h.1⟩)⟩
      ))
    · exact sp_160_64_sn_p80 (I0 := mI S) (L0 := mL S) (R0 := mR S 70) x0 (by omega) (by omega) (zB_of h.1) e fn9_0 (fun v S₉ hI w => absurd w (by decide)) (fun x S₉ hx hI hq rx0 => zi_x (by
      rcases hx with rfl | rfl
      · exact ⟨_, hd_16_2, KX _ _ (cl_X h (zA_of hI) h.2 (Nat.le_refl _) (Nat.le_refl _)) (pr_Bb hI) (fr_Bb hI) (fr_B7b hI) (fr_B65b hI) (fr_B67b hI) (Or.inl (by omega)) (fun z => absurd (e.symm.trans z) (by decide)) (fun _ _ => ⟨fm_kp (S₉ := S₉) rx0 h.1, fm_km (S₉ := S₉) rx0 h.1⟩)⟩
      · exact ⟨_, hd_16_6, KX _ _ (cl_X h (zA_of hI) h.2 (Nat.le_refl _) (Nat.le_refl _)) (pr_Bb hI) (fr_Bb hI) (fr_B7b hI) (fr_B65b hI) (fr_B67b hI) (Or.inr (fun z => absurd (e.symm.trans z) (by decide))) (fun z => absurd (e.symm.trans z) (by decide)) (fun _ _ => ⟨fm_kp (S₉ := S₉) rx0 h.1, fm_km (S₉ := S₉) rx0 h.1⟩)⟩
      ))
    · exact sp_160_64_sn_p81 (I0 := mI S) (L0 := mL S) (R0 := mR S 70) x0 (by omega) (by omega) (zB_of h.1) e fn9_0 (fun v S₉ hI w => absurd w (by decide)) (fun x S₉ hx hI hq rx0 => zi_x (by
      rcases hx with rfl | rfl
      · exact ⟨_, hd_16_2, KX _ _ (cl_X h (zA_of hI) h.2 (Nat.le_refl _) (Nat.le_refl _)) (pr_Bb hI) (fr_Bb hI) (fr_B7b hI) (fr_B65b hI) (fr_B67b hI) (Or.inl (by omega)) (fun z => absurd (e.symm.trans z) (by decide)) (fun _ _ => ⟨fm_kp (S₉ := S₉) rx0 h.1, fm_km (S₉ := S₉) rx0 h.1⟩)⟩
      · exact ⟨_, hd_16_6, KX _ _ (cl_X h (zA_of hI) h.2 (Nat.le_refl _) (Nat.le_refl _)) (pr_Bb hI) (fr_Bb hI) (fr_B7b hI) (fr_B65b hI) (fr_B67b hI) (Or.inr (fun z => absurd (e.symm.trans z) (by decide))) (fun z => absurd (e.symm.trans z) (by decide)) (fun _ _ => ⟨fm_kp (S₉ := S₉) rx0 h.1, fm_km (S₉ := S₉) rx0 h.1⟩)⟩
      ))
    · exact sp_160_64_sn_p82 (I0 := mI S) (L0 := mL S) (R0 := mR S 70) x0 (by omega) (by omega) (zB_of h.1) e fn9_0 (fun v S₉ hI w => absurd w (by decide)) (fun x S₉ hx hI hq rx0 => zi_x (by
      rcases hx with rfl | rfl
      · exact ⟨_, hd_16_2, KX _ _ (cl_X h (zA_of hI) h.2 (Nat.le_refl _) (Nat.le_refl _)) (pr_Bb hI) (fr_Bb hI) (fr_B7b hI) (fr_B65b hI) (fr_B67b hI) (Or.inl (by omega)) (fun z => absurd (e.symm.trans z) (by decide)) (fun _ _ => ⟨fm_kp (S₉ := S₉) rx0 h.1, fm_km (S₉ := S₉) rx0 h.1⟩)⟩
      · exact ⟨_, hd_16_6, KX _ _ (cl_X h (zA_of hI) h.2 (Nat.le_refl _) (Nat.le_refl _)) (pr_Bb hI) (fr_Bb hI) (fr_B7b hI) (fr_B65b hI) (fr_B67b hI) (Or.inr (fun z => absurd (e.symm.trans z) (by decide))) (fun z => absurd (e.symm.trans z) (by decide)) (fun _ _ => ⟨fm_kp (S₉ := S₉) rx0 h.1, fm_km (S₉ := S₉) rx0 h.1⟩)⟩
      ))
    · exact sp_160_64_sh_p84 (I0 := mI S) (L0 := mL S) (R0 := mR S 70) x0 (by omega) (by omega) (zB_of h.1) e fn9_0 (fun v S₉ hI w => absurd w (by decide)) (fun x S₉ hx hI hq rx0 => zi_x (by
      rcases hx with rfl | rfl
      · exact ⟨_, hd_16_2, KX _ _ (cl_X h (zA_of hI) h.2 (Nat.le_refl _) (Nat.le_refl _)) (pr_Bb hI) (fr_Bb hI) (fr_B7b hI) (fr_B65b hI) (fr_B67b hI) (Or.inl (by omega)) (fun z => absurd (e.symm.trans z) (by decide)) (fun _ _ => ⟨fm_kp (S₉ := S₉) rx0 h.1, fm_km (S₉ := S₉) rx0 h.1⟩)⟩
      · exact ⟨_, hd_16_6, KX _ _ (cl_X h (zA_of hI) h.2 (Nat.le_refl _) (Nat.le_refl _)) (pr_Bb hI) (fr_Bb hI) (fr_B7b hI) (fr_B65b hI) (fr_B67b hI) (Or.inr (fun z => absurd (e.symm.trans z) (by decide))) (fun z => absurd (e.symm.trans z) (by decide)) (fun _ _ => ⟨fm_kp (S₉ := S₉) rx0 h.1, fm_km (S₉ := S₉) rx0 h.1⟩)⟩
      ))
    · exact sp_160_64_s_p87 (ab := aS 88 S) x0 (by omega) (by omega) (zB_of h.1) e (hB (fun z => absurd (e.symm.trans z) (by decide))) rfl (fun v S₉ hI _ rp0 rp1 => zi_n ⟨zG_T hI, KN v _ (cl_put (cl_A h (zA_of hI) h.2 (Nat.le_succ _) (Nat.le_add_right _ _))) (pr_B hI) (fr_B hI) (fr_B7 hI) (fr_B65 hI) (fr_B67 hI) e rp1.1 rp0 ((aS_o (zA_of hI)).trans rp1.2.1)⟩) (fun x S₉ hx hI rx0 rx1 rx2 => zi_x (by
      subst hx
      exact ⟨_, hd_16_2, KX _ _ (cl_X h (zA_of hI) h.2 (Nat.le_refl _) (Nat.le_refl _)) (pr_Bb hI) (fr_Bb hI) (fr_B7b hI) (fr_B65b hI) (fr_B67b hI) (Or.inl (by have w := rx2.2; omega)) (fun _ => ⟨rx0, rx1⟩) (fun _ z => absurd e z)⟩
      ))
    · exact sp_160_64_sn_p91 (I0 := mI S) (L0 := mL S) (R0 := mR S 70) x0 (by omega) (by omega) (zB_of h.1) e fn9_0 (fun v S₉ hI w => absurd w (by decide)) (fun x S₉ hx hI hq rx0 => zi_x (by
      rcases hx with rfl | rfl
      · exact ⟨_, hd_16_2, KX _ _ (cl_X h (zA_of hI) h.2 (Nat.le_refl _) (Nat.le_refl _)) (pr_Bb hI) (fr_Bb hI) (fr_B7b hI) (fr_B65b hI) (fr_B67b hI) (Or.inl (by omega)) (fun z => absurd (e.symm.trans z) (by decide)) (fun _ _ => ⟨fm_kp (S₉ := S₉) rx0 h.1, fm_km (S₉ := S₉) rx0 h.1⟩)⟩
      · exact ⟨_, hd_16_6, KX _ _ (cl_X h (zA_of hI) h.2 (Nat.le_refl _) (Nat.le_refl _)) (pr_Bb hI) (fr_Bb hI) (fr_B7b hI) (fr_B65b hI) (fr_B67b hI) (Or.inr (fun z => absurd (e.symm.trans z) (by decide))) (fun z => absurd (e.symm.trans z) (by decide)) (fun _ _ => ⟨fm_kp (S₉ := S₉) rx0 h.1, fm_km (S₉ := S₉) rx0 h.1⟩)⟩
      ))
theorem gfm_17 {X : Nat × (Nat → Int32)} {d w : Nat} {S : ma_S} {Q : Option ma_V → ma_S → Prop} (x0 : Int32) (x1 : Int32) (hd : 12 ≤ d) (hw : 470 ≤ w) (hS : zT S) (h : ma_wp X (d - 1) (w - 24) 161 0 [(0, .inr (.inr (some 64))), (1, .inl x0), (2, .inl x1)] [] S (zi (fun v2 S1 => zT S1 ∧ (Q (some (.inl (0 : Int32))) (ma_put S1 125 0 (.inr (.inl (v2.toInt64)))))) (fun x S1 => ∃ c, ma_hd method_19_code 5 x 5 [(0, 10, 13, 19), (0, 10, 17, 25), (0, 10, 21, 38)] = some c ∧ Q (some (.inl c)) S1))) : ma_fp X 17 d w 0 [(0, .inr (.inr (some 64))), (1, .inl x0), (2, .inl x1), (3, .inr (.inr (some 125)))] [] S Q := by
  refine zf_push fm_17 dF17_0 (v := .inr (.inr (some 125))) rfl ?_
  refine zf_push fm_17 dF17_1 (v := .inl (0 : Int32)) rfl ?_
  refine zf_push fm_17 dF17_2 (v := .inr (.inr (some 64))) rfl ?_
  refine zf_push fm_17 dF17_3 (v := .inl x0) rfl ?_
  refine zf_push fm_17 dF17_4 (v := .inl x1) rfl ?_
  refine zf_cv fm_17 dF17_5 v_14_76_11 hm_161 [.inl x1, .inl x0] [.inl (0 : Int32), .inr (.inr (some 125))] rfl (zT_rt hS s_64 rfl) ⟨by omega, by omega⟩ rfl (zw_mono h (zi_go ?_ ?_))
  · intro v2 S1 hv
    obtain ⟨hS1, h⟩ := hv
    refine zf_stk fm_17 dF17_8 (st₉ := [.inr (.inl (v2.toInt64)), .inl (0 : Int32), .inr (.inr (some 125))]) rfl rfl ?_
    refine zf_one fm_17 dF17_9 (oo_las (zT_is hS1 s_125) (zT_h hS1 s_125) (a := 0) rfl ⟨by decide, by decide⟩) ?_
    refine zf_goto fm_17 dF17_10 (t := 25) rfl ?_
    refine zf_push fm_17 dF17_25 (v := .inl (0 : Int32)) rfl ?_
    exact zf_iret fm_17 dF17_26 h
  · intro x S9 hx
    exact ⟨⟨by decide, rfl⟩, hx⟩
theorem fw_17 {X : Nat × (Nat → Int32)} {d w T : Nat} {S : ma_S} {Q : Option ma_V → ma_S → Prop} (x0 : Int32) (x1 : Int32) (hd : 12 ≤ d) (hw : 470 ≤ w) (h : zHsm S)  (hB : mR S 64 11 ≠ none → xB S (mR S 70)) (hC : mR S 64 11 = some 84 → cC (aT 84 S) [] (kC S) (T : Int) ∧ qI (aT 84 S)) (hV : zIv S) (hT5 : T + 1 ≤ 512) (K : ∀ (v : Int32) S₉, zCl S S₉ → mR S₉ 64 11 = mR S 64 11 → mI S₉ 64 1 = mI S 64 1 → mI S₉ 64 7 = mI S 64 7 → mI S₉ 65 = mI S 65 → (mI S₉ 67 = mI S 67 ∧ mI S₉ 68 = mI S 68) → (mR S 64 11 = some 87 → xB S₉ (mR S₉ 70) ∧ aS 88 S₉ = aS 88 S) → (mR S 64 11 = some 79 → xB S₉ (mR S₉ 70) ∧ aS 88 S₉ = aS 88 S ∧ zfP 79 (mI S₉) = zfP 79 (mI S)) → (mR S 64 11 = some 84 → xB S₉ (mR S₉ 70) ∧ aS 88 S₉ = aS 88 S ∧ zfP 84 (mI S₉) = zfP 84 (mI S) ∧ cC (aS 88 S₉) [] (kC S₉) (T : Int)) → (mR S 64 11 = some 80 → xB S₉ (mR S₉ 70) ∧ zOf (aL S) (aL S₉)) → (mR S 64 11 = some 81 → xB S₉ (mR S₉ 70) ∧ zOf (aH S) (aH S₉)) → (mR S 64 11 = some 82 → xB S₉ (mR S₉ 70) ∧ zOf (aG S) (aG S₉)) → (mR S 64 11 = some 91 → xB S₉ (mR S₉ 70) ∧ zOf (zX93 (aZ S) (mI S₉ 93)) (aZ S₉)) → Q (some (.inl v)) S₉) : ma_fp X 17 d w 0 [(0, .inr (.inr (some 64))), (1, .inl x0), (2, .inl x1), (3, .inr (.inr (some 125)))] [] S Q := by
  refine gfm_17 x0 x1 hd hw h.1.1 ?_
  rcases h.2 with e | ⟨p, hp, e⟩
  · exact sp_161_64_p0 x0 x1 (by omega) (by omega) (zB_of h.1) e (fun v S₉ hI _ => zi_n ⟨zG_T hI, K _ _ (cl_put (cl_A h (zA_of hI) h.2 (Nat.le_succ _) (Nat.le_add_right _ _))) (pr_B hI) (fr_B hI) (fr_B7 hI) (fr_B65 hI) (fr_B67 hI) (fun z => absurd (e.symm.trans z) (by decide)) (fun z => absurd (e.symm.trans z) (by decide)) (fun z => absurd (e.symm.trans z) (by decide)) (fun z => absurd (e.symm.trans z) (by decide)) (fun z => absurd (e.symm.trans z) (by decide)) (fun z => absurd (e.symm.trans z) (by decide)) (fun z => absurd (e.symm.trans z) (by decide))⟩) (fun x S₉ hx hI => zi_x (by
      rcases hx with rfl | rfl | rfl
      · exact ⟨_, hd_17_2, K _ _ (cl_X h (zA_of hI) h.2 (Nat.le_refl _) (Nat.le_refl _)) (pr_Bb hI) (fr_Bb hI) (fr_B7b hI) (fr_B65b hI) (fr_B67b hI) (fun z => absurd (e.symm.trans z) (by decide)) (fun z => absurd (e.symm.trans z) (by decide)) (fun z => absurd (e.symm.trans z) (by decide)) (fun z => absurd (e.symm.trans z) (by decide)) (fun z => absurd (e.symm.trans z) (by decide)) (fun z => absurd (e.symm.trans z) (by decide)) (fun z => absurd (e.symm.trans z) (by decide))⟩
      · exact ⟨_, hd_17_3, K _ _ (cl_X h (zA_of hI) h.2 (Nat.le_refl _) (Nat.le_refl _)) (pr_Bb hI) (fr_Bb hI) (fr_B7b hI) (fr_B65b hI) (fr_B67b hI) (fun z => absurd (e.symm.trans z) (by decide)) (fun z => absurd (e.symm.trans z) (by decide)) (fun z => absurd (e.symm.trans z) (by decide)) (fun z => absurd (e.symm.trans z) (by decide)) (fun z => absurd (e.symm.trans z) (by decide)) (fun z => absurd (e.symm.trans z) (by decide)) (fun z => absurd (e.symm.trans z) (by decide))⟩
      · exact ⟨_, hd_17_4, K _ _ (cl_X h (zA_of hI) h.2 (Nat.le_refl _) (Nat.le_refl _)) (pr_Bb hI) (fr_Bb hI) (fr_B7b hI) (fr_B65b hI) (fr_B67b hI) (fun z => absurd (e.symm.trans z) (by decide)) (fun z => absurd (e.symm.trans z) (by decide)) (fun z => absurd (e.symm.trans z) (by decide)) (fun z => absurd (e.symm.trans z) (by decide)) (fun z => absurd (e.symm.trans z) (by decide)) (fun z => absurd (e.symm.trans z) (by decide)) (fun z => absurd (e.symm.trans z) (by decide))⟩
      ))
  · simp only [zcl7, List.mem_cons, List.not_mem_nil, or_false] at hp
    rcases hp with rfl | rfl | rfl | rfl | rfl | rfl | rfl
    · exact sp_161_64_s_p79 (ab := aS 88 S) (fq := zfP 79 (mI S)) x0 x1 (by omega) (by omega) (zB_of h.1) e (hB (fun z => absurd (e.symm.trans z) (by decide))) rfl rfl (fun v S₉ hI _ rp0 rp1 rp2 => zi_n ⟨zG_T hI, K _ _ (cl_put (cl_A h (zA_of hI) h.2 (Nat.le_succ _) (Nat.le_add_right _ _))) (pr_B hI) (fr_B hI) (fr_B7 hI) (fr_B65 hI) (fr_B67 hI) (fun z => absurd (e.symm.trans z) (by decide)) (fun _ => ⟨rp0, (aS_o (zA_of hI)).trans rp1, rp2⟩) (fun z => absurd (e.symm.trans z) (by decide)) (fun z => absurd (e.symm.trans z) (by decide)) (fun z => absurd (e.symm.trans z) (by decide)) (fun z => absurd (e.symm.trans z) (by decide)) (fun z => absurd (e.symm.trans z) (by decide))⟩) (fun x S₉ hx hI rx0 rx1 rx2 => zi_x (by
      rcases hx with rfl | rfl
      · exact ⟨_, hd_17_2, K _ _ (cl_X h (zA_of hI) h.2 (Nat.le_refl _) (Nat.le_refl _)) (pr_Bb hI) (fr_Bb hI) (fr_B7b hI) (fr_B65b hI) (fr_B67b hI) (fun z => absurd (e.symm.trans z) (by decide)) (fun _ => ⟨rx0, rx1, rx2⟩) (fun z => absurd (e.symm.trans z) (by decide)) (fun z => absurd (e.symm.trans z) (by decide)) (fun z => absurd (e.symm.trans z) (by decide)) (fun z => absurd (e.symm.trans z) (by decide)) (fun z => absurd (e.symm.trans z) (by decide))⟩
      · exact ⟨_, hd_17_4, K _ _ (cl_X h (zA_of hI) h.2 (Nat.le_refl _) (Nat.le_refl _)) (pr_Bb hI) (fr_Bb hI) (fr_B7b hI) (fr_B65b hI) (fr_B67b hI) (fun z => absurd (e.symm.trans z) (by decide)) (fun _ => ⟨rx0, rx1, rx2⟩) (fun z => absurd (e.symm.trans z) (by decide)) (fun z => absurd (e.symm.trans z) (by decide)) (fun z => absurd (e.symm.trans z) (by decide)) (fun z => absurd (e.symm.trans z) (by decide)) (fun z => absurd (e.symm.trans z) (by decide))⟩
      ))
    · exact sp_161_64_sm_p80 (ab := aS 88 S) (fp80 := mI S 80) x0 x1 (by omega) (by omega) (zB_of h.1) e (hB (fun z => absurd (e.symm.trans z) (by decide))) rfl rfl (fun v S₉ hI _ rp0 rp1 rp2 => zi_n ⟨zG_T hI, K _ _ (cl_put (cl_A h (zA_of hI) h.2 (Nat.le_succ _) (Nat.le_add_right _ _))) (pr_B hI) (fr_B hI) (fr_B7 hI) (fr_B65 hI) (fr_B67 hI) (fun z => absurd (e.symm.trans z) (by decide)) (fun z => absurd (e.symm.trans z) (by decide)) (fun z => absurd (e.symm.trans z) (by decide)) (fun _ => ⟨rp0, (by rw [(O_o5 (zA_of hI)).1]; exact L_kp (S₉ := S₉) Ay_L rp1 rp2)⟩) (fun z => absurd (e.symm.trans z) (by decide)) (fun z => absurd (e.symm.trans z) (by decide)) (fun z => absurd (e.symm.trans z) (by decide))⟩) (fun x S₉ hx hI rx0 rx1 rx2 => zi_x (by
      rcases hx with rfl | rfl
      · exact ⟨_, hd_17_2, K _ _ (cl_X h (zA_of hI) h.2 (Nat.le_refl _) (Nat.le_refl _)) (pr_Bb hI) (fr_Bb hI) (fr_B7b hI) (fr_B65b hI) (fr_B67b hI) (fun z => absurd (e.symm.trans z) (by decide)) (fun z => absurd (e.symm.trans z) (by decide)) (fun z => absurd (e.symm.trans z) (by decide)) (fun _ => ⟨rx0, (L_kp (S₉ := S₉) Ay_L rx1 rx2)⟩) (fun z => absurd (e.symm.trans z) (by decide)) (fun z => absurd (e.symm.trans z) (by decide)) (fun z => absurd (e.symm.trans z) (by decide))⟩
      · exact ⟨_, hd_17_4, K _ _ (cl_X h (zA_of hI) h.2 (Nat.le_refl _) (Nat.le_refl _)) (pr_Bb hI) (fr_Bb hI) (fr_B7b hI) (fr_B65b hI) (fr_B67b hI) (fun z => absurd (e.symm.trans z) (by decide)) (fun z => absurd (e.symm.trans z) (by decide)) (fun z => absurd (e.symm.trans z) (by decide)) (fun _ => ⟨rx0, (L_kp (S₉ := S₉) Ay_L rx1 rx2)⟩) (fun z => absurd (e.symm.trans z) (by decide)) (fun z => absurd (e.symm.trans z) (by decide)) (fun z => absurd (e.symm.trans z) (by decide))⟩
      ))
    · exact sp_161_64_sm_p81 (ab := aS 88 S) (fp81 := mI S 81) x0 x1 (by omega) (by omega) (zB_of h.1) e (hB (fun z => absurd (e.symm.trans z) (by decide))) rfl rfl (fun v S₉ hI _ rp0 rp1 rp2 => zi_n ⟨zG_T hI, K _ _ (cl_put (cl_A h (zA_of hI) h.2 (Nat.le_succ _) (Nat.le_add_right _ _))) (pr_B hI) (fr_B hI) (fr_B7 hI) (fr_B65 hI) (fr_B67 hI) (fun z => absurd (e.symm.trans z) (by decide)) (fun z => absurd (e.symm.trans z) (by decide)) (fun z => absurd (e.symm.trans z) (by decide)) (fun z => absurd (e.symm.trans z) (by decide)) (fun _ => ⟨rp0, (by rw [(O_o5 (zA_of hI)).2.1]; exact H_kp (S₉ := S₉) Ay_H rp1 rp2)⟩) (fun z => absurd (e.symm.trans z) (by decide)) (fun z => absurd (e.symm.trans z) (by decide))⟩) (fun x S₉ hx hI rx0 rx1 rx2 => zi_x (by
      rcases hx with rfl | rfl
      · exact ⟨_, hd_17_2, K _ _ (cl_X h (zA_of hI) h.2 (Nat.le_refl _) (Nat.le_refl _)) (pr_Bb hI) (fr_Bb hI) (fr_B7b hI) (fr_B65b hI) (fr_B67b hI) (fun z => absurd (e.symm.trans z) (by decide)) (fun z => absurd (e.symm.trans z) (by decide)) (fun z => absurd (e.symm.trans z) (by decide)) (fun z => absurd (e.symm.trans z) (by decide)) (fun _ => ⟨rx0, (H_kp (S₉ := S₉) Ay_H rx1 rx2)⟩) (fun z => absurd (e.symm.trans z) (by decide)) (fun z => absurd (e.symm.trans z) (by decide))⟩
      · exact ⟨_, hd_17_4, K _ _ (cl_X h (zA_of hI) h.2 (Nat.le_refl _) (Nat.le_refl _)) (pr_Bb hI) (fr_Bb hI) (fr_B7b hI) (fr_B65b hI) (fr_B67b hI) (fun z => absurd (e.symm.trans z) (by decide)) (fun z => absurd (e.symm.trans z) (by decide)) (fun z => absurd (e.symm.trans z) (by decide)) (fun z => absurd (e.symm.trans z) (by decide)) (fun _ => ⟨rx0, (H_kp (S₉ := S₉) Ay_H rx1 rx2)⟩) (fun z => absurd (e.symm.trans z) (by decide)) (fun z => absurd (e.symm.trans z) (by decide))⟩
      ))
    · exact sp_161_64_sm_p82 (ab := aS 88 S) (fp82 := mI S 82) (fp83 := mI S 83) x0 x1 (by omega) (by omega) (zB_of h.1) e (hB (fun z => absurd (e.symm.trans z) (by decide))) rfl rfl rfl (fun v S₉ hI _ rp0 rp1 rp2 rp3 => zi_n ⟨zG_T hI, K _ _ (cl_put (cl_A h (zA_of hI) h.2 (Nat.le_succ _) (Nat.le_add_right _ _))) (pr_B hI) (fr_B hI) (fr_B7 hI) (fr_B65 hI) (fr_B67 hI) (fun z => absurd (e.symm.trans z) (by decide)) (fun z => absurd (e.symm.trans z) (by decide)) (fun z => absurd (e.symm.trans z) (by decide)) (fun z => absurd (e.symm.trans z) (by decide)) (fun z => absurd (e.symm.trans z) (by decide)) (fun _ => ⟨rp0, (by rw [(O_o5 (zA_of hI)).2.2.1]; exact G_kp (S₉ := S₉) Ay_G rp1 rp2 rp3)⟩) (fun z => absurd (e.symm.trans z) (by decide))⟩) (fun x S₉ hx hI rx0 rx1 rx2 rx3 => zi_x (by
      rcases hx with rfl | rfl
      · exact ⟨_, hd_17_2, K _ _ (cl_X h (zA_of hI) h.2 (Nat.le_refl _) (Nat.le_refl _)) (pr_Bb hI) (fr_Bb hI) (fr_B7b hI) (fr_B65b hI) (fr_B67b hI) (fun z => absurd (e.symm.trans z) (by decide)) (fun z => absurd (e.symm.trans z) (by decide)) (fun z => absurd (e.symm.trans z) (by decide)) (fun z => absurd (e.symm.trans z) (by decide)) (fun z => absurd (e.symm.trans z) (by decide)) (fun _ => ⟨rx0, (G_kp (S₉ := S₉) Ay_G rx1 rx2 rx3)⟩) (fun z => absurd (e.symm.trans z) (by decide))⟩
      · exact ⟨_, hd_17_4, K _ _ (cl_X h (zA_of hI) h.2 (Nat.le_refl _) (Nat.le_refl _)) (pr_Bb hI) (fr_Bb hI) (fr_B7b hI) (fr_B65b hI) (fr_B67b hI) (fun z => absurd (e.symm.trans z) (by decide)) (fun z => absurd (e.symm.trans z) (by decide)) (fun z => absurd (e.symm.trans z) (by decide)) (fun z => absurd (e.symm.trans z) (by decide)) (fun z => absurd (e.symm.trans z) (by decide)) (fun _ => ⟨rx0, (G_kp (S₉ := S₉) Ay_G rx1 rx2 rx3)⟩) (fun z => absurd (e.symm.trans z) (by decide))⟩
      ))
    · exact sp_161_64_sk_p84 (ab := aS 88 S) (B := (T : Int)) (fq := zfP 84 (mI S)) x0 x1 (by omega) (by omega) (zB_of h.1) e (hB (fun z => absurd (e.symm.trans z) (by decide))) rfl (C_o8 T_88 (hC e).1) rfl (fun v S₉ hI _ rp0 rp1 rp2 rp3 => zi_n ⟨zG_T hI, K _ _ (cl_put (cl_A h (zA_of hI) h.2 (Nat.le_succ _) (Nat.le_add_right _ _))) (pr_B hI) (fr_B hI) (fr_B7 hI) (fr_B65 hI) (fr_B67 hI) (fun z => absurd (e.symm.trans z) (by decide)) (fun z => absurd (e.symm.trans z) (by decide)) (fun _ => ⟨rp0, (aS_o (zA_of hI)).trans rp1, rp3, (by rw [aS_o (zA_of hI), rp1]; exact rp2)⟩) (fun z => absurd (e.symm.trans z) (by decide)) (fun z => absurd (e.symm.trans z) (by decide)) (fun z => absurd (e.symm.trans z) (by decide)) (fun z => absurd (e.symm.trans z) (by decide))⟩) (fun x S₉ hx hI rx0 rx1 rx2 rx3 => zi_x (by
      rcases hx with rfl | rfl
      · exact ⟨_, hd_17_2, K _ _ (cl_X h (zA_of hI) h.2 (Nat.le_refl _) (Nat.le_refl _)) (pr_Bb hI) (fr_Bb hI) (fr_B7b hI) (fr_B65b hI) (fr_B67b hI) (fun z => absurd (e.symm.trans z) (by decide)) (fun z => absurd (e.symm.trans z) (by decide)) (fun _ => ⟨rx0, rx1, rx3, (by show cC (aS 88 S₉) [] (kC S₉) _; rw [rx1]; exact rx2)⟩) (fun z => absurd (e.symm.trans z) (by decide)) (fun z => absurd (e.symm.trans z) (by decide)) (fun z => absurd (e.symm.trans z) (by decide)) (fun z => absurd (e.symm.trans z) (by decide))⟩
      · exact ⟨_, hd_17_4, K _ _ (cl_X h (zA_of hI) h.2 (Nat.le_refl _) (Nat.le_refl _)) (pr_Bb hI) (fr_Bb hI) (fr_B7b hI) (fr_B65b hI) (fr_B67b hI) (fun z => absurd (e.symm.trans z) (by decide)) (fun z => absurd (e.symm.trans z) (by decide)) (fun _ => ⟨rx0, rx1, rx3, (by show cC (aS 88 S₉) [] (kC S₉) _; rw [rx1]; exact rx2)⟩) (fun z => absurd (e.symm.trans z) (by decide)) (fun z => absurd (e.symm.trans z) (by decide)) (fun z => absurd (e.symm.trans z) (by decide)) (fun z => absurd (e.symm.trans z) (by decide))⟩
      ))
    · exact sp_161_64_s_p87 (ab := aS 88 S) x0 x1 (by omega) (by omega) (zB_of h.1) e (hB (fun z => absurd (e.symm.trans z) (by decide))) rfl (fun v S₉ hI _ rp0 rp1 => zi_n ⟨zG_T hI, K _ _ (cl_put (cl_A h (zA_of hI) h.2 (Nat.le_succ _) (Nat.le_add_right _ _))) (pr_B hI) (fr_B hI) (fr_B7 hI) (fr_B65 hI) (fr_B67 hI) (fun _ => ⟨rp0, (aS_o (zA_of hI)).trans rp1⟩) (fun z => absurd (e.symm.trans z) (by decide)) (fun z => absurd (e.symm.trans z) (by decide)) (fun z => absurd (e.symm.trans z) (by decide)) (fun z => absurd (e.symm.trans z) (by decide)) (fun z => absurd (e.symm.trans z) (by decide)) (fun z => absurd (e.symm.trans z) (by decide))⟩) (fun x S₉ hx hI rx0 rx1 => zi_x (by
      rcases hx with rfl | rfl
      · exact ⟨_, hd_17_2, K _ _ (cl_X h (zA_of hI) h.2 (Nat.le_refl _) (Nat.le_refl _)) (pr_Bb hI) (fr_Bb hI) (fr_B7b hI) (fr_B65b hI) (fr_B67b hI) (fun _ => ⟨rx0, rx1⟩) (fun z => absurd (e.symm.trans z) (by decide)) (fun z => absurd (e.symm.trans z) (by decide)) (fun z => absurd (e.symm.trans z) (by decide)) (fun z => absurd (e.symm.trans z) (by decide)) (fun z => absurd (e.symm.trans z) (by decide)) (fun z => absurd (e.symm.trans z) (by decide))⟩
      · exact ⟨_, hd_17_4, K _ _ (cl_X h (zA_of hI) h.2 (Nat.le_refl _) (Nat.le_refl _)) (pr_Bb hI) (fr_Bb hI) (fr_B7b hI) (fr_B65b hI) (fr_B67b hI) (fun _ => ⟨rx0, rx1⟩) (fun z => absurd (e.symm.trans z) (by decide)) (fun z => absurd (e.symm.trans z) (by decide)) (fun z => absurd (e.symm.trans z) (by decide)) (fun z => absurd (e.symm.trans z) (by decide)) (fun z => absurd (e.symm.trans z) (by decide)) (fun z => absurd (e.symm.trans z) (by decide))⟩
      ))
    · exact sp_161_64_sm_p91 (ab := aS 88 S) (fp91 := mI S 91) (fp92 := mI S 92) x0 x1 (by omega) (by omega) (zB_of h.1) e (hB (fun z => absurd (e.symm.trans z) (by decide))) rfl rfl rfl (fun v S₉ hI _ rp0 rp1 rp2 rp3 => zi_n ⟨zG_T hI, K _ _ (cl_put (cl_A h (zA_of hI) h.2 (Nat.le_succ _) (Nat.le_add_right _ _))) (pr_B hI) (fr_B hI) (fr_B7 hI) (fr_B65 hI) (fr_B67 hI) (fun z => absurd (e.symm.trans z) (by decide)) (fun z => absurd (e.symm.trans z) (by decide)) (fun z => absurd (e.symm.trans z) (by decide)) (fun z => absurd (e.symm.trans z) (by decide)) (fun z => absurd (e.symm.trans z) (by decide)) (fun z => absurd (e.symm.trans z) (by decide)) (fun _ => ⟨rp0, (by rw [(O_o5 (zA_of hI)).2.2.2]; exact Z_kp (S₉ := S₉) Ay_Z rp1 rp2 rp3)⟩)⟩) (fun x S₉ hx hI rx0 rx1 rx2 rx3 => zi_x (by
      rcases hx with rfl | rfl
      · exact ⟨_, hd_17_2, K _ _ (cl_X h (zA_of hI) h.2 (Nat.le_refl _) (Nat.le_refl _)) (pr_Bb hI) (fr_Bb hI) (fr_B7b hI) (fr_B65b hI) (fr_B67b hI) (fun z => absurd (e.symm.trans z) (by decide)) (fun z => absurd (e.symm.trans z) (by decide)) (fun z => absurd (e.symm.trans z) (by decide)) (fun z => absurd (e.symm.trans z) (by decide)) (fun z => absurd (e.symm.trans z) (by decide)) (fun z => absurd (e.symm.trans z) (by decide)) (fun _ => ⟨rx0, (Z_kp (S₉ := S₉) Ay_Z rx1 rx2 rx3)⟩)⟩
      · exact ⟨_, hd_17_4, K _ _ (cl_X h (zA_of hI) h.2 (Nat.le_refl _) (Nat.le_refl _)) (pr_Bb hI) (fr_Bb hI) (fr_B7b hI) (fr_B65b hI) (fr_B67b hI) (fun z => absurd (e.symm.trans z) (by decide)) (fun z => absurd (e.symm.trans z) (by decide)) (fun z => absurd (e.symm.trans z) (by decide)) (fun z => absurd (e.symm.trans z) (by decide)) (fun z => absurd (e.symm.trans z) (by decide)) (fun z => absurd (e.symm.trans z) (by decide)) (fun _ => ⟨rx0, (Z_kp (S₉ := S₉) Ay_Z rx1 rx2 rx3)⟩)⟩
      ))
theorem gfm_18 {X : Nat × (Nat → Int32)} {d w : Nat} {S : ma_S} {Q : Option ma_V → ma_S → Prop} (x0 : Int32) (x1 : Int32) (hd : 12 ≤ d) (hw : 470 ≤ w) (hS : zT S) (h : ma_wp X (d - 1) (w - 24) 162 0 [(0, .inr (.inr (some 64))), (1, .inl x0), (2, .inl x1)] [] S (zi (fun v2 S1 => zT S1 ∧ (Q (some (.inl (0 : Int32))) (ma_put S1 125 0 (.inr (.inl (v2.toInt64)))))) (fun x S1 => ∃ c, ma_hd method_20_code 5 x 5 [(0, 10, 13, 19), (0, 10, 17, 25), (0, 10, 21, 61), (0, 10, 25, 13)] = some c ∧ Q (some (.inl c)) S1))) : ma_fp X 18 d w 0 [(0, .inr (.inr (some 64))), (1, .inl x0), (2, .inl x1), (3, .inr (.inr (some 125)))] [] S Q := by
  refine zf_push fm_18 dF18_0 (v := .inr (.inr (some 125))) rfl ?_
  refine zf_push fm_18 dF18_1 (v := .inl (0 : Int32)) rfl ?_
  refine zf_push fm_18 dF18_2 (v := .inr (.inr (some 64))) rfl ?_
  refine zf_push fm_18 dF18_3 (v := .inl x0) rfl ?_
  refine zf_push fm_18 dF18_4 (v := .inl x1) rfl ?_
  refine zf_cv fm_18 dF18_5 v_14_79_11 hm_162 [.inl x1, .inl x0] [.inl (0 : Int32), .inr (.inr (some 125))] rfl (zT_rt hS s_64 rfl) ⟨by omega, by omega⟩ rfl (zw_mono h (zi_go ?_ ?_))
  · intro v2 S1 hv
    obtain ⟨hS1, h⟩ := hv
    refine zf_stk fm_18 dF18_8 (st₉ := [.inr (.inl (v2.toInt64)), .inl (0 : Int32), .inr (.inr (some 125))]) rfl rfl ?_
    refine zf_one fm_18 dF18_9 (oo_las (zT_is hS1 s_125) (zT_h hS1 s_125) (a := 0) rfl ⟨by decide, by decide⟩) ?_
    refine zf_goto fm_18 dF18_10 (t := 29) rfl ?_
    refine zf_push fm_18 dF18_29 (v := .inl (0 : Int32)) rfl ?_
    exact zf_iret fm_18 dF18_30 h
  · intro x S9 hx
    exact ⟨⟨by decide, rfl⟩, hx⟩
theorem fw_18 {X : Nat × (Nat → Int32)} {d w T : Nat} {S : ma_S} {Q : Option ma_V → ma_S → Prop} (x0 : Int32) (x1 : Int32) (hd : 12 ≤ d) (hw : 470 ≤ w) (h : zHsm S) (hB : mR S 64 11 ≠ none → xB S (mR S 70)) (hC : mR S 64 11 = some 84 → cC (aT 84 S) [] (kC S) (T : Int) ∧ qI (aT 84 S)) (hV : zIv S) (hT5 : T + 1 ≤ 512) (K : ∀ (v : Int32) S₉, zCl S S₉ → mR S₉ 64 11 = mR S 64 11 → mI S₉ 64 1 = mI S 64 1 → mI S₉ 64 7 = mI S 64 7 → mI S₉ 65 = mI S 65 → (mI S₉ 67 = mI S 67 ∧ mI S₉ 68 = mI S 68) → (mR S 64 11 = some 87 → xB S₉ (mR S₉ 70) ∧ aS 88 S₉ = aS 88 S) → (mR S 64 11 = some 79 → xB S₉ (mR S₉ 70) ∧ aT 79 S₉ = aT 79 S) → (mR S 64 11 = some 84 → xB S₉ (mR S₉ 70) ∧ aT 84 S₉ = aT 84 S ∧ cC (aT 84 S₉) [] (kC S₉) (T : Int)) → (mR S 64 11 ≠ none → mR S 64 11 ≠ some 87 → mR S 64 11 ≠ some 79 → mR S 64 11 ≠ some 84 → zKm S S₉) → Q (some (.inl v)) S₉) : ma_fp X 18 d w 0 [(0, .inr (.inr (some 64))), (1, .inl x0), (2, .inl x1), (3, .inr (.inr (some 125)))] [] S Q := by
  refine gfm_18 x0 x1 hd hw h.1.1 ?_
  rcases h.2 with e | ⟨p, hp, e⟩
  · exact sp_162_64_sh_p0 x0 x1 (by omega) (by omega) (zB_of h.1) e (fun v S₉ hI w => absurd w (by decide)) (fun x S₉ hx hI hq => zi_x (by
      rcases hx with rfl | rfl
      · exact ⟨_, hd_18_2, K _ _ (cl_X h (zA_of hI) h.2 (Nat.le_refl _) (Nat.le_refl _)) (pr_Bb hI) (fr_Bb hI) (fr_B7b hI) (fr_B65b hI) (fr_B67b hI) (fun z => absurd (e.symm.trans z) (by decide)) (fun z => absurd (e.symm.trans z) (by decide)) (fun z => absurd (e.symm.trans z) (by decide)) (fun z _ _ _ => absurd e z)⟩
      · exact ⟨_, hd_18_3, K _ _ (cl_X h (zA_of hI) h.2 (Nat.le_refl _) (Nat.le_refl _)) (pr_Bb hI) (fr_Bb hI) (fr_B7b hI) (fr_B65b hI) (fr_B67b hI) (fun z => absurd (e.symm.trans z) (by decide)) (fun z => absurd (e.symm.trans z) (by decide)) (fun z => absurd (e.symm.trans z) (by decide)) (fun z _ _ _ => absurd e z)⟩
      ))
  · simp only [zcl7, List.mem_cons, List.not_mem_nil, or_false] at hp
    rcases hp with rfl | rfl | rfl | rfl | rfl | rfl | rfl
    · exact sp_162_64_s7_p79 (ab := aT 79 S) x0 x1 (by omega) (by omega) (zB_of h.1) e (hB (fun z => absurd (e.symm.trans z) (by decide))) rfl (fun v S₉ hI _ rp0 rp1 rp2 => zi_n ⟨zG_T hI, K _ _ (cl_put (cl_A h (zA_of hI) h.2 (Nat.le_succ _) (Nat.le_add_right _ _))) (pr_B hI) (fr_B hI) (fr_B7 hI) (fr_B65 hI) (fr_B67 hI) (fun z => absurd (e.symm.trans z) (by decide)) (fun _ => ⟨rp0, (T_o5 (zA_of hI)).trans rp1⟩) (fun z => absurd (e.symm.trans z) (by decide)) (fun _ _ z _ => absurd e z)⟩) (fun x S₉ hx hI rx0 rx1 rx2 => zi_x (by
      rcases hx with rfl | rfl
      · exact ⟨_, hd_18_1, K _ _ (cl_X h (zA_of hI) h.2 (Nat.le_refl _) (Nat.le_refl _)) (pr_Bb hI) (fr_Bb hI) (fr_B7b hI) (fr_B65b hI) (fr_B67b hI) (fun z => absurd (e.symm.trans z) (by decide)) (fun _ => ⟨rx0, rx1⟩) (fun z => absurd (e.symm.trans z) (by decide)) (fun _ _ z _ => absurd e z)⟩
      · exact ⟨_, hd_18_2, K _ _ (cl_X h (zA_of hI) h.2 (Nat.le_refl _) (Nat.le_refl _)) (pr_Bb hI) (fr_Bb hI) (fr_B7b hI) (fr_B65b hI) (fr_B67b hI) (fun z => absurd (e.symm.trans z) (by decide)) (fun _ => ⟨rx0, rx1⟩) (fun z => absurd (e.symm.trans z) (by decide)) (fun _ _ z _ => absurd e z)⟩
      ))
    · exact sp_162_64_sn_p80 (I0 := mI S) (L0 := mL S) (R0 := mR S 70) x0 x1 (by omega) (by omega) (zB_of h.1) e fn9_0 (fun v S₉ hI w => absurd w (by decide)) (fun x S₉ hx hI hq rx0 => zi_x (by
      rcases hx with rfl | rfl
      · exact ⟨_, hd_18_2, K _ _ (cl_X h (zA_of hI) h.2 (Nat.le_refl _) (Nat.le_refl _)) (pr_Bb hI) (fr_Bb hI) (fr_B7b hI) (fr_B65b hI) (fr_B67b hI) (fun z => absurd (e.symm.trans z) (by decide)) (fun z => absurd (e.symm.trans z) (by decide)) (fun z => absurd (e.symm.trans z) (by decide)) (fun _ _ _ _ => fm_km (S₉ := S₉) rx0 h.1)⟩
      · exact ⟨_, hd_18_6, K _ _ (cl_X h (zA_of hI) h.2 (Nat.le_refl _) (Nat.le_refl _)) (pr_Bb hI) (fr_Bb hI) (fr_B7b hI) (fr_B65b hI) (fr_B67b hI) (fun z => absurd (e.symm.trans z) (by decide)) (fun z => absurd (e.symm.trans z) (by decide)) (fun z => absurd (e.symm.trans z) (by decide)) (fun _ _ _ _ => fm_km (S₉ := S₉) rx0 h.1)⟩
      ))
    · exact sp_162_64_sn_p81 (I0 := mI S) (L0 := mL S) (R0 := mR S 70) x0 x1 (by omega) (by omega) (zB_of h.1) e fn9_0 (fun v S₉ hI w => absurd w (by decide)) (fun x S₉ hx hI hq rx0 => zi_x (by
      rcases hx with rfl | rfl
      · exact ⟨_, hd_18_2, K _ _ (cl_X h (zA_of hI) h.2 (Nat.le_refl _) (Nat.le_refl _)) (pr_Bb hI) (fr_Bb hI) (fr_B7b hI) (fr_B65b hI) (fr_B67b hI) (fun z => absurd (e.symm.trans z) (by decide)) (fun z => absurd (e.symm.trans z) (by decide)) (fun z => absurd (e.symm.trans z) (by decide)) (fun _ _ _ _ => fm_km (S₉ := S₉) rx0 h.1)⟩
      · exact ⟨_, hd_18_6, K _ _ (cl_X h (zA_of hI) h.2 (Nat.le_refl _) (Nat.le_refl _)) (pr_Bb hI) (fr_Bb hI) (fr_B7b hI) (fr_B65b hI) (fr_B67b hI) (fun z => absurd (e.symm.trans z) (by decide)) (fun z => absurd (e.symm.trans z) (by decide)) (fun z => absurd (e.symm.trans z) (by decide)) (fun _ _ _ _ => fm_km (S₉ := S₉) rx0 h.1)⟩
      ))
    · exact sp_162_64_sn_p82 (I0 := mI S) (L0 := mL S) (R0 := mR S 70) x0 x1 (by omega) (by omega) (zB_of h.1) e fn9_0 (fun v S₉ hI w => absurd w (by decide)) (fun x S₉ hx hI hq rx0 => zi_x (by
      rcases hx with rfl | rfl
      · exact ⟨_, hd_18_2, K _ _ (cl_X h (zA_of hI) h.2 (Nat.le_refl _) (Nat.le_refl _)) (pr_Bb hI) (fr_Bb hI) (fr_B7b hI) (fr_B65b hI) (fr_B67b hI) (fun z => absurd (e.symm.trans z) (by decide)) (fun z => absurd (e.symm.trans z) (by decide)) (fun z => absurd (e.symm.trans z) (by decide)) (fun _ _ _ _ => fm_km (S₉ := S₉) rx0 h.1)⟩
      · exact ⟨_, hd_18_6, K _ _ (cl_X h (zA_of hI) h.2 (Nat.le_refl _) (Nat.le_refl _)) (pr_Bb hI) (fr_Bb hI) (fr_B7b hI) (fr_B65b hI) (fr_B67b hI) (fun z => absurd (e.symm.trans z) (by decide)) (fun z => absurd (e.symm.trans z) (by decide)) (fun z => absurd (e.symm.trans z) (by decide)) (fun _ _ _ _ => fm_km (S₉ := S₉) rx0 h.1)⟩
      ))
    · exact sp_162_64_sk_p84 (ab := aT 84 S) (B := (T : Int)) x0 x1 (by omega) (by omega) (zB_of h.1) e (hB (fun z => absurd (e.symm.trans z) (by decide))) rfl (hC e).1 (fun v S₉ hI _ rp0 rp1 rp2 rp3 => zi_n ⟨zG_T hI, K _ _ (cl_put (cl_A h (zA_of hI) h.2 (Nat.le_succ _) (Nat.le_add_right _ _))) (pr_B hI) (fr_B hI) (fr_B7 hI) (fr_B65 hI) (fr_B67 hI) (fun z => absurd (e.symm.trans z) (by decide)) (fun z => absurd (e.symm.trans z) (by decide)) (fun _ => ⟨rp0, (T_o5 (zA_of hI)).trans rp1, (by rw [T_o5 (zA_of hI), rp1]; exact rp2)⟩) (fun _ _ _ z => absurd e z)⟩) (fun x S₉ hx hI rx0 rx1 rx2 rx3 => zi_x (by
      rcases hx with rfl | rfl
      · exact ⟨_, hd_18_1, K _ _ (cl_X h (zA_of hI) h.2 (Nat.le_refl _) (Nat.le_refl _)) (pr_Bb hI) (fr_Bb hI) (fr_B7b hI) (fr_B65b hI) (fr_B67b hI) (fun z => absurd (e.symm.trans z) (by decide)) (fun z => absurd (e.symm.trans z) (by decide)) (fun _ => ⟨rx0, rx1, (by show cC (aT 84 S₉) [] (kC S₉) _; rw [rx1]; exact rx2)⟩) (fun _ _ _ z => absurd e z)⟩
      · exact ⟨_, hd_18_2, K _ _ (cl_X h (zA_of hI) h.2 (Nat.le_refl _) (Nat.le_refl _)) (pr_Bb hI) (fr_Bb hI) (fr_B7b hI) (fr_B65b hI) (fr_B67b hI) (fun z => absurd (e.symm.trans z) (by decide)) (fun z => absurd (e.symm.trans z) (by decide)) (fun _ => ⟨rx0, rx1, (by show cC (aT 84 S₉) [] (kC S₉) _; rw [rx1]; exact rx2)⟩) (fun _ _ _ z => absurd e z)⟩
      ))
    · exact sp_162_64_s_p87 (ab := aS 88 S) x0 x1 (by omega) (by omega) (zB_of h.1) e (hB (fun z => absurd (e.symm.trans z) (by decide))) rfl (fun v S₉ hI _ rp0 rp1 rp2 => zi_n ⟨zG_T hI, K _ _ (cl_put (cl_A h (zA_of hI) h.2 (Nat.le_succ _) (Nat.le_add_right _ _))) (pr_B hI) (fr_B hI) (fr_B7 hI) (fr_B65 hI) (fr_B67 hI) (fun _ => ⟨rp0, (aS_o (zA_of hI)).trans rp1⟩) (fun z => absurd (e.symm.trans z) (by decide)) (fun z => absurd (e.symm.trans z) (by decide)) (fun _ z _ _ => absurd e z)⟩) (fun x S₉ hx hI rx0 rx1 rx2 => zi_x (by
      rcases hx with rfl | rfl
      · exact ⟨_, hd_18_1, K _ _ (cl_X h (zA_of hI) h.2 (Nat.le_refl _) (Nat.le_refl _)) (pr_Bb hI) (fr_Bb hI) (fr_B7b hI) (fr_B65b hI) (fr_B67b hI) (fun _ => ⟨rx0, rx1⟩) (fun z => absurd (e.symm.trans z) (by decide)) (fun z => absurd (e.symm.trans z) (by decide)) (fun _ z _ _ => absurd e z)⟩
      · exact ⟨_, hd_18_2, K _ _ (cl_X h (zA_of hI) h.2 (Nat.le_refl _) (Nat.le_refl _)) (pr_Bb hI) (fr_Bb hI) (fr_B7b hI) (fr_B65b hI) (fr_B67b hI) (fun _ => ⟨rx0, rx1⟩) (fun z => absurd (e.symm.trans z) (by decide)) (fun z => absurd (e.symm.trans z) (by decide)) (fun _ z _ _ => absurd e z)⟩
      ))
    · exact sp_162_64_sn_p91 (I0 := mI S) (L0 := mL S) (R0 := mR S 70) x0 x1 (by omega) (by omega) (zB_of h.1) e fn9_0 (fun v S₉ hI w => absurd w (by decide)) (fun x S₉ hx hI hq rx0 => zi_x (by
      rcases hx with rfl | rfl
      · exact ⟨_, hd_18_2, K _ _ (cl_X h (zA_of hI) h.2 (Nat.le_refl _) (Nat.le_refl _)) (pr_Bb hI) (fr_Bb hI) (fr_B7b hI) (fr_B65b hI) (fr_B67b hI) (fun z => absurd (e.symm.trans z) (by decide)) (fun z => absurd (e.symm.trans z) (by decide)) (fun z => absurd (e.symm.trans z) (by decide)) (fun _ _ _ _ => fm_km (S₉ := S₉) rx0 h.1)⟩
      · exact ⟨_, hd_18_6, K _ _ (cl_X h (zA_of hI) h.2 (Nat.le_refl _) (Nat.le_refl _)) (pr_Bb hI) (fr_Bb hI) (fr_B7b hI) (fr_B65b hI) (fr_B67b hI) (fun z => absurd (e.symm.trans z) (by decide)) (fun z => absurd (e.symm.trans z) (by decide)) (fun z => absurd (e.symm.trans z) (by decide)) (fun _ _ _ _ => fm_km (S₉ := S₉) rx0 h.1)⟩
      ))
theorem gfm_19 {X : Nat × (Nat → Int32)} {d w : Nat} {S : ma_S} {Q : Option ma_V → ma_S → Prop} (x0 : Int32) (hd : 12 ≤ d) (hw : 471 ≤ w) (hS : zT S) (h : ma_wp X (d - 1) (w - 22) 163 0 [(0, .inr (.inr (some 64))), (1, .inl x0)] [] S (zi (fun v2 S1 => zT S1 ∧ (Q (some (.inl (0 : Int32))) (ma_put S1 125 0 (.inr (.inl (v2.toInt64)))))) (fun x S1 => ∃ c, ma_hd method_21_code 4 x 4 [(0, 9, 12, 19), (0, 9, 15, 25)] = some c ∧ Q (some (.inl c)) S1))) : ma_fp X 19 d w 0 [(0, .inr (.inr (some 64))), (1, .inl x0), (2, .inr (.inr (some 125)))] [] S Q := by
  refine zf_push fm_19 dF19_0 (v := .inr (.inr (some 125))) rfl ?_
  refine zf_push fm_19 dF19_1 (v := .inl (0 : Int32)) rfl ?_
  refine zf_push fm_19 dF19_2 (v := .inr (.inr (some 64))) rfl ?_
  refine zf_push fm_19 dF19_3 (v := .inl x0) rfl ?_
  refine zf_cv fm_19 dF19_4 v_14_82_11 hm_163 [.inl x0] [.inl (0 : Int32), .inr (.inr (some 125))] rfl (zT_rt hS s_64 rfl) ⟨by omega, by omega⟩ rfl (zw_mono h (zi_go ?_ ?_))
  · intro v2 S1 hv
    obtain ⟨hS1, h⟩ := hv
    refine zf_stk fm_19 dF19_7 (st₉ := [.inr (.inl (v2.toInt64)), .inl (0 : Int32), .inr (.inr (some 125))]) rfl rfl ?_
    refine zf_one fm_19 dF19_8 (oo_las (zT_is hS1 s_125) (zT_h hS1 s_125) (a := 0) rfl ⟨by decide, by decide⟩) ?_
    refine zf_goto fm_19 dF19_9 (t := 18) rfl ?_
    refine zf_push fm_19 dF19_18 (v := .inl (0 : Int32)) rfl ?_
    exact zf_iret fm_19 dF19_19 h
  · intro x S9 hx
    exact ⟨⟨by decide, rfl⟩, hx⟩
theorem fw_19 {X : Nat × (Nat → Int32)} {d w T : Nat} {S : ma_S} {Q : Option ma_V → ma_S → Prop} (x0 : Int32) (hd : 12 ≤ d) (hw : 471 ≤ w) (h : zHsm S)  (hB : mR S 64 11 ≠ none → xB S (mR S 70)) (hC : mR S 64 11 = some 84 → cC (aT 84 S) [] (kC S) (T : Int) ∧ qI (aT 84 S)) (hV : zIv S) (hT5 : T + 1 ≤ 512) (K : ∀ (v : Int32) S₉, zCl S S₉ → mR S₉ 64 11 = mR S 64 11 → mI S₉ 64 1 = mI S 64 1 → mI S₉ 64 7 = mI S 64 7 → mI S₉ 65 = mI S 65 → (mI S₉ 67 = mI S 67 ∧ mI S₉ 68 = mI S 68) → (mR S 64 11 = some 87 → xB S₉ (mR S₉ 70) ∧ aS 88 S₉ = aS 88 S) → (mR S 64 11 = some 79 → xB S₉ (mR S₉ 70) ∧ aS 88 S₉ = aS 88 S ∧ zfP 79 (mI S₉) = zfP 79 (mI S)) → (mR S 64 11 = some 84 → xB S₉ (mR S₉ 70) ∧ aS 88 S₉ = aS 88 S ∧ zfP 84 (mI S₉) = zfP 84 (mI S) ∧ cC (aS 88 S₉) [] (kC S₉) (T : Int)) → (mR S 64 11 = some 80 → xB S₉ (mR S₉ 70) ∧ zOf (aL S) (aL S₉)) → (mR S 64 11 = some 81 → xB S₉ (mR S₉ 70) ∧ zOf (aH S) (aH S₉)) → (mR S 64 11 = some 82 → xB S₉ (mR S₉ 70) ∧ zOf (aG S) (aG S₉)) → (mR S 64 11 = some 91 → xB S₉ (mR S₉ 70) ∧ zOf (zX93 (aZ S) (mI S₉ 93)) (aZ S₉)) → Q (some (.inl v)) S₉) : ma_fp X 19 d w 0 [(0, .inr (.inr (some 64))), (1, .inl x0), (2, .inr (.inr (some 125)))] [] S Q := by
  refine gfm_19 x0 hd hw h.1.1 ?_
  rcases h.2 with e | ⟨p, hp, e⟩
  · exact sp_163_64_p0 x0 (by omega) (by omega) (zB_of h.1) e (fun v S₉ hI _ => zi_n ⟨zG_T hI, K _ _ (cl_put (cl_A h (zA_of hI) h.2 (Nat.le_succ _) (Nat.le_add_right _ _))) (pr_B hI) (fr_B hI) (fr_B7 hI) (fr_B65 hI) (fr_B67 hI) (fun z => absurd (e.symm.trans z) (by decide)) (fun z => absurd (e.symm.trans z) (by decide)) (fun z => absurd (e.symm.trans z) (by decide)) (fun z => absurd (e.symm.trans z) (by decide)) (fun z => absurd (e.symm.trans z) (by decide)) (fun z => absurd (e.symm.trans z) (by decide)) (fun z => absurd (e.symm.trans z) (by decide))⟩) (fun x S₉ hx hI => zi_x (by
      rcases hx with rfl | rfl
      · exact ⟨_, hd_19_2, K _ _ (cl_X h (zA_of hI) h.2 (Nat.le_refl _) (Nat.le_refl _)) (pr_Bb hI) (fr_Bb hI) (fr_B7b hI) (fr_B65b hI) (fr_B67b hI) (fun z => absurd (e.symm.trans z) (by decide)) (fun z => absurd (e.symm.trans z) (by decide)) (fun z => absurd (e.symm.trans z) (by decide)) (fun z => absurd (e.symm.trans z) (by decide)) (fun z => absurd (e.symm.trans z) (by decide)) (fun z => absurd (e.symm.trans z) (by decide)) (fun z => absurd (e.symm.trans z) (by decide))⟩
      · exact ⟨_, hd_19_3, K _ _ (cl_X h (zA_of hI) h.2 (Nat.le_refl _) (Nat.le_refl _)) (pr_Bb hI) (fr_Bb hI) (fr_B7b hI) (fr_B65b hI) (fr_B67b hI) (fun z => absurd (e.symm.trans z) (by decide)) (fun z => absurd (e.symm.trans z) (by decide)) (fun z => absurd (e.symm.trans z) (by decide)) (fun z => absurd (e.symm.trans z) (by decide)) (fun z => absurd (e.symm.trans z) (by decide)) (fun z => absurd (e.symm.trans z) (by decide)) (fun z => absurd (e.symm.trans z) (by decide))⟩
      ))
  · simp only [zcl7, List.mem_cons, List.not_mem_nil, or_false] at hp
    rcases hp with rfl | rfl | rfl | rfl | rfl | rfl | rfl
    · exact sp_163_64_s_p79 (ab := aS 88 S) (fq := zfP 79 (mI S)) x0 (by omega) (by omega) (zB_of h.1) e (hB (fun z => absurd (e.symm.trans z) (by decide))) rfl rfl (fun v S₉ hI _ rp0 rp1 rp2 => zi_n ⟨zG_T hI, K _ _ (cl_put (cl_A h (zA_of hI) h.2 (Nat.le_succ _) (Nat.le_add_right _ _))) (pr_B hI) (fr_B hI) (fr_B7 hI) (fr_B65 hI) (fr_B67 hI) (fun z => absurd (e.symm.trans z) (by decide)) (fun _ => ⟨rp0, (aS_o (zA_of hI)).trans rp1, rp2⟩) (fun z => absurd (e.symm.trans z) (by decide)) (fun z => absurd (e.symm.trans z) (by decide)) (fun z => absurd (e.symm.trans z) (by decide)) (fun z => absurd (e.symm.trans z) (by decide)) (fun z => absurd (e.symm.trans z) (by decide))⟩) (fun x S₉ hx hI rx0 rx1 rx2 => zi_x (by
      subst hx
      exact ⟨_, hd_19_2, K _ _ (cl_X h (zA_of hI) h.2 (Nat.le_refl _) (Nat.le_refl _)) (pr_Bb hI) (fr_Bb hI) (fr_B7b hI) (fr_B65b hI) (fr_B67b hI) (fun z => absurd (e.symm.trans z) (by decide)) (fun _ => ⟨rx0, rx1, rx2⟩) (fun z => absurd (e.symm.trans z) (by decide)) (fun z => absurd (e.symm.trans z) (by decide)) (fun z => absurd (e.symm.trans z) (by decide)) (fun z => absurd (e.symm.trans z) (by decide)) (fun z => absurd (e.symm.trans z) (by decide))⟩
      ))
    · exact sp_163_64_sm_p80 (ab := aS 88 S) (fp80 := mI S 80) x0 (by omega) (by omega) (zB_of h.1) e (hB (fun z => absurd (e.symm.trans z) (by decide))) rfl rfl (fun v S₉ hI _ rp0 rp1 rp2 => zi_n ⟨zG_T hI, K _ _ (cl_put (cl_A h (zA_of hI) h.2 (Nat.le_succ _) (Nat.le_add_right _ _))) (pr_B hI) (fr_B hI) (fr_B7 hI) (fr_B65 hI) (fr_B67 hI) (fun z => absurd (e.symm.trans z) (by decide)) (fun z => absurd (e.symm.trans z) (by decide)) (fun z => absurd (e.symm.trans z) (by decide)) (fun _ => ⟨rp0, (by rw [(O_o5 (zA_of hI)).1]; exact L_kp (S₉ := S₉) Ay_L rp1 rp2)⟩) (fun z => absurd (e.symm.trans z) (by decide)) (fun z => absurd (e.symm.trans z) (by decide)) (fun z => absurd (e.symm.trans z) (by decide))⟩) (fun x S₉ hx hI rx0 rx1 rx2 => zi_x (by
      subst hx
      exact ⟨_, hd_19_2, K _ _ (cl_X h (zA_of hI) h.2 (Nat.le_refl _) (Nat.le_refl _)) (pr_Bb hI) (fr_Bb hI) (fr_B7b hI) (fr_B65b hI) (fr_B67b hI) (fun z => absurd (e.symm.trans z) (by decide)) (fun z => absurd (e.symm.trans z) (by decide)) (fun z => absurd (e.symm.trans z) (by decide)) (fun _ => ⟨rx0, (L_kp (S₉ := S₉) Ay_L rx1 rx2)⟩) (fun z => absurd (e.symm.trans z) (by decide)) (fun z => absurd (e.symm.trans z) (by decide)) (fun z => absurd (e.symm.trans z) (by decide))⟩
      ))
    · exact sp_163_64_sm_p81 (ab := aS 88 S) (fp81 := mI S 81) x0 (by omega) (by omega) (zB_of h.1) e (hB (fun z => absurd (e.symm.trans z) (by decide))) rfl rfl (fun v S₉ hI _ rp0 rp1 rp2 => zi_n ⟨zG_T hI, K _ _ (cl_put (cl_A h (zA_of hI) h.2 (Nat.le_succ _) (Nat.le_add_right _ _))) (pr_B hI) (fr_B hI) (fr_B7 hI) (fr_B65 hI) (fr_B67 hI) (fun z => absurd (e.symm.trans z) (by decide)) (fun z => absurd (e.symm.trans z) (by decide)) (fun z => absurd (e.symm.trans z) (by decide)) (fun z => absurd (e.symm.trans z) (by decide)) (fun _ => ⟨rp0, (by rw [(O_o5 (zA_of hI)).2.1]; exact H_kp (S₉ := S₉) Ay_H rp1 rp2)⟩) (fun z => absurd (e.symm.trans z) (by decide)) (fun z => absurd (e.symm.trans z) (by decide))⟩) (fun x S₉ hx hI rx0 rx1 rx2 => zi_x (by
      subst hx
      exact ⟨_, hd_19_2, K _ _ (cl_X h (zA_of hI) h.2 (Nat.le_refl _) (Nat.le_refl _)) (pr_Bb hI) (fr_Bb hI) (fr_B7b hI) (fr_B65b hI) (fr_B67b hI) (fun z => absurd (e.symm.trans z) (by decide)) (fun z => absurd (e.symm.trans z) (by decide)) (fun z => absurd (e.symm.trans z) (by decide)) (fun z => absurd (e.symm.trans z) (by decide)) (fun _ => ⟨rx0, (H_kp (S₉ := S₉) Ay_H rx1 rx2)⟩) (fun z => absurd (e.symm.trans z) (by decide)) (fun z => absurd (e.symm.trans z) (by decide))⟩
      ))
    · exact sp_163_64_sm_p82 (ab := aS 88 S) (fp82 := mI S 82) (fp83 := mI S 83) x0 (by omega) (by omega) (zB_of h.1) e (hB (fun z => absurd (e.symm.trans z) (by decide))) rfl rfl rfl (fun v S₉ hI _ rp0 rp1 rp2 rp3 => zi_n ⟨zG_T hI, K _ _ (cl_put (cl_A h (zA_of hI) h.2 (Nat.le_succ _) (Nat.le_add_right _ _))) (pr_B hI) (fr_B hI) (fr_B7 hI) (fr_B65 hI) (fr_B67 hI) (fun z => absurd (e.symm.trans z) (by decide)) (fun z => absurd (e.symm.trans z) (by decide)) (fun z => absurd (e.symm.trans z) (by decide)) (fun z => absurd (e.symm.trans z) (by decide)) (fun z => absurd (e.symm.trans z) (by decide)) (fun _ => ⟨rp0, (by rw [(O_o5 (zA_of hI)).2.2.1]; exact G_kp (S₉ := S₉) Ay_G rp1 rp2 rp3)⟩) (fun z => absurd (e.symm.trans z) (by decide))⟩) (fun x S₉ hx hI rx0 rx1 rx2 rx3 => zi_x (by
      subst hx
      exact ⟨_, hd_19_2, K _ _ (cl_X h (zA_of hI) h.2 (Nat.le_refl _) (Nat.le_refl _)) (pr_Bb hI) (fr_Bb hI) (fr_B7b hI) (fr_B65b hI) (fr_B67b hI) (fun z => absurd (e.symm.trans z) (by decide)) (fun z => absurd (e.symm.trans z) (by decide)) (fun z => absurd (e.symm.trans z) (by decide)) (fun z => absurd (e.symm.trans z) (by decide)) (fun z => absurd (e.symm.trans z) (by decide)) (fun _ => ⟨rx0, (G_kp (S₉ := S₉) Ay_G rx1 rx2 rx3)⟩) (fun z => absurd (e.symm.trans z) (by decide))⟩
      ))
    · exact sp_163_64_sk_p84 (ab := aS 88 S) (B := (T : Int)) (fq := zfP 84 (mI S)) x0 (by omega) (by omega) (zB_of h.1) e (hB (fun z => absurd (e.symm.trans z) (by decide))) rfl (C_o8 T_88 (hC e).1) rfl (fun v S₉ hI _ rp0 rp1 rp2 rp3 => zi_n ⟨zG_T hI, K _ _ (cl_put (cl_A h (zA_of hI) h.2 (Nat.le_succ _) (Nat.le_add_right _ _))) (pr_B hI) (fr_B hI) (fr_B7 hI) (fr_B65 hI) (fr_B67 hI) (fun z => absurd (e.symm.trans z) (by decide)) (fun z => absurd (e.symm.trans z) (by decide)) (fun _ => ⟨rp0, (aS_o (zA_of hI)).trans rp1, rp3, (by rw [aS_o (zA_of hI), rp1]; exact rp2)⟩) (fun z => absurd (e.symm.trans z) (by decide)) (fun z => absurd (e.symm.trans z) (by decide)) (fun z => absurd (e.symm.trans z) (by decide)) (fun z => absurd (e.symm.trans z) (by decide))⟩) (fun x S₉ hx hI rx0 rx1 rx2 rx3 => zi_x (by
      subst hx
      exact ⟨_, hd_19_2, K _ _ (cl_X h (zA_of hI) h.2 (Nat.le_refl _) (Nat.le_refl _)) (pr_Bb hI) (fr_Bb hI) (fr_B7b hI) (fr_B65b hI) (fr_B67b hI) (fun z => absurd (e.symm.trans z) (by decide)) (fun z => absurd (e.symm.trans z) (by decide)) (fun _ => ⟨rx0, rx1, rx3, (by show cC (aS 88 S₉) [] (kC S₉) _; rw [rx1]; exact rx2)⟩) (fun z => absurd (e.symm.trans z) (by decide)) (fun z => absurd (e.symm.trans z) (by decide)) (fun z => absurd (e.symm.trans z) (by decide)) (fun z => absurd (e.symm.trans z) (by decide))⟩
      ))
    · exact sp_163_64_s_p87 (ab := aS 88 S) x0 (by omega) (by omega) (zB_of h.1) e (hB (fun z => absurd (e.symm.trans z) (by decide))) rfl (fun v S₉ hI _ rp0 rp1 => zi_n ⟨zG_T hI, K _ _ (cl_put (cl_A h (zA_of hI) h.2 (Nat.le_succ _) (Nat.le_add_right _ _))) (pr_B hI) (fr_B hI) (fr_B7 hI) (fr_B65 hI) (fr_B67 hI) (fun _ => ⟨rp0, (aS_o (zA_of hI)).trans rp1⟩) (fun z => absurd (e.symm.trans z) (by decide)) (fun z => absurd (e.symm.trans z) (by decide)) (fun z => absurd (e.symm.trans z) (by decide)) (fun z => absurd (e.symm.trans z) (by decide)) (fun z => absurd (e.symm.trans z) (by decide)) (fun z => absurd (e.symm.trans z) (by decide))⟩) (fun x S₉ hx hI rx0 rx1 => zi_x (by
      subst hx
      exact ⟨_, hd_19_2, K _ _ (cl_X h (zA_of hI) h.2 (Nat.le_refl _) (Nat.le_refl _)) (pr_Bb hI) (fr_Bb hI) (fr_B7b hI) (fr_B65b hI) (fr_B67b hI) (fun _ => ⟨rx0, rx1⟩) (fun z => absurd (e.symm.trans z) (by decide)) (fun z => absurd (e.symm.trans z) (by decide)) (fun z => absurd (e.symm.trans z) (by decide)) (fun z => absurd (e.symm.trans z) (by decide)) (fun z => absurd (e.symm.trans z) (by decide)) (fun z => absurd (e.symm.trans z) (by decide))⟩
      ))
    · exact sp_163_64_sm_p91 (ab := aS 88 S) (fp91 := mI S 91) (fp92 := mI S 92) x0 (by omega) (by omega) (zB_of h.1) e (hB (fun z => absurd (e.symm.trans z) (by decide))) rfl rfl rfl (fun v S₉ hI _ rp0 rp1 rp2 rp3 => zi_n ⟨zG_T hI, K _ _ (cl_put (cl_A h (zA_of hI) h.2 (Nat.le_succ _) (Nat.le_add_right _ _))) (pr_B hI) (fr_B hI) (fr_B7 hI) (fr_B65 hI) (fr_B67 hI) (fun z => absurd (e.symm.trans z) (by decide)) (fun z => absurd (e.symm.trans z) (by decide)) (fun z => absurd (e.symm.trans z) (by decide)) (fun z => absurd (e.symm.trans z) (by decide)) (fun z => absurd (e.symm.trans z) (by decide)) (fun z => absurd (e.symm.trans z) (by decide)) (fun _ => ⟨rp0, (by rw [(O_o5 (zA_of hI)).2.2.2]; exact Z_kp (S₉ := S₉) Ay_Z rp1 rp2 rp3)⟩)⟩) (fun x S₉ hx hI rx0 rx1 rx2 rx3 => zi_x (by
      subst hx
      exact ⟨_, hd_19_2, K _ _ (cl_X h (zA_of hI) h.2 (Nat.le_refl _) (Nat.le_refl _)) (pr_Bb hI) (fr_Bb hI) (fr_B7b hI) (fr_B65b hI) (fr_B67b hI) (fun z => absurd (e.symm.trans z) (by decide)) (fun z => absurd (e.symm.trans z) (by decide)) (fun z => absurd (e.symm.trans z) (by decide)) (fun z => absurd (e.symm.trans z) (by decide)) (fun z => absurd (e.symm.trans z) (by decide)) (fun z => absurd (e.symm.trans z) (by decide)) (fun _ => ⟨rx0, (Z_kp (S₉ := S₉) Ay_Z rx1 rx2 rx3)⟩)⟩
      ))
