/-! tables that the backward rows use -/
set_option maxRecDepth 100000 in
theorem hm_81 : ma_md 81 = some (7, yX7_thingAt, cX7_thingAt, 2, (some (FieldType.object "CollectorHouse$Thing"))) := rfl
set_option maxRecDepth 100000 in
theorem hm_82 : ma_md 82 = some (7, yX7_referenceOf, cX7_referenceOf, 6, (some (FieldType.object "CollectorHouse$Thing"))) := rfl
set_option maxRecDepth 100000 in
theorem hm_83 : ma_md 83 = some (7, yX7_grantWishes, cX7_grantWishes, 4, none) := rfl
set_option maxRecDepth 100000 in
theorem hm_84 : ma_md 84 = some (7, yX7_grant, cX7_grant, 2, none) := rfl
set_option maxRecDepth 100000 in
theorem hm_85 : ma_md 85 = some (7, yX7_clearWeak, cX7_clearWeak, 3, none) := rfl
set_option maxRecDepth 100000 in
theorem hm_86 : ma_md 86 = some (7, yX7_removeOthers, cX7_removeOthers, 5, (some (FieldType.int))) := rfl
set_option maxRecDepth 100000 in
theorem hm_87 : ma_md 87 = some (7, yX7_remove, cX7_remove, 4, none) := rfl
set_option maxRecDepth 100000 in
theorem hm_88 : ma_md 88 = some (7, yX7_freeWords, cX7_freeWords, 4, none) := rfl
set_option maxRecDepth 100000 in
theorem hm_90 : ma_md 90 = some (7, yX7_move, cX7_move, 5, none) := rfl
set_option maxRecDepth 100000 in
theorem hm_92 : ma_md 92 = some (7, yX7_changeRoot, cX7_changeRoot, 4, (some (FieldType.object "CollectorHouse$Thing"))) := rfl
set_option maxRecDepth 100000 in
theorem hm_93 : ma_md 93 = some (7, yX7_changeCounts, cX7_changeCounts, 2, none) := rfl
set_option maxRecDepth 100000 in
theorem hm_94 : ma_md 94 = some (7, yX7_changeReference, cX7_changeReference, 5, (some (FieldType.object "CollectorHouse$Thing"))) := rfl
set_option maxRecDepth 100000 in
theorem hm_95 : ma_md 95 = some (7, yX7_changeInt, cX7_changeInt, 6, (some (FieldType.int))) := rfl
set_option maxRecDepth 100000 in
theorem hm_96 : ma_md 96 = some (7, yX7_wordOf, cX7_wordOf, 4, (some (FieldType.int))) := rfl
set_option maxRecDepth 100000 in
theorem hm_97 : ma_md 97 = some (7, yX7_changeHolds, cX7_changeHolds, 3, none) := rfl
set_option maxRecDepth 100000 in
theorem hm_98 : ma_md 98 = some (7, yX7_takeWish, cX7_takeWish, 3, (some (FieldType.object "CollectorHouse$Thing"))) := rfl
set_option maxRecDepth 100000 in
theorem hm_116 : ma_md 116 = some (10, yX10_reachAll, cX10_reachAll, 1, none) := rfl
set_option maxRecDepth 100000 in
theorem hm_117 : ma_md 117 = some (10, yX10_restart, cX10_restart, 2, none) := rfl
set_option maxRecDepth 100000 in
theorem hm_118 : ma_md 118 = some (10, yX10_comeFromRoots, cX10_comeFromRoots, 3, none) := rfl
set_option maxRecDepth 100000 in
theorem hm_119 : ma_md 119 = some (10, yX10_comes, cX10_comes, 2, none) := rfl
set_option maxRecDepth 100000 in
theorem hm_120 : ma_md 120 = some (10, yX10_spread, cX10_spread, 5, (some (FieldType.int))) := rfl
set_option maxRecDepth 100000 in
theorem hm_121 : ma_md 121 = some (10, yX10_blacken, cX10_blacken, 2, none) := rfl
set_option maxRecDepth 100000 in
theorem hm_122 : ma_md 122 = some (10, yX10_keeps, cX10_keeps, 2, (some (FieldType.boolean))) := rfl
set_option maxRecDepth 100000 in
theorem hm_123 : ma_md 123 = some (10, yX10_colourOf, cX10_colourOf, 2, (some (FieldType.int))) := rfl
set_option maxRecDepth 100000 in
theorem hm_124 : ma_md 124 = some (10, yX10_thingInQueue, cX10_thingInQueue, 2, (some (FieldType.object "CollectorHouse$Thing"))) := rfl
set_option maxRecDepth 100000 in
theorem hm_146 : ma_md 146 = some (11, yX11_numberOf, cX11_numberOf, 1, (some (FieldType.int))) := rfl
set_option maxRecDepth 100000 in
theorem hm_276 : ma_md 276 = some (15, yJ7_fill_53178, cJ7_fill_53178, 4, none) := rfl
theorem s_69 : zs 69 = some (7, 13) := rfl
theorem s_70 : zs 70 = some (24, 512) := rfl
theorem s_71 : zs 71 = some (20, 4500) := rfl
theorem s_72 : zs 72 = some (20, 16) := rfl
theorem s_73 : zs 73 = some (20, 16) := rfl
theorem s_74 : zs 74 = some (20, 512) := rfl
theorem s_75 : zs 75 = some (10, 6) := rfl
theorem s_76 : zs 76 = some (20, 512) := rfl
theorem s_77 : zs 77 = some (20, 512) := rfl
theorem s_88 : zs 88 = some (10, 6) := rfl
theorem s_89 : zs 89 = some (20, 512) := rfl
theorem s_90 : zs 90 = some (20, 512) := rfl
theorem r_69_0 : zfi 69 0 = some 70 := rfl
theorem r_69_1 : zfi 69 1 = some 71 := rfl
theorem r_69_2 : zfi 69 2 = some 72 := rfl
theorem r_69_3 : zfi 69 3 = some 73 := rfl
theorem r_69_4 : zfi 69 4 = some 74 := rfl
theorem r_75_0 : zfi 75 0 = some 69 := rfl
theorem r_75_1 : zfi 75 1 = some 76 := rfl
theorem r_75_2 : zfi 75 2 = some 77 := rfl
theorem r_88_0 : zfi 88 0 = some 69 := rfl
theorem r_88_1 : zfi 88 1 = some 89 := rfl
theorem r_88_2 : zfi 88 2 = some 90 := rfl
theorem f_7_11_7 : ma_fld 7 11 7 = some 0 := by decide +kernel
theorem f_7_17_7 : ma_fld 7 17 7 = some 1 := by decide +kernel
theorem f_7_21_7 : ma_fld 7 21 7 = some 2 := by decide +kernel
theorem f_7_24_7 : ma_fld 7 24 7 = some 3 := by decide +kernel
theorem f_7_27_7 : ma_fld 7 27 7 = some 4 := by decide +kernel
theorem f_7_36_7 : ma_fld 7 36 7 = some 5 := by decide +kernel
theorem f_7_40_7 : ma_fld 7 40 7 = some 6 := by decide +kernel
theorem f_7_43_7 : ma_fld 7 43 7 = some 7 := by decide +kernel
theorem f_7_46_7 : ma_fld 7 46 7 = some 8 := by decide +kernel
theorem f_7_49_7 : ma_fld 7 49 7 = some 9 := by decide +kernel
theorem f_7_52_7 : ma_fld 7 52 7 = some 10 := by decide +kernel
theorem f_7_55_7 : ma_fld 7 55 7 = some 11 := by decide +kernel
theorem f_7_61_9 : ma_fld 7 61 9 = some 4 := by decide +kernel
theorem f_7_64_9 : ma_fld 7 64 9 = some 2 := by decide +kernel
theorem f_7_67_9 : ma_fld 7 67 9 = some 0 := by decide +kernel
theorem f_7_74_9 : ma_fld 7 74 9 = some 3 := by decide +kernel
theorem f_7_98_9 : ma_fld 7 98 9 = some 6 := by decide +kernel
theorem f_7_101_9 : ma_fld 7 101 9 = some 7 := by decide +kernel
theorem f_7_108_9 : ma_fld 7 108 9 = some 8 := by decide +kernel
theorem f_10_9_10 : ma_fld 10 9 10 = some 1 := by decide +kernel
theorem f_10_15_10 : ma_fld 10 15 10 = some 2 := by decide +kernel
theorem f_10_18_10 : ma_fld 10 18 10 = some 0 := by decide +kernel
theorem f_10_28_10 : ma_fld 10 28 10 = some 3 := by decide +kernel
theorem f_10_32_10 : ma_fld 10 32 10 = some 4 := by decide +kernel
theorem f_10_35_10 : ma_fld 10 35 10 = some 5 := by decide +kernel
theorem f_10_49_9 : ma_fld 10 49 9 = some 4 := by decide +kernel
theorem f_10_58_9 : ma_fld 10 58 9 = some 0 := by decide +kernel
theorem f_10_61_7 : ma_fld 10 61 7 = some 2 := by decide +kernel
theorem f_10_74_7 : ma_fld 10 74 7 = some 5 := by decide +kernel
theorem f_10_77_7 : ma_fld 10 77 7 = some 4 := by decide +kernel
theorem f_10_80_7 : ma_fld 10 80 7 = some 6 := by decide +kernel
theorem f_10_83_9 : ma_fld 10 83 9 = some 7 := by decide +kernel
theorem f_10_89_9 : ma_fld 10 89 9 = some 2 := by decide +kernel
theorem f_11_182_9 : ma_fld 11 182 9 = some 0 := by decide +kernel
theorem p_7_36_7 : ma_pk 7 36 7 5 = true := by decide +kernel
theorem p_7_43_7 : ma_pk 7 43 7 7 = true := by decide +kernel
theorem p_7_46_7 : ma_pk 7 46 7 8 = true := by decide +kernel
theorem p_7_49_7 : ma_pk 7 49 7 9 = true := by decide +kernel
theorem p_7_52_7 : ma_pk 7 52 7 10 = true := by decide +kernel
theorem p_7_55_7 : ma_pk 7 55 7 11 = true := by decide +kernel
theorem p_7_61_9 : ma_pk 7 61 9 4 = true := by decide +kernel
theorem p_7_98_9 : ma_pk 7 98 9 6 = true := by decide +kernel
theorem p_7_101_9 : ma_pk 7 101 9 7 = true := by decide +kernel
theorem p_7_108_9 : ma_pk 7 108 9 8 = true := by decide +kernel
theorem p_10_28_10 : ma_pk 10 28 10 3 = true := by decide +kernel
theorem p_10_32_10 : ma_pk 10 32 10 4 = true := by decide +kernel
theorem p_10_35_10 : ma_pk 10 35 10 5 = true := by decide +kernel
theorem v_7_78_7 : ma_vl 7 78 7 = some (0, 82, 2) := by decide +kernel
theorem v_7_86_7 : ma_vl 7 86 7 = some (0, 95, 3) := by decide +kernel
theorem v_7_94_7 : ma_vl 7 94 7 = some (0, 81, 1) := by decide +kernel
theorem v_7_104_7 : ma_vl 7 104 7 = some (0, 85, 1) := by decide +kernel
theorem v_7_112_7 : ma_vl 7 112 7 = some (1, 88, 2) := by decide +kernel
theorem v_7_128_10 : ma_vl 7 128 10 = some (0, 122, 1) := by decide +kernel
theorem v_7_134_7 : ma_vl 7 134 7 = some (0, 84, 1) := by decide +kernel
theorem v_7_137_10 : ma_vl 7 137 10 = some (0, 119, 1) := by decide +kernel
theorem v_7_140_10 : ma_vl 7 140 10 = some (0, 120, 1) := by decide +kernel
theorem v_7_144_7 : ma_vl 7 144 7 = some (0, 87, 1) := by decide +kernel
theorem v_10_38_10 : ma_vl 10 38 10 = some (0, 117, 1) := by decide +kernel
theorem v_10_42_10 : ma_vl 10 42 10 = some (0, 118, 0) := by decide +kernel
theorem v_10_45_10 : ma_vl 10 45 10 = some (0, 120, 1) := by decide +kernel
theorem v_10_54_10 : ma_vl 10 54 10 = some (0, 123, 1) := by decide +kernel
theorem v_10_66_7 : ma_vl 10 66 7 = some (0, 81, 1) := by decide +kernel
theorem v_10_70_10 : ma_vl 10 70 10 = some (0, 119, 1) := by decide +kernel
theorem v_10_86_10 : ma_vl 10 86 10 = some (0, 121, 1) := by decide +kernel
theorem v_10_92_7 : ma_vl 10 92 7 = some (0, 82, 2) := by decide +kernel
theorem sl_7_82 : ma_sl 7 82 = some (8, 146, 1) := by decide +kernel
theorem pn_7_82 : ma_prt 7 82 = none := by decide +kernel
theorem sl_7_90 : ma_sl 7 90 = some (5, 93, 2) := by decide +kernel
theorem pn_7_90 : ma_prt 7 90 = none := by decide +kernel
theorem sl_10_22 : ma_sl 10 22 = some (5, 276, 2) := by decide +kernel
theorem pn_10_22 : ma_prt 10 22 = none := by decide +kernel
theorem pr_7_116 : ma_prt 7 116 = some 1 := by decide +kernel
theorem pr_7_122 : ma_prt 7 122 = some 3 := by decide +kernel
