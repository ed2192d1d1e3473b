/-! from 95.a1 -/
/-! tables and instructions -/
set_option maxRecDepth 100000 in
theorem hm_38 : ma_md 38 = some (4, yX4_open, cX4_open, 2, none) := rfl
set_option maxRecDepth 100000 in
theorem hm_39 : ma_md 39 = some (4, yX4_total, cX4_total, 1, (some (FieldType.int))) := rfl
set_option maxRecDepth 100000 in
theorem hm_40 : ma_md 40 = some (4, yX4_findRoom, cX4_findRoom, 2, (some (FieldType.int))) := rfl
set_option maxRecDepth 100000 in
theorem hm_41 : ma_md 41 = some (4, yX4_fits, cX4_fits, 3, (some (FieldType.boolean))) := rfl
set_option maxRecDepth 100000 in
theorem hm_42 : ma_md 42 = some (4, yX4_specials, cX4_specials, 3, (some (FieldType.int))) := rfl
set_option maxRecDepth 100000 in
theorem hm_43 : ma_md 43 = some (4, yX4_cleanAll, cX4_cleanAll, 4, (some (FieldType.int))) := rfl
set_option maxRecDepth 100000 in
theorem hm_44 : ma_md 44 = some (4, yX4_sumKept, cX4_sumKept, 3, none) := rfl
set_option maxRecDepth 100000 in
theorem hm_45 : ma_md 45 = some (4, yX4_regionOf, cX4_regionOf, 2, (some (FieldType.int))) := rfl
set_option maxRecDepth 100000 in
theorem hm_46 : ma_md 46 = some (4, yX4_emptyWhereNothingIsLeft, cX4_emptyWhereNothingIsLeft, 2, none) := rfl
set_option maxRecDepth 100000 in
theorem hm_47 : ma_md 47 = some (4, yX4_chooseLeaving, cX4_chooseLeaving, 3, none) := rfl
set_option maxRecDepth 100000 in
theorem hm_48 : ma_md 48 = some (4, yX4_fewestLeaving, cX4_fewestLeaving, 3, (some (FieldType.int))) := rfl
set_option maxRecDepth 100000 in
theorem hm_49 : ma_md 49 = some (4, yX4_moveAll, cX4_moveAll, 5, (some (FieldType.boolean))) := rfl
set_option maxRecDepth 100000 in
theorem hm_50 : ma_md 50 = some (4, yX4_topOf, cX4_topOf, 2, (some (FieldType.int))) := rfl
set_option maxRecDepth 100000 in
theorem hm_51 : ma_md 51 = some (4, yX4_moveOut, cX4_moveOut, 3, (some (FieldType.boolean))) := rfl
set_option maxRecDepth 100000 in
theorem hm_52 : ma_md 52 = some (4, yX4_leastEmpty, cX4_leastEmpty, 2, (some (FieldType.int))) := rfl
set_option maxRecDepth 100000 in
theorem hm_53 : ma_md 53 = some (4, yX4_raiseTop, cX4_raiseTop, 3, none) := rfl
set_option maxRecDepth 100000 in
theorem hm_54 : ma_md 54 = some (4, yX4_orElse, cX4_orElse, 2, (some (FieldType.int))) := rfl
set_option maxRecDepth 100000 in
theorem hm_55 : ma_md 55 = some (4, yX4_topPlace, cX4_topPlace, 1, (some (FieldType.int))) := rfl
set_option maxRecDepth 100000 in
theorem hm_56 : ma_md 56 = some (4, yX4_noteMade, cX4_noteMade, 2, none) := rfl
set_option maxRecDepth 100000 in
theorem hm_57 : ma_md 57 = some (4, yX4_oldTopOrRegion, cX4_oldTopOrRegion, 1, (some (FieldType.int))) := rfl
theorem s_92 : zs 92 = some (20, 93) := rfl
theorem s_93 : zs 93 = some (20, 93) := rfl
theorem r_91_7 : zfi 91 7 = some 92 := rfl
theorem r_91_8 : zfi 91 8 = some 93 := rfl
theorem f_4_9_4 : ma_fld 4 9 4 = some 7 := by decide +kernel
theorem f_4_15_4 : ma_fld 4 15 4 = some 8 := by decide +kernel
theorem f_4_18_4 : ma_fld 4 18 4 = some 2 := by decide +kernel
theorem f_4_28_4 : ma_fld 4 28 4 = some 3 := by decide +kernel
theorem f_4_31_4 : ma_fld 4 31 4 = some 4 := by decide +kernel
theorem f_4_34_4 : ma_fld 4 34 4 = some 5 := by decide +kernel
theorem f_4_63_9 : ma_fld 4 63 9 = some 2 := by decide +kernel
theorem f_4_83_4 : ma_fld 4 83 4 = some 6 := by decide +kernel
theorem f_4_97_9 : ma_fld 4 97 9 = some 4 := by decide +kernel
theorem f_4_100_4 : ma_fld 4 100 4 = some 0 := by decide +kernel
theorem f_4_104_7 : ma_fld 4 104 7 = some 6 := by decide +kernel
theorem f_4_117_9 : ma_fld 4 117 9 = some 7 := by decide +kernel
theorem p_4_18_4 : ma_pk 4 18 4 2 = true := by decide +kernel
theorem p_4_28_4 : ma_pk 4 28 4 3 = true := by decide +kernel
theorem p_4_31_4 : ma_pk 4 31 4 4 = true := by decide +kernel
theorem p_4_34_4 : ma_pk 4 34 4 5 = true := by decide +kernel
theorem p_4_83_4 : ma_pk 4 83 4 6 = true := by decide +kernel
theorem v_4_43_4 : ma_vl 4 43 4 = some (1, 41, 2) := by decide +kernel
theorem v_4_47_4 : ma_vl 4 47 4 = some (0, 42, 0) := by decide +kernel
theorem v_4_51_4 : ma_vl 4 51 4 = some (0, 43, 0) := by decide +kernel
theorem v_4_54_4 : ma_vl 4 54 4 = some (1, 52, 0) := by decide +kernel
theorem v_4_60_4 : ma_vl 4 60 4 = some (0, 55, 0) := by decide +kernel
theorem v_4_66_4 : ma_vl 4 66 4 = some (1, 53, 2) := by decide +kernel
theorem v_4_70_4 : ma_vl 4 70 4 = some (2, 264, 0) := by decide +kernel
theorem v_4_73_4 : ma_vl 4 73 4 = some (1, 44, 0) := by decide +kernel
theorem v_4_77_4 : ma_vl 4 77 4 = some (1, 46, 0) := by decide +kernel
theorem v_4_80_4 : ma_vl 4 80 4 = some (1, 47, 0) := by decide +kernel
theorem v_4_86_4 : ma_vl 4 86 4 = some (1, 48, 0) := by decide +kernel
theorem v_4_89_4 : ma_vl 4 89 4 = some (1, 49, 1) := by decide +kernel
theorem v_4_93_4 : ma_vl 4 93 4 = some (1, 50, 1) := by decide +kernel
theorem v_4_109_7 : ma_vl 4 109 7 = some (0, 81, 1) := by decide +kernel
theorem v_4_113_4 : ma_vl 4 113 4 = some (1, 45, 1) := by decide +kernel
theorem v_4_120_7 : ma_vl 4 120 7 = some (0, 89, 1) := by decide +kernel
theorem v_4_123_4 : ma_vl 4 123 4 = some (1, 51, 1) := by decide +kernel
theorem v_4_127_7 : ma_vl 4 127 7 = some (0, 90, 2) := by decide +kernel
theorem sl_4_37 : ma_sl 4 37 = some (5, 276, 2) := by decide +kernel
theorem pn_4_37 : ma_prt 4 37 = none := by decide +kernel
theorem sl_4_57 : ma_sl 4 57 = some (5, 54, 2) := by decide +kernel
theorem pn_4_57 : ma_prt 4 57 = none := by decide +kernel
theorem pr_4_22 : ma_prt 4 22 = some 2 := by decide +kernel
theorem dX4_total_0 : decode cX4_total 0 = .ok (.aload_n 0, 1) := by decide +kernel
theorem dX4_total_4 : decode cX4_total 4 = .ok (.aload_n 0, 1) := by decide +kernel
theorem dX4_total_8 : decode cX4_total 8 = .ok (.imul, 1) := by decide +kernel
theorem dX4_total_9 : decode cX4_total 9 = .ok (.ireturn, 1) := by decide +kernel
theorem dX4_total_5 : decode cX4_total 5 = .ok (.getfield 18, 3) := by decide +kernel
theorem dX4_total_1 : decode cX4_total 1 = .ok (.getfield 28, 3) := by decide +kernel
theorem dX4_oldTopOrRegion_0 : decode cX4_oldTopOrRegion 0 = .ok (.aload_n 0, 1) := by decide +kernel
theorem dX4_oldTopOrRegion_4 : decode cX4_oldTopOrRegion 4 = .ok (.ireturn, 1) := by decide +kernel
theorem dX4_oldTopOrRegion_1 : decode cX4_oldTopOrRegion 1 = .ok (.getfield 34, 3) := by decide +kernel
theorem dX4_topPlace_0 : decode cX4_topPlace 0 = .ok (.aload_n 0, 1) := by decide +kernel
theorem dX4_topPlace_4 : decode cX4_topPlace 4 = .ok (.aload_n 0, 1) := by decide +kernel
theorem dX4_topPlace_8 : decode cX4_topPlace 8 = .ok (.imul, 1) := by decide +kernel
theorem dX4_topPlace_9 : decode cX4_topPlace 9 = .ok (.aload_n 0, 1) := by decide +kernel
theorem dX4_topPlace_10 : decode cX4_topPlace 10 = .ok (.aload_n 0, 1) := by decide +kernel
theorem dX4_topPlace_14 : decode cX4_topPlace 14 = .ok (.invokevirtual 93, 3) := by decide +kernel
theorem dX4_topOf_0 : decode cX4_topOf 0 = .ok (.iload_n 1, 1) := by decide +kernel
theorem dX4_topOf_19 : decode cX4_topOf 19 = .ok (.iconst 0, 1) := by decide +kernel
theorem dX4_topPlace_17 : decode cX4_topPlace 17 = .ok (.iadd, 1) := by decide +kernel
theorem dX4_topPlace_18 : decode cX4_topPlace 18 = .ok (.ireturn, 1) := by decide +kernel
theorem dX4_topOf_20 : decode cX4_topOf 20 = .ok (.ireturn, 1) := by decide +kernel
theorem dX4_topOf_4 : decode cX4_topOf 4 = .ok (.iload_n 1, 1) := by decide +kernel
theorem dX4_topOf_5 : decode cX4_topOf 5 = .ok (.bipush 93, 2) := by decide +kernel
theorem dX4_topOf_10 : decode cX4_topOf 10 = .ok (.aload_n 0, 1) := by decide +kernel
theorem dX4_topOf_14 : decode cX4_topOf 14 = .ok (.iload_n 1, 1) := by decide +kernel
theorem dX4_topOf_16 : decode cX4_topOf 16 = .ok (.goto 4, 3) := by decide +kernel
theorem dX4_topOf_15 : decode cX4_topOf 15 = .ok (.iaload, 1) := by decide +kernel
theorem dX4_topOf_11 : decode cX4_topOf 11 = .ok (.getfield 9, 3) := by decide +kernel
theorem dX4_topOf_7 : decode cX4_topOf 7 = .ok (.if_icmp .ge 12, 3) := by decide +kernel
theorem dX4_topOf_1 : decode cX4_topOf 1 = .ok (.ifCond .lt 18, 3) := by decide +kernel
theorem dX4_topPlace_11 : decode cX4_topPlace 11 = .ok (.getfield 34, 3) := by decide +kernel
theorem dX4_topPlace_5 : decode cX4_topPlace 5 = .ok (.getfield 18, 3) := by decide +kernel
theorem dX4_topPlace_1 : decode cX4_topPlace 1 = .ok (.getfield 34, 3) := by decide +kernel
theorem dX4_leastEmpty_0 : decode cX4_leastEmpty 0 = .ok (.iconst 0, 1) := by decide +kernel
theorem dX4_leastEmpty_1 : decode cX4_leastEmpty 1 = .ok (.istore_n 1, 1) := by decide +kernel
theorem dX4_leastEmpty_2 : decode cX4_leastEmpty 2 = .ok (.iload_n 1, 1) := by decide +kernel
theorem dX4_leastEmpty_3 : decode cX4_leastEmpty 3 = .ok (.aload_n 0, 1) := by decide +kernel
theorem dX4_leastEmpty_33 : decode cX4_leastEmpty 33 = .ok (.iconst (-1), 1) := by decide +kernel
theorem dX4_leastEmpty_34 : decode cX4_leastEmpty 34 = .ok (.ireturn, 1) := by decide +kernel
theorem dX4_leastEmpty_10 : decode cX4_leastEmpty 10 = .ok (.iload_n 1, 1) := by decide +kernel
theorem dX4_leastEmpty_11 : decode cX4_leastEmpty 11 = .ok (.bipush 93, 2) := by decide +kernel
theorem dX4_leastEmpty_16 : decode cX4_leastEmpty 16 = .ok (.aload_n 0, 1) := by decide +kernel
theorem dX4_leastEmpty_20 : decode cX4_leastEmpty 20 = .ok (.iload_n 1, 1) := by decide +kernel
theorem dX4_leastEmpty_27 : decode cX4_leastEmpty 27 = .ok (.iinc 1 1, 3) := by decide +kernel
theorem dX4_leastEmpty_30 : decode cX4_leastEmpty 30 = .ok (.goto (-28), 3) := by decide +kernel
theorem dX4_leastEmpty_25 : decode cX4_leastEmpty 25 = .ok (.iload_n 1, 1) := by decide +kernel
theorem dX4_leastEmpty_26 : decode cX4_leastEmpty 26 = .ok (.ireturn, 1) := by decide +kernel
theorem dX4_leastEmpty_22 : decode cX4_leastEmpty 22 = .ok (.ifCond .ne 5, 3) := by decide +kernel
theorem dX4_leastEmpty_21 : decode cX4_leastEmpty 21 = .ok (.iaload, 1) := by decide +kernel
theorem dX4_leastEmpty_17 : decode cX4_leastEmpty 17 = .ok (.getfield 9, 3) := by decide +kernel
theorem dX4_leastEmpty_13 : decode cX4_leastEmpty 13 = .ok (.if_icmp .ge 20, 3) := by decide +kernel
theorem dX4_leastEmpty_7 : decode cX4_leastEmpty 7 = .ok (.if_icmp .ge 26, 3) := by decide +kernel
theorem dX4_leastEmpty_4 : decode cX4_leastEmpty 4 = .ok (.getfield 28, 3) := by decide +kernel
theorem dX4_specials_0 : decode cX4_specials 0 = .ok (.iconst 0, 1) := by decide +kernel
theorem dX4_specials_1 : decode cX4_specials 1 = .ok (.istore_n 1, 1) := by decide +kernel
theorem dX4_specials_2 : decode cX4_specials 2 = .ok (.iconst 0, 1) := by decide +kernel
theorem dX4_specials_3 : decode cX4_specials 3 = .ok (.istore_n 2, 1) := by decide +kernel
theorem dX4_specials_4 : decode cX4_specials 4 = .ok (.iload_n 2, 1) := by decide +kernel
theorem dX4_specials_5 : decode cX4_specials 5 = .ok (.aload_n 0, 1) := by decide +kernel
theorem dX4_specials_36 : decode cX4_specials 36 = .ok (.iload_n 1, 1) := by decide +kernel
theorem dX4_specials_37 : decode cX4_specials 37 = .ok (.ireturn, 1) := by decide +kernel
theorem dX4_specials_12 : decode cX4_specials 12 = .ok (.iload_n 2, 1) := by decide +kernel
theorem dX4_specials_13 : decode cX4_specials 13 = .ok (.bipush 93, 2) := by decide +kernel
theorem dX4_specials_18 : decode cX4_specials 18 = .ok (.aload_n 0, 1) := by decide +kernel
theorem dX4_specials_22 : decode cX4_specials 22 = .ok (.iload_n 2, 1) := by decide +kernel
theorem dX4_specials_30 : decode cX4_specials 30 = .ok (.iinc 2 1, 3) := by decide +kernel
theorem dX4_specials_33 : decode cX4_specials 33 = .ok (.goto (-29), 3) := by decide +kernel
theorem dX4_specials_27 : decode cX4_specials 27 = .ok (.iinc 1 1, 3) := by decide +kernel
theorem dX4_specials_24 : decode cX4_specials 24 = .ok (.ifCond .ne 6, 3) := by decide +kernel
theorem dX4_specials_23 : decode cX4_specials 23 = .ok (.iaload, 1) := by decide +kernel
theorem dX4_specials_19 : decode cX4_specials 19 = .ok (.getfield 9, 3) := by decide +kernel
theorem dX4_specials_15 : decode cX4_specials 15 = .ok (.if_icmp .ge 21, 3) := by decide +kernel
theorem dX4_specials_9 : decode cX4_specials 9 = .ok (.if_icmp .ge 27, 3) := by decide +kernel
theorem dX4_specials_6 : decode cX4_specials 6 = .ok (.getfield 28, 3) := by decide +kernel
theorem dX4_sumKept_0 : decode cX4_sumKept 0 = .ok (.aload_n 0, 1) := by decide +kernel
theorem dX4_sumKept_4 : decode cX4_sumKept 4 = .ok (.iconst 0, 1) := by decide +kernel
theorem dX4_sumKept_5 : decode cX4_sumKept 5 = .ok (.invokestatic 37, 3) := by decide +kernel
theorem dX4_sumKept_8 : decode cX4_sumKept 8 = .ok (.iconst 0, 1) := by decide +kernel
theorem dX4_sumKept_9 : decode cX4_sumKept 9 = .ok (.istore_n 1, 1) := by decide +kernel
theorem dX4_sumKept_1 : decode cX4_sumKept 1 = .ok (.getfield 15, 3) := by decide +kernel
theorem dX4_sumKept_10 : decode cX4_sumKept 10 = .ok (.iload_n 1, 1) := by decide +kernel
theorem dX4_sumKept_11 : decode cX4_sumKept 11 = .ok (.aload_n 0, 1) := by decide +kernel
theorem dX4_sumKept_57 : decode cX4_sumKept 57 = .ok (.return_, 1) := by decide +kernel
theorem dX4_sumKept_21 : decode cX4_sumKept 21 = .ok (.aload_n 0, 1) := by decide +kernel
theorem dX4_sumKept_25 : decode cX4_sumKept 25 = .ok (.iload_n 1, 1) := by decide +kernel
theorem dX4_sumKept_26 : decode cX4_sumKept 26 = .ok (.invokevirtual 109, 3) := by decide +kernel
theorem dX4_sumKept_29 : decode cX4_sumKept 29 = .ok (.astore_n 2, 1) := by decide +kernel
theorem dX4_sumKept_30 : decode cX4_sumKept 30 = .ok (.aload_n 2, 1) := by decide +kernel
theorem dX4_sumKept_31 : decode cX4_sumKept 31 = .ok (.ifnull 20, 3) := by decide +kernel
theorem dX4_sumKept_51 : decode cX4_sumKept 51 = .ok (.iinc 1 1, 3) := by decide +kernel
theorem dX4_sumKept_54 : decode cX4_sumKept 54 = .ok (.goto (-44), 3) := by decide +kernel
theorem dX4_sumKept_34 : decode cX4_sumKept 34 = .ok (.aload_n 0, 1) := by decide +kernel
theorem dX4_sumKept_38 : decode cX4_sumKept 38 = .ok (.aload_n 0, 1) := by decide +kernel
theorem dX4_sumKept_39 : decode cX4_sumKept 39 = .ok (.aload_n 2, 1) := by decide +kernel
theorem dX4_sumKept_40 : decode cX4_sumKept 40 = .ok (.invokevirtual 113, 3) := by decide +kernel
theorem dX4_regionOf_0 : decode cX4_regionOf 0 = .ok (.aload_n 0, 1) := by decide +kernel
theorem dX4_regionOf_24 : decode cX4_regionOf 24 = .ok (.iconst 0, 1) := by decide +kernel
theorem dX4_sumKept_43 : decode cX4_sumKept 43 = .ok (.dup2, 1) := by decide +kernel
theorem dX4_sumKept_45 : decode cX4_sumKept 45 = .ok (.aload_n 2, 1) := by decide +kernel
theorem dX4_sumKept_49 : decode cX4_sumKept 49 = .ok (.iadd, 1) := by decide +kernel
theorem dX4_sumKept_50 : decode cX4_sumKept 50 = .ok (.iastore, 1) := by decide +kernel
theorem dX4_sumKept_46 : decode cX4_sumKept 46 = .ok (.getfield 63, 3) := by decide +kernel
theorem dX4_sumKept_44 : decode cX4_sumKept 44 = .ok (.iaload, 1) := by decide +kernel
theorem dX4_regionOf_25 : decode cX4_regionOf 25 = .ok (.ireturn, 1) := by decide +kernel
theorem dX4_regionOf_7 : decode cX4_regionOf 7 = .ok (.aload_n 1, 1) := by decide +kernel
theorem dX4_regionOf_11 : decode cX4_regionOf 11 = .ok (.aload_n 0, 1) := by decide +kernel
theorem dX4_regionOf_16 : decode cX4_regionOf 16 = .ok (.bipush 92, 2) := by decide +kernel
theorem dX4_regionOf_18 : decode cX4_regionOf 18 = .ok (.invokestatic 22, 3) := by decide +kernel
theorem dX4_regionOf_21 : decode cX4_regionOf 21 = .ok (.goto 4, 3) := by decide +kernel
theorem dX4_regionOf_15 : decode cX4_regionOf 15 = .ok (.idiv, 1) := by decide +kernel
theorem dX4_regionOf_12 : decode cX4_regionOf 12 = .ok (.getfield 18, 3) := by decide +kernel
theorem dX4_regionOf_8 : decode cX4_regionOf 8 = .ok (.getfield 97, 3) := by decide +kernel
theorem dX4_regionOf_4 : decode cX4_regionOf 4 = .ok (.ifCond .le 20, 3) := by decide +kernel
theorem dX4_regionOf_1 : decode cX4_regionOf 1 = .ok (.getfield 18, 3) := by decide +kernel
theorem dX4_sumKept_35 : decode cX4_sumKept 35 = .ok (.getfield 15, 3) := by decide +kernel
theorem dX4_sumKept_22 : decode cX4_sumKept 22 = .ok (.getfield 100, 3) := by decide +kernel
theorem dX4_sumKept_18 : decode cX4_sumKept 18 = .ok (.if_icmp .ge 39, 3) := by decide +kernel
theorem dX4_sumKept_15 : decode cX4_sumKept 15 = .ok (.getfield 104, 3) := by decide +kernel
theorem dX4_sumKept_12 : decode cX4_sumKept 12 = .ok (.getfield 100, 3) := by decide +kernel
theorem dX4_emptyWhereNothingIsLeft_0 : decode cX4_emptyWhereNothingIsLeft 0 = .ok (.iconst 0, 1) := by decide +kernel
theorem dX4_emptyWhereNothingIsLeft_1 : decode cX4_emptyWhereNothingIsLeft 1 = .ok (.istore_n 1, 1) := by decide +kernel
theorem dX4_emptyWhereNothingIsLeft_2 : decode cX4_emptyWhereNothingIsLeft 2 = .ok (.iload_n 1, 1) := by decide +kernel
theorem dX4_emptyWhereNothingIsLeft_3 : decode cX4_emptyWhereNothingIsLeft 3 = .ok (.bipush 93, 2) := by decide +kernel
theorem dX4_emptyWhereNothingIsLeft_30 : decode cX4_emptyWhereNothingIsLeft 30 = .ok (.return_, 1) := by decide +kernel
theorem dX4_emptyWhereNothingIsLeft_8 : decode cX4_emptyWhereNothingIsLeft 8 = .ok (.aload_n 0, 1) := by decide +kernel
theorem dX4_emptyWhereNothingIsLeft_12 : decode cX4_emptyWhereNothingIsLeft 12 = .ok (.iload_n 1, 1) := by decide +kernel
theorem dX4_emptyWhereNothingIsLeft_24 : decode cX4_emptyWhereNothingIsLeft 24 = .ok (.iinc 1 1, 3) := by decide +kernel
theorem dX4_emptyWhereNothingIsLeft_27 : decode cX4_emptyWhereNothingIsLeft 27 = .ok (.goto (-25), 3) := by decide +kernel
theorem dX4_emptyWhereNothingIsLeft_17 : decode cX4_emptyWhereNothingIsLeft 17 = .ok (.aload_n 0, 1) := by decide +kernel
theorem dX4_emptyWhereNothingIsLeft_21 : decode cX4_emptyWhereNothingIsLeft 21 = .ok (.iload_n 1, 1) := by decide +kernel
theorem dX4_emptyWhereNothingIsLeft_22 : decode cX4_emptyWhereNothingIsLeft 22 = .ok (.iconst 0, 1) := by decide +kernel
theorem dX4_emptyWhereNothingIsLeft_23 : decode cX4_emptyWhereNothingIsLeft 23 = .ok (.iastore, 1) := by decide +kernel
theorem dX4_emptyWhereNothingIsLeft_18 : decode cX4_emptyWhereNothingIsLeft 18 = .ok (.getfield 9, 3) := by decide +kernel
theorem dX4_emptyWhereNothingIsLeft_14 : decode cX4_emptyWhereNothingIsLeft 14 = .ok (.ifCond .ne 10, 3) := by decide +kernel
theorem dX4_emptyWhereNothingIsLeft_13 : decode cX4_emptyWhereNothingIsLeft 13 = .ok (.iaload, 1) := by decide +kernel
theorem dX4_emptyWhereNothingIsLeft_9 : decode cX4_emptyWhereNothingIsLeft 9 = .ok (.getfield 15, 3) := by decide +kernel
theorem dX4_emptyWhereNothingIsLeft_5 : decode cX4_emptyWhereNothingIsLeft 5 = .ok (.if_icmp .ge 25, 3) := by decide +kernel
theorem dX4_chooseLeaving_0 : decode cX4_chooseLeaving 0 = .ok (.iconst 0, 1) := by decide +kernel
theorem dX4_chooseLeaving_1 : decode cX4_chooseLeaving 1 = .ok (.istore_n 1, 1) := by decide +kernel
theorem dX4_chooseLeaving_2 : decode cX4_chooseLeaving 2 = .ok (.iload_n 1, 1) := by decide +kernel
theorem dX4_chooseLeaving_3 : decode cX4_chooseLeaving 3 = .ok (.bipush 93, 2) := by decide +kernel
theorem dX4_chooseLeaving_50 : decode cX4_chooseLeaving 50 = .ok (.iconst 0, 1) := by decide +kernel
theorem dX4_chooseLeaving_51 : decode cX4_chooseLeaving 51 = .ok (.istore_n 1, 1) := by decide +kernel
theorem dX4_chooseLeaving_8 : decode cX4_chooseLeaving 8 = .ok (.iload_n 1, 1) := by decide +kernel
theorem dX4_chooseLeaving_9 : decode cX4_chooseLeaving 9 = .ok (.aload_n 0, 1) := by decide +kernel
theorem dX4_chooseLeaving_37 : decode cX4_chooseLeaving 37 = .ok (.aload_n 0, 1) := by decide +kernel
theorem dX4_chooseLeaving_41 : decode cX4_chooseLeaving 41 = .ok (.iload_n 1, 1) := by decide +kernel
theorem dX4_chooseLeaving_42 : decode cX4_chooseLeaving 42 = .ok (.iconst 0, 1) := by decide +kernel
theorem dX4_chooseLeaving_44 : decode cX4_chooseLeaving 44 = .ok (.iinc 1 1, 3) := by decide +kernel
theorem dX4_chooseLeaving_47 : decode cX4_chooseLeaving 47 = .ok (.goto (-45), 3) := by decide +kernel
theorem dX4_chooseLeaving_43 : decode cX4_chooseLeaving 43 = .ok (.iastore, 1) := by decide +kernel
theorem dX4_chooseLeaving_38 : decode cX4_chooseLeaving 38 = .ok (.getfield 15, 3) := by decide +kernel
theorem dX4_chooseLeaving_16 : decode cX4_chooseLeaving 16 = .ok (.aload_n 0, 1) := by decide +kernel
theorem dX4_chooseLeaving_20 : decode cX4_chooseLeaving 20 = .ok (.iload_n 1, 1) := by decide +kernel
theorem dX4_chooseLeaving_22 : decode cX4_chooseLeaving 22 = .ok (.bipush 100, 2) := by decide +kernel
theorem dX4_chooseLeaving_24 : decode cX4_chooseLeaving 24 = .ok (.imul, 1) := by decide +kernel
theorem dX4_chooseLeaving_25 : decode cX4_chooseLeaving 25 = .ok (.aload_n 0, 1) := by decide +kernel
theorem dX4_chooseLeaving_29 : decode cX4_chooseLeaving 29 = .ok (.aload_n 0, 1) := by decide +kernel
theorem dX4_chooseLeaving_33 : decode cX4_chooseLeaving 33 = .ok (.imul, 1) := by decide +kernel
theorem dX4_chooseLeaving_34 : decode cX4_chooseLeaving 34 = .ok (.if_icmp .le 10, 3) := by decide +kernel
theorem dX4_chooseLeaving_30 : decode cX4_chooseLeaving 30 = .ok (.getfield 18, 3) := by decide +kernel
theorem dX4_chooseLeaving_26 : decode cX4_chooseLeaving 26 = .ok (.getfield 31, 3) := by decide +kernel
theorem dX4_chooseLeaving_21 : decode cX4_chooseLeaving 21 = .ok (.iaload, 1) := by decide +kernel
theorem dX4_chooseLeaving_17 : decode cX4_chooseLeaving 17 = .ok (.getfield 15, 3) := by decide +kernel
theorem dX4_chooseLeaving_13 : decode cX4_chooseLeaving 13 = .ok (.if_icmp .eq 24, 3) := by decide +kernel
theorem dX4_chooseLeaving_10 : decode cX4_chooseLeaving 10 = .ok (.getfield 34, 3) := by decide +kernel
theorem dX4_chooseLeaving_5 : decode cX4_chooseLeaving 5 = .ok (.if_icmp .ge 45, 3) := by decide +kernel
theorem dX4_chooseLeaving_52 : decode cX4_chooseLeaving 52 = .ok (.iload_n 1, 1) := by decide +kernel
theorem dX4_chooseLeaving_53 : decode cX4_chooseLeaving 53 = .ok (.aload_n 0, 1) := by decide +kernel
theorem dX4_chooseLeaving_100 : decode cX4_chooseLeaving 100 = .ok (.return_, 1) := by decide +kernel
theorem dX4_chooseLeaving_63 : decode cX4_chooseLeaving 63 = .ok (.aload_n 0, 1) := by decide +kernel
theorem dX4_chooseLeaving_67 : decode cX4_chooseLeaving 67 = .ok (.iload_n 1, 1) := by decide +kernel
theorem dX4_chooseLeaving_68 : decode cX4_chooseLeaving 68 = .ok (.invokevirtual 109, 3) := by decide +kernel
theorem dX4_chooseLeaving_71 : decode cX4_chooseLeaving 71 = .ok (.astore_n 2, 1) := by decide +kernel
theorem dX4_chooseLeaving_72 : decode cX4_chooseLeaving 72 = .ok (.aload_n 2, 1) := by decide +kernel
theorem dX4_chooseLeaving_73 : decode cX4_chooseLeaving 73 = .ok (.ifnull 21, 3) := by decide +kernel
theorem dX4_chooseLeaving_94 : decode cX4_chooseLeaving 94 = .ok (.iinc 1 1, 3) := by decide +kernel
theorem dX4_chooseLeaving_97 : decode cX4_chooseLeaving 97 = .ok (.goto (-45), 3) := by decide +kernel
theorem dX4_chooseLeaving_76 : decode cX4_chooseLeaving 76 = .ok (.aload_n 2, 1) := by decide +kernel
theorem dX4_chooseLeaving_83 : decode cX4_chooseLeaving 83 = .ok (.aload_n 0, 1) := by decide +kernel
theorem dX4_chooseLeaving_87 : decode cX4_chooseLeaving 87 = .ok (.aload_n 0, 1) := by decide +kernel
theorem dX4_chooseLeaving_88 : decode cX4_chooseLeaving 88 = .ok (.aload_n 2, 1) := by decide +kernel
theorem dX4_chooseLeaving_89 : decode cX4_chooseLeaving 89 = .ok (.invokevirtual 113, 3) := by decide +kernel
theorem dX4_chooseLeaving_92 : decode cX4_chooseLeaving 92 = .ok (.iconst 0, 1) := by decide +kernel
theorem dX4_chooseLeaving_93 : decode cX4_chooseLeaving 93 = .ok (.iastore, 1) := by decide +kernel
theorem dX4_chooseLeaving_84 : decode cX4_chooseLeaving 84 = .ok (.getfield 15, 3) := by decide +kernel
theorem dX4_chooseLeaving_80 : decode cX4_chooseLeaving 80 = .ok (.ifCond .le 14, 3) := by decide +kernel
theorem dX4_chooseLeaving_77 : decode cX4_chooseLeaving 77 = .ok (.getfield 117, 3) := by decide +kernel
theorem dX4_chooseLeaving_64 : decode cX4_chooseLeaving 64 = .ok (.getfield 100, 3) := by decide +kernel
theorem dX4_chooseLeaving_60 : decode cX4_chooseLeaving 60 = .ok (.if_icmp .ge 40, 3) := by decide +kernel
theorem dX4_chooseLeaving_57 : decode cX4_chooseLeaving 57 = .ok (.getfield 104, 3) := by decide +kernel
theorem dX4_chooseLeaving_54 : decode cX4_chooseLeaving 54 = .ok (.getfield 100, 3) := by decide +kernel
theorem dX4_fewestLeaving_0 : decode cX4_fewestLeaving 0 = .ok (.iconst (-1), 1) := by decide +kernel
theorem dX4_fewestLeaving_1 : decode cX4_fewestLeaving 1 = .ok (.istore_n 1, 1) := by decide +kernel
theorem dX4_fewestLeaving_2 : decode cX4_fewestLeaving 2 = .ok (.iconst 0, 1) := by decide +kernel
theorem dX4_fewestLeaving_3 : decode cX4_fewestLeaving 3 = .ok (.istore_n 2, 1) := by decide +kernel
theorem dX4_fewestLeaving_4 : decode cX4_fewestLeaving 4 = .ok (.iload_n 2, 1) := by decide +kernel
theorem dX4_fewestLeaving_5 : decode cX4_fewestLeaving 5 = .ok (.bipush 93, 2) := by decide +kernel
theorem dX4_fewestLeaving_47 : decode cX4_fewestLeaving 47 = .ok (.iload_n 1, 1) := by decide +kernel
theorem dX4_fewestLeaving_48 : decode cX4_fewestLeaving 48 = .ok (.ireturn, 1) := by decide +kernel
theorem dX4_fewestLeaving_10 : decode cX4_fewestLeaving 10 = .ok (.aload_n 0, 1) := by decide +kernel
theorem dX4_fewestLeaving_14 : decode cX4_fewestLeaving 14 = .ok (.iload_n 2, 1) := by decide +kernel
theorem dX4_fewestLeaving_41 : decode cX4_fewestLeaving 41 = .ok (.iinc 2 1, 3) := by decide +kernel
theorem dX4_fewestLeaving_44 : decode cX4_fewestLeaving 44 = .ok (.goto (-40), 3) := by decide +kernel
theorem dX4_fewestLeaving_19 : decode cX4_fewestLeaving 19 = .ok (.iload_n 1, 1) := by decide +kernel
theorem dX4_fewestLeaving_20 : decode cX4_fewestLeaving 20 = .ok (.iconst (-1), 1) := by decide +kernel
theorem dX4_fewestLeaving_39 : decode cX4_fewestLeaving 39 = .ok (.iload_n 2, 1) := by decide +kernel
theorem dX4_fewestLeaving_40 : decode cX4_fewestLeaving 40 = .ok (.istore_n 1, 1) := by decide +kernel
theorem dX4_fewestLeaving_24 : decode cX4_fewestLeaving 24 = .ok (.aload_n 0, 1) := by decide +kernel
theorem dX4_fewestLeaving_28 : decode cX4_fewestLeaving 28 = .ok (.iload_n 2, 1) := by decide +kernel
theorem dX4_fewestLeaving_30 : decode cX4_fewestLeaving 30 = .ok (.aload_n 0, 1) := by decide +kernel
theorem dX4_fewestLeaving_34 : decode cX4_fewestLeaving 34 = .ok (.iload_n 1, 1) := by decide +kernel
theorem dX4_fewestLeaving_36 : decode cX4_fewestLeaving 36 = .ok (.if_icmp .ge 5, 3) := by decide +kernel
theorem dX4_fewestLeaving_35 : decode cX4_fewestLeaving 35 = .ok (.iaload, 1) := by decide +kernel
theorem dX4_fewestLeaving_31 : decode cX4_fewestLeaving 31 = .ok (.getfield 15, 3) := by decide +kernel
theorem dX4_fewestLeaving_29 : decode cX4_fewestLeaving 29 = .ok (.iaload, 1) := by decide +kernel
theorem dX4_fewestLeaving_25 : decode cX4_fewestLeaving 25 = .ok (.getfield 15, 3) := by decide +kernel
theorem dX4_fewestLeaving_21 : decode cX4_fewestLeaving 21 = .ok (.if_icmp .eq 18, 3) := by decide +kernel
theorem dX4_fewestLeaving_16 : decode cX4_fewestLeaving 16 = .ok (.ifCond .le 25, 3) := by decide +kernel
theorem dX4_fewestLeaving_15 : decode cX4_fewestLeaving 15 = .ok (.iaload, 1) := by decide +kernel
theorem dX4_fewestLeaving_11 : decode cX4_fewestLeaving 11 = .ok (.getfield 15, 3) := by decide +kernel
theorem dX4_fewestLeaving_7 : decode cX4_fewestLeaving 7 = .ok (.if_icmp .ge 40, 3) := by decide +kernel
theorem dX4_moveOut_0 : decode cX4_moveOut 0 = .ok (.aload_n 0, 1) := by decide +kernel
theorem dX4_moveOut_1 : decode cX4_moveOut 1 = .ok (.aload_n 0, 1) := by decide +kernel
theorem dX4_moveOut_5 : decode cX4_moveOut 5 = .ok (.aload_n 1, 1) := by decide +kernel
theorem dX4_moveOut_9 : decode cX4_moveOut 9 = .ok (.invokevirtual 43, 3) := by decide +kernel
theorem dX4_fits_0 : decode cX4_fits 0 = .ok (.iload_n 1, 1) := by decide +kernel
theorem dX4_fits_29 : decode cX4_fits 29 = .ok (.iconst 0, 1) := by decide +kernel
theorem dX4_moveOut_12 : decode cX4_moveOut 12 = .ok (.ifCond .eq 10, 3) := by decide +kernel
theorem dX4_moveOut_22 : decode cX4_moveOut 22 = .ok (.aload_n 0, 1) := by decide +kernel
theorem dX4_moveOut_23 : decode cX4_moveOut 23 = .ok (.invokevirtual 54, 3) := by decide +kernel
theorem dX4_moveOut_26 : decode cX4_moveOut 26 = .ok (.istore_n 2, 1) := by decide +kernel
theorem dX4_moveOut_27 : decode cX4_moveOut 27 = .ok (.iload_n 2, 1) := by decide +kernel
theorem dX4_moveOut_28 : decode cX4_moveOut 28 = .ok (.iconst (-1), 1) := by decide +kernel
theorem dX4_moveOut_34 : decode cX4_moveOut 34 = .ok (.aload_n 0, 1) := by decide +kernel
theorem dX4_moveOut_35 : decode cX4_moveOut 35 = .ok (.iload_n 2, 1) := by decide +kernel
theorem dX4_moveOut_39 : decode cX4_moveOut 39 = .ok (.aload_n 0, 1) := by decide +kernel
theorem dX4_moveOut_43 : decode cX4_moveOut 43 = .ok (.aload_n 1, 1) := by decide +kernel
theorem dX4_moveOut_44 : decode cX4_moveOut 44 = .ok (.iload_n 2, 1) := by decide +kernel
theorem dX4_moveOut_45 : decode cX4_moveOut 45 = .ok (.aload_n 0, 1) := by decide +kernel
theorem dX4_moveOut_49 : decode cX4_moveOut 49 = .ok (.imul, 1) := by decide +kernel
theorem dX4_moveOut_50 : decode cX4_moveOut 50 = .ok (.aload_n 0, 1) := by decide +kernel
theorem dX4_moveOut_51 : decode cX4_moveOut 51 = .ok (.iload_n 2, 1) := by decide +kernel
theorem dX4_moveOut_52 : decode cX4_moveOut 52 = .ok (.invokevirtual 93, 3) := by decide +kernel
theorem dX4_moveOut_55 : decode cX4_moveOut 55 = .ok (.iadd, 1) := by decide +kernel
theorem dX4_moveOut_56 : decode cX4_moveOut 56 = .ok (.invokevirtual 127, 3) := by decide +kernel
theorem dX4_moveOut_59 : decode cX4_moveOut 59 = .ok (.aload_n 0, 1) := by decide +kernel
theorem dX4_moveOut_60 : decode cX4_moveOut 60 = .ok (.iload_n 2, 1) := by decide +kernel
theorem dX4_moveOut_61 : decode cX4_moveOut 61 = .ok (.aload_n 1, 1) := by decide +kernel
theorem dX4_moveOut_65 : decode cX4_moveOut 65 = .ok (.invokevirtual 66, 3) := by decide +kernel
theorem dX4_raiseTop_0 : decode cX4_raiseTop 0 = .ok (.iload_n 1, 1) := by decide +kernel
theorem dX4_moveOut_68 : decode cX4_moveOut 68 = .ok (.iconst 1, 1) := by decide +kernel
theorem dX4_moveOut_69 : decode cX4_moveOut 69 = .ok (.ireturn, 1) := by decide +kernel
theorem dX4_raiseTop_20 : decode cX4_raiseTop 20 = .ok (.return_, 1) := by decide +kernel
theorem dX4_raiseTop_4 : decode cX4_raiseTop 4 = .ok (.iload_n 1, 1) := by decide +kernel
theorem dX4_raiseTop_5 : decode cX4_raiseTop 5 = .ok (.bipush 93, 2) := by decide +kernel
theorem dX4_raiseTop_10 : decode cX4_raiseTop 10 = .ok (.aload_n 0, 1) := by decide +kernel
theorem dX4_raiseTop_14 : decode cX4_raiseTop 14 = .ok (.iload_n 1, 1) := by decide +kernel
theorem dX4_raiseTop_15 : decode cX4_raiseTop 15 = .ok (.dup2, 1) := by decide +kernel
theorem dX4_raiseTop_17 : decode cX4_raiseTop 17 = .ok (.iload_n 2, 1) := by decide +kernel
theorem dX4_raiseTop_18 : decode cX4_raiseTop 18 = .ok (.iadd, 1) := by decide +kernel
theorem dX4_raiseTop_19 : decode cX4_raiseTop 19 = .ok (.iastore, 1) := by decide +kernel
theorem dX4_raiseTop_16 : decode cX4_raiseTop 16 = .ok (.iaload, 1) := by decide +kernel
theorem dX4_raiseTop_11 : decode cX4_raiseTop 11 = .ok (.getfield 9, 3) := by decide +kernel
theorem dX4_raiseTop_7 : decode cX4_raiseTop 7 = .ok (.if_icmp .ge 13, 3) := by decide +kernel
theorem dX4_raiseTop_1 : decode cX4_raiseTop 1 = .ok (.ifCond .lt 19, 3) := by decide +kernel
theorem dX4_moveOut_62 : decode cX4_moveOut 62 = .ok (.getfield 63, 3) := by decide +kernel
theorem dX4_moveOut_46 : decode cX4_moveOut 46 = .ok (.getfield 18, 3) := by decide +kernel
theorem dX4_moveOut_40 : decode cX4_moveOut 40 = .ok (.getfield 100, 3) := by decide +kernel
theorem dX4_moveOut_36 : decode cX4_moveOut 36 = .ok (.putfield 83, 3) := by decide +kernel
theorem dX4_moveOut_32 : decode cX4_moveOut 32 = .ok (.iconst 0, 1) := by decide +kernel
theorem dX4_moveOut_33 : decode cX4_moveOut 33 = .ok (.ireturn, 1) := by decide +kernel
theorem dX4_moveOut_29 : decode cX4_moveOut 29 = .ok (.if_icmp .ne 5, 3) := by decide +kernel
theorem dX4_fits_30 : decode cX4_fits 30 = .ok (.ireturn, 1) := by decide +kernel
theorem dX4_fits_4 : decode cX4_fits 4 = .ok (.iload_n 1, 1) := by decide +kernel
theorem dX4_fits_5 : decode cX4_fits 5 = .ok (.bipush 93, 2) := by decide +kernel
theorem dX4_fits_10 : decode cX4_fits 10 = .ok (.aload_n 0, 1) := by decide +kernel
theorem dX4_fits_14 : decode cX4_fits 14 = .ok (.iload_n 1, 1) := by decide +kernel
theorem dX4_fits_16 : decode cX4_fits 16 = .ok (.iload_n 2, 1) := by decide +kernel
theorem dX4_fits_17 : decode cX4_fits 17 = .ok (.iadd, 1) := by decide +kernel
theorem dX4_fits_18 : decode cX4_fits 18 = .ok (.aload_n 0, 1) := by decide +kernel
theorem dX4_fits_25 : decode cX4_fits 25 = .ok (.iconst 1, 1) := by decide +kernel
theorem dX4_fits_26 : decode cX4_fits 26 = .ok (.goto 4, 3) := by decide +kernel
theorem dX4_moveOut_15 : decode cX4_moveOut 15 = .ok (.aload_n 0, 1) := by decide +kernel
theorem dX4_moveOut_19 : decode cX4_moveOut 19 = .ok (.goto 7, 3) := by decide +kernel
theorem dX4_moveOut_16 : decode cX4_moveOut 16 = .ok (.getfield 83, 3) := by decide +kernel
theorem dX4_fits_22 : decode cX4_fits 22 = .ok (.if_icmp .gt 7, 3) := by decide +kernel
theorem dX4_fits_19 : decode cX4_fits 19 = .ok (.getfield 18, 3) := by decide +kernel
theorem dX4_fits_15 : decode cX4_fits 15 = .ok (.iaload, 1) := by decide +kernel
theorem dX4_fits_11 : decode cX4_fits 11 = .ok (.getfield 9, 3) := by decide +kernel
theorem dX4_fits_7 : decode cX4_fits 7 = .ok (.if_icmp .ge 22, 3) := by decide +kernel
theorem dX4_fits_1 : decode cX4_fits 1 = .ok (.ifCond .lt 28, 3) := by decide +kernel
theorem dX4_moveOut_6 : decode cX4_moveOut 6 = .ok (.getfield 63, 3) := by decide +kernel
theorem dX4_moveOut_2 : decode cX4_moveOut 2 = .ok (.getfield 83, 3) := by decide +kernel
theorem dX4_moveAll_0 : decode cX4_moveAll 0 = .ok (.iload_n 1, 1) := by decide +kernel
theorem dX4_moveAll_1 : decode cX4_moveAll 1 = .ok (.aload_n 0, 1) := by decide +kernel
theorem dX4_moveAll_5 : decode cX4_moveAll 5 = .ok (.imul, 1) := by decide +kernel
theorem dX4_moveAll_6 : decode cX4_moveAll 6 = .ok (.istore_n 2, 1) := by decide +kernel
theorem dX4_moveAll_7 : decode cX4_moveAll 7 = .ok (.iload_n 2, 1) := by decide +kernel
theorem dX4_moveAll_8 : decode cX4_moveAll 8 = .ok (.aload_n 0, 1) := by decide +kernel
theorem dX4_moveAll_9 : decode cX4_moveAll 9 = .ok (.iload_n 1, 1) := by decide +kernel
theorem dX4_moveAll_10 : decode cX4_moveAll 10 = .ok (.invokevirtual 93, 3) := by decide +kernel
theorem dX4_moveAll_13 : decode cX4_moveAll 13 = .ok (.iadd, 1) := by decide +kernel
theorem dX4_moveAll_14 : decode cX4_moveAll 14 = .ok (.istore_n 3, 1) := by decide +kernel
theorem dX4_moveAll_2 : decode cX4_moveAll 2 = .ok (.getfield 18, 3) := by decide +kernel
theorem dX4_moveAll_15 : decode cX4_moveAll 15 = .ok (.iload_n 2, 1) := by decide +kernel
theorem dX4_moveAll_16 : decode cX4_moveAll 16 = .ok (.iload_n 3, 1) := by decide +kernel
theorem dX4_moveAll_63 : decode cX4_moveAll 63 = .ok (.iload_n 1, 1) := by decide +kernel
theorem dX4_moveAll_87 : decode cX4_moveAll 87 = .ok (.iconst 1, 1) := by decide +kernel
theorem dX4_moveAll_88 : decode cX4_moveAll 88 = .ok (.ireturn, 1) := by decide +kernel
theorem dX4_moveAll_67 : decode cX4_moveAll 67 = .ok (.iload_n 1, 1) := by decide +kernel
theorem dX4_moveAll_68 : decode cX4_moveAll 68 = .ok (.bipush 93, 2) := by decide +kernel
theorem dX4_moveAll_73 : decode cX4_moveAll 73 = .ok (.aload_n 0, 1) := by decide +kernel
theorem dX4_moveAll_77 : decode cX4_moveAll 77 = .ok (.iload_n 1, 1) := by decide +kernel
theorem dX4_moveAll_78 : decode cX4_moveAll 78 = .ok (.iconst 0, 1) := by decide +kernel
theorem dX4_moveAll_80 : decode cX4_moveAll 80 = .ok (.aload_n 0, 1) := by decide +kernel
theorem dX4_moveAll_84 : decode cX4_moveAll 84 = .ok (.iload_n 1, 1) := by decide +kernel
theorem dX4_moveAll_85 : decode cX4_moveAll 85 = .ok (.iconst 0, 1) := by decide +kernel
theorem dX4_moveAll_86 : decode cX4_moveAll 86 = .ok (.iastore, 1) := by decide +kernel
theorem dX4_moveAll_81 : decode cX4_moveAll 81 = .ok (.getfield 9, 3) := by decide +kernel
theorem dX4_moveAll_79 : decode cX4_moveAll 79 = .ok (.iastore, 1) := by decide +kernel
theorem dX4_moveAll_74 : decode cX4_moveAll 74 = .ok (.getfield 15, 3) := by decide +kernel
theorem dX4_moveAll_70 : decode cX4_moveAll 70 = .ok (.if_icmp .ge 17, 3) := by decide +kernel
theorem dX4_moveAll_64 : decode cX4_moveAll 64 = .ok (.ifCond .lt 23, 3) := by decide +kernel
theorem dX4_moveAll_20 : decode cX4_moveAll 20 = .ok (.aload_n 0, 1) := by decide +kernel
theorem dX4_moveAll_24 : decode cX4_moveAll 24 = .ok (.iload_n 2, 1) := by decide +kernel
theorem dX4_moveAll_25 : decode cX4_moveAll 25 = .ok (.invokevirtual 120, 3) := by decide +kernel
theorem dX4_moveAll_28 : decode cX4_moveAll 28 = .ok (.astore 4, 2) := by decide +kernel
theorem dX4_moveAll_30 : decode cX4_moveAll 30 = .ok (.aload 4, 2) := by decide +kernel
theorem dX4_moveAll_32 : decode cX4_moveAll 32 = .ok (.ifnonnull 9, 3) := by decide +kernel
theorem dX4_moveAll_35 : decode cX4_moveAll 35 = .ok (.iinc 2 1, 3) := by decide +kernel
theorem dX4_moveAll_38 : decode cX4_moveAll 38 = .ok (.goto 22, 3) := by decide +kernel
theorem dX4_moveAll_60 : decode cX4_moveAll 60 = .ok (.goto (-45), 3) := by decide +kernel
theorem dX4_moveAll_41 : decode cX4_moveAll 41 = .ok (.iload_n 2, 1) := by decide +kernel
theorem dX4_moveAll_42 : decode cX4_moveAll 42 = .ok (.aload 4, 2) := by decide +kernel
theorem dX4_moveAll_47 : decode cX4_moveAll 47 = .ok (.iadd, 1) := by decide +kernel
theorem dX4_moveAll_48 : decode cX4_moveAll 48 = .ok (.istore_n 2, 1) := by decide +kernel
theorem dX4_moveAll_49 : decode cX4_moveAll 49 = .ok (.aload_n 0, 1) := by decide +kernel
theorem dX4_moveAll_50 : decode cX4_moveAll 50 = .ok (.aload 4, 2) := by decide +kernel
theorem dX4_moveAll_52 : decode cX4_moveAll 52 = .ok (.invokevirtual 123, 3) := by decide +kernel
theorem dX4_moveAll_58 : decode cX4_moveAll 58 = .ok (.iconst 0, 1) := by decide +kernel
theorem dX4_moveAll_59 : decode cX4_moveAll 59 = .ok (.ireturn, 1) := by decide +kernel
theorem dX4_moveAll_55 : decode cX4_moveAll 55 = .ok (.ifCond .ne 5, 3) := by decide +kernel
theorem dX4_moveAll_44 : decode cX4_moveAll 44 = .ok (.getfield 63, 3) := by decide +kernel
theorem dX4_moveAll_21 : decode cX4_moveAll 21 = .ok (.getfield 100, 3) := by decide +kernel
theorem dX4_moveAll_17 : decode cX4_moveAll 17 = .ok (.if_icmp .ge 46, 3) := by decide +kernel
theorem dX4_cleanAll_0 : decode cX4_cleanAll 0 = .ok (.aload_n 0, 1) := by decide +kernel
theorem dX4_cleanAll_1 : decode cX4_cleanAll 1 = .ok (.invokevirtual 70, 3) := by decide +kernel
theorem dX4_cleanAll_4 : decode cX4_cleanAll 4 = .ok (.istore_n 1, 1) := by decide +kernel
theorem dX4_cleanAll_5 : decode cX4_cleanAll 5 = .ok (.aload_n 0, 1) := by decide +kernel
theorem dX4_cleanAll_6 : decode cX4_cleanAll 6 = .ok (.invokevirtual 73, 3) := by decide +kernel
theorem dX4_cleanAll_9 : decode cX4_cleanAll 9 = .ok (.aload_n 0, 1) := by decide +kernel
theorem dX4_cleanAll_10 : decode cX4_cleanAll 10 = .ok (.invokevirtual 77, 3) := by decide +kernel
theorem dX4_cleanAll_13 : decode cX4_cleanAll 13 = .ok (.aload_n 0, 1) := by decide +kernel
theorem dX4_cleanAll_14 : decode cX4_cleanAll 14 = .ok (.invokevirtual 80, 3) := by decide +kernel
theorem dX4_cleanAll_17 : decode cX4_cleanAll 17 = .ok (.aload_n 0, 1) := by decide +kernel
theorem dX4_cleanAll_18 : decode cX4_cleanAll 18 = .ok (.iconst (-1), 1) := by decide +kernel
theorem dX4_cleanAll_22 : decode cX4_cleanAll 22 = .ok (.aload_n 0, 1) := by decide +kernel
theorem dX4_cleanAll_23 : decode cX4_cleanAll 23 = .ok (.invokevirtual 86, 3) := by decide +kernel
theorem dX4_cleanAll_26 : decode cX4_cleanAll 26 = .ok (.istore_n 2, 1) := by decide +kernel
theorem dX4_cleanAll_27 : decode cX4_cleanAll 27 = .ok (.iconst 0, 1) := by decide +kernel
theorem dX4_cleanAll_28 : decode cX4_cleanAll 28 = .ok (.istore_n 3, 1) := by decide +kernel
theorem dX4_cleanAll_19 : decode cX4_cleanAll 19 = .ok (.putfield 83, 3) := by decide +kernel
theorem dX4_cleanAll_29 : decode cX4_cleanAll 29 = .ok (.iload_n 3, 1) := by decide +kernel
theorem dX4_cleanAll_30 : decode cX4_cleanAll 30 = .ok (.bipush 93, 2) := by decide +kernel
theorem dX4_cleanAll_59 : decode cX4_cleanAll 59 = .ok (.aload_n 0, 1) := by decide +kernel
theorem dX4_cleanAll_63 : decode cX4_cleanAll 63 = .ok (.iconst (-1), 1) := by decide +kernel
theorem dX4_cleanAll_78 : decode cX4_cleanAll 78 = .ok (.aload_n 0, 1) := by decide +kernel
theorem dX4_cleanAll_79 : decode cX4_cleanAll 79 = .ok (.aload_n 0, 1) := by decide +kernel
theorem dX4_cleanAll_83 : decode cX4_cleanAll 83 = .ok (.invokevirtual 93, 3) := by decide +kernel
theorem dX4_cleanAll_86 : decode cX4_cleanAll 86 = .ok (.ifCond .ne 18, 3) := by decide +kernel
theorem dX4_cleanAll_89 : decode cX4_cleanAll 89 = .ok (.aload_n 0, 1) := by decide +kernel
theorem dX4_cleanAll_90 : decode cX4_cleanAll 90 = .ok (.aload_n 0, 1) := by decide +kernel
theorem dX4_cleanAll_91 : decode cX4_cleanAll 91 = .ok (.invokevirtual 54, 3) := by decide +kernel
theorem dX4_cleanAll_94 : decode cX4_cleanAll 94 = .ok (.aload_n 0, 1) := by decide +kernel
theorem dX4_cleanAll_98 : decode cX4_cleanAll 98 = .ok (.invokestatic 57, 3) := by decide +kernel
theorem dX4_orElse_0 : decode cX4_orElse 0 = .ok (.iload_n 0, 1) := by decide +kernel
theorem dX4_orElse_1 : decode cX4_orElse 1 = .ok (.iconst (-1), 1) := by decide +kernel
theorem dX4_orElse_9 : decode cX4_orElse 9 = .ok (.iload_n 0, 1) := by decide +kernel
theorem dX4_cleanAll_104 : decode cX4_cleanAll 104 = .ok (.iload_n 1, 1) := by decide +kernel
theorem dX4_cleanAll_105 : decode cX4_cleanAll 105 = .ok (.ireturn, 1) := by decide +kernel
theorem dX4_cleanAll_101 : decode cX4_cleanAll 101 = .ok (.putfield 34, 3) := by decide +kernel
theorem dX4_orElse_10 : decode cX4_orElse 10 = .ok (.ireturn, 1) := by decide +kernel
theorem dX4_orElse_5 : decode cX4_orElse 5 = .ok (.iload_n 1, 1) := by decide +kernel
theorem dX4_orElse_6 : decode cX4_orElse 6 = .ok (.goto 4, 3) := by decide +kernel
theorem dX4_orElse_2 : decode cX4_orElse 2 = .ok (.if_icmp .ne 7, 3) := by decide +kernel
theorem dX4_cleanAll_95 : decode cX4_cleanAll 95 = .ok (.getfield 34, 3) := by decide +kernel
theorem dX4_cleanAll_80 : decode cX4_cleanAll 80 = .ok (.getfield 34, 3) := by decide +kernel
theorem dX4_cleanAll_67 : decode cX4_cleanAll 67 = .ok (.aload_n 0, 1) := by decide +kernel
theorem dX4_cleanAll_68 : decode cX4_cleanAll 68 = .ok (.aload_n 0, 1) := by decide +kernel
theorem dX4_cleanAll_75 : decode cX4_cleanAll 75 = .ok (.goto 29, 3) := by decide +kernel
theorem dX4_cleanAll_72 : decode cX4_cleanAll 72 = .ok (.putfield 34, 3) := by decide +kernel
theorem dX4_cleanAll_69 : decode cX4_cleanAll 69 = .ok (.getfield 83, 3) := by decide +kernel
theorem dX4_cleanAll_64 : decode cX4_cleanAll 64 = .ok (.if_icmp .eq 14, 3) := by decide +kernel
theorem dX4_cleanAll_60 : decode cX4_cleanAll 60 = .ok (.getfield 83, 3) := by decide +kernel
theorem dX4_cleanAll_35 : decode cX4_cleanAll 35 = .ok (.iload_n 2, 1) := by decide +kernel
theorem dX4_cleanAll_36 : decode cX4_cleanAll 36 = .ok (.iconst (-1), 1) := by decide +kernel
theorem dX4_cleanAll_40 : decode cX4_cleanAll 40 = .ok (.aload_n 0, 1) := by decide +kernel
theorem dX4_cleanAll_41 : decode cX4_cleanAll 41 = .ok (.iload_n 2, 1) := by decide +kernel
theorem dX4_cleanAll_42 : decode cX4_cleanAll 42 = .ok (.invokevirtual 89, 3) := by decide +kernel
theorem dX4_cleanAll_48 : decode cX4_cleanAll 48 = .ok (.aload_n 0, 1) := by decide +kernel
theorem dX4_cleanAll_49 : decode cX4_cleanAll 49 = .ok (.invokevirtual 86, 3) := by decide +kernel
theorem dX4_cleanAll_52 : decode cX4_cleanAll 52 = .ok (.istore_n 2, 1) := by decide +kernel
theorem dX4_cleanAll_53 : decode cX4_cleanAll 53 = .ok (.iinc 3 1, 3) := by decide +kernel
theorem dX4_cleanAll_56 : decode cX4_cleanAll 56 = .ok (.goto (-27), 3) := by decide +kernel
theorem dX4_cleanAll_45 : decode cX4_cleanAll 45 = .ok (.ifCond .eq 14, 3) := by decide +kernel
theorem dX4_cleanAll_37 : decode cX4_cleanAll 37 = .ok (.if_icmp .eq 22, 3) := by decide +kernel
theorem dX4_cleanAll_32 : decode cX4_cleanAll 32 = .ok (.if_icmp .ge 27, 3) := by decide +kernel
theorem dX4_findRoom_0 : decode cX4_findRoom 0 = .ok (.iload_n 1, 1) := by decide +kernel
theorem dX4_findRoom_1 : decode cX4_findRoom 1 = .ok (.aload_n 0, 1) := by decide +kernel
theorem dX4_findRoom_10 : decode cX4_findRoom 10 = .ok (.aload_n 0, 1) := by decide +kernel
theorem dX4_findRoom_11 : decode cX4_findRoom 11 = .ok (.aload_n 0, 1) := by decide +kernel
theorem dX4_findRoom_15 : decode cX4_findRoom 15 = .ok (.iload_n 1, 1) := by decide +kernel
theorem dX4_findRoom_16 : decode cX4_findRoom 16 = .ok (.invokevirtual 43, 3) := by decide +kernel
theorem dX4_findRoom_19 : decode cX4_findRoom 19 = .ok (.ifCond .ne 16, 3) := by decide +kernel
theorem dX4_findRoom_22 : decode cX4_findRoom 22 = .ok (.aload_n 0, 1) := by decide +kernel
theorem dX4_findRoom_23 : decode cX4_findRoom 23 = .ok (.invokevirtual 47, 3) := by decide +kernel
theorem dX4_findRoom_26 : decode cX4_findRoom 26 = .ok (.iconst 2, 1) := by decide +kernel
theorem dX4_findRoom_30 : decode cX4_findRoom 30 = .ok (.aload_n 0, 1) := by decide +kernel
theorem dX4_findRoom_31 : decode cX4_findRoom 31 = .ok (.invokevirtual 51, 3) := by decide +kernel
theorem dX4_findRoom_34 : decode cX4_findRoom 34 = .ok (.pop, 1) := by decide +kernel
theorem dX4_findRoom_27 : decode cX4_findRoom 27 = .ok (.if_icmp .ge 8, 3) := by decide +kernel
theorem dX4_findRoom_12 : decode cX4_findRoom 12 = .ok (.getfield 34, 3) := by decide +kernel
theorem dX4_findRoom_8 : decode cX4_findRoom 8 = .ok (.iconst (-1), 1) := by decide +kernel
theorem dX4_findRoom_9 : decode cX4_findRoom 9 = .ok (.ireturn, 1) := by decide +kernel
theorem dX4_findRoom_5 : decode cX4_findRoom 5 = .ok (.if_icmp .le 5, 3) := by decide +kernel
theorem dX4_findRoom_2 : decode cX4_findRoom 2 = .ok (.getfield 18, 3) := by decide +kernel
theorem dX4_findRoom_35 : decode cX4_findRoom 35 = .ok (.aload_n 0, 1) := by decide +kernel
theorem dX4_findRoom_36 : decode cX4_findRoom 36 = .ok (.aload_n 0, 1) := by decide +kernel
theorem dX4_findRoom_40 : decode cX4_findRoom 40 = .ok (.iload_n 1, 1) := by decide +kernel
theorem dX4_findRoom_41 : decode cX4_findRoom 41 = .ok (.invokevirtual 43, 3) := by decide +kernel
theorem dX4_findRoom_44 : decode cX4_findRoom 44 = .ok (.ifCond .ne 18, 3) := by decide +kernel
theorem dX4_findRoom_47 : decode cX4_findRoom 47 = .ok (.aload_n 0, 1) := by decide +kernel
theorem dX4_findRoom_48 : decode cX4_findRoom 48 = .ok (.aload_n 0, 1) := by decide +kernel
theorem dX4_findRoom_49 : decode cX4_findRoom 49 = .ok (.invokevirtual 54, 3) := by decide +kernel
theorem dX4_findRoom_52 : decode cX4_findRoom 52 = .ok (.aload_n 0, 1) := by decide +kernel
theorem dX4_findRoom_56 : decode cX4_findRoom 56 = .ok (.invokestatic 57, 3) := by decide +kernel
theorem dX4_findRoom_59 : decode cX4_findRoom 59 = .ok (.putfield 34, 3) := by decide +kernel
theorem dX4_findRoom_53 : decode cX4_findRoom 53 = .ok (.getfield 34, 3) := by decide +kernel
theorem dX4_findRoom_37 : decode cX4_findRoom 37 = .ok (.getfield 34, 3) := by decide +kernel
theorem dX4_findRoom_62 : decode cX4_findRoom 62 = .ok (.aload_n 0, 1) := by decide +kernel
theorem dX4_findRoom_63 : decode cX4_findRoom 63 = .ok (.aload_n 0, 1) := by decide +kernel
theorem dX4_findRoom_67 : decode cX4_findRoom 67 = .ok (.iload_n 1, 1) := by decide +kernel
theorem dX4_findRoom_68 : decode cX4_findRoom 68 = .ok (.invokevirtual 43, 3) := by decide +kernel
theorem dX4_findRoom_71 : decode cX4_findRoom 71 = .ok (.ifCond .eq 10, 3) := by decide +kernel
theorem dX4_findRoom_81 : decode cX4_findRoom 81 = .ok (.iconst (-1), 1) := by decide +kernel
theorem dX4_findRoom_82 : decode cX4_findRoom 82 = .ok (.ireturn, 1) := by decide +kernel
theorem dX4_findRoom_74 : decode cX4_findRoom 74 = .ok (.aload_n 0, 1) := by decide +kernel
theorem dX4_findRoom_75 : decode cX4_findRoom 75 = .ok (.invokevirtual 60, 3) := by decide +kernel
theorem dX4_findRoom_78 : decode cX4_findRoom 78 = .ok (.goto 4, 3) := by decide +kernel
theorem dX4_findRoom_64 : decode cX4_findRoom 64 = .ok (.getfield 34, 3) := by decide +kernel
theorem dX4_noteMade_0 : decode cX4_noteMade 0 = .ok (.aload_n 0, 1) := by decide +kernel
theorem dX4_noteMade_1 : decode cX4_noteMade 1 = .ok (.aload_n 0, 1) := by decide +kernel
theorem dX4_noteMade_5 : decode cX4_noteMade 5 = .ok (.aload_n 1, 1) := by decide +kernel
theorem dX4_noteMade_9 : decode cX4_noteMade 9 = .ok (.invokevirtual 66, 3) := by decide +kernel
theorem dX4_noteMade_12 : decode cX4_noteMade 12 = .ok (.return_, 1) := by decide +kernel
theorem dX4_noteMade_6 : decode cX4_noteMade 6 = .ok (.getfield 63, 3) := by decide +kernel
theorem dX4_noteMade_2 : decode cX4_noteMade 2 = .ok (.getfield 34, 3) := by decide +kernel
theorem dX4_open_0 : decode cX4_open 0 = .ok (.aload_n 0, 1) := by decide +kernel
theorem dX4_open_1 : decode cX4_open 1 = .ok (.aload_n 1, 1) := by decide +kernel
theorem dX4_open_2 : decode cX4_open 2 = .ok (.iconst 1, 1) := by decide +kernel
theorem dX4_open_7 : decode cX4_open 7 = .ok (.aload_n 0, 1) := by decide +kernel
theorem dX4_open_8 : decode cX4_open 8 = .ok (.aload_n 0, 1) := by decide +kernel
theorem dX4_open_31 : decode cX4_open 31 = .ok (.iconst 0, 1) := by decide +kernel
theorem dX4_open_35 : decode cX4_open 35 = .ok (.aload_n 0, 1) := by decide +kernel
theorem dX4_open_36 : decode cX4_open 36 = .ok (.aload_n 1, 1) := by decide +kernel
theorem dX4_open_37 : decode cX4_open 37 = .ok (.iconst 2, 1) := by decide +kernel
theorem dX4_open_42 : decode cX4_open 42 = .ok (.aload_n 0, 1) := by decide +kernel
theorem dX4_open_43 : decode cX4_open 43 = .ok (.iconst 0, 1) := by decide +kernel
theorem dX4_open_47 : decode cX4_open 47 = .ok (.aload_n 0, 1) := by decide +kernel
theorem dX4_open_51 : decode cX4_open 51 = .ok (.iconst 0, 1) := by decide +kernel
theorem dX4_open_52 : decode cX4_open 52 = .ok (.invokestatic 37, 3) := by decide +kernel
theorem dX4_open_55 : decode cX4_open 55 = .ok (.return_, 1) := by decide +kernel
theorem dX4_open_48 : decode cX4_open 48 = .ok (.getfield 9, 3) := by decide +kernel
theorem dX4_open_44 : decode cX4_open 44 = .ok (.putfield 34, 3) := by decide +kernel
theorem dX4_open_39 : decode cX4_open 39 = .ok (.putfield 31, 3) := by decide +kernel
theorem dX4_open_38 : decode cX4_open 38 = .ok (.iaload, 1) := by decide +kernel
theorem dX4_open_32 : decode cX4_open 32 = .ok (.putfield 28, 3) := by decide +kernel
theorem dX4_open_15 : decode cX4_open 15 = .ok (.aload_n 1, 1) := by decide +kernel
theorem dX4_open_16 : decode cX4_open 16 = .ok (.iconst 0, 1) := by decide +kernel
theorem dX4_open_18 : decode cX4_open 18 = .ok (.aload_n 0, 1) := by decide +kernel
theorem dX4_open_23 : decode cX4_open 23 = .ok (.bipush 93, 2) := by decide +kernel
theorem dX4_open_25 : decode cX4_open 25 = .ok (.invokestatic 22, 3) := by decide +kernel
theorem dX4_open_28 : decode cX4_open 28 = .ok (.goto 4, 3) := by decide +kernel
theorem dX4_open_22 : decode cX4_open 22 = .ok (.idiv, 1) := by decide +kernel
theorem dX4_open_19 : decode cX4_open 19 = .ok (.getfield 18, 3) := by decide +kernel
theorem dX4_open_17 : decode cX4_open 17 = .ok (.iaload, 1) := by decide +kernel
theorem dX4_open_12 : decode cX4_open 12 = .ok (.ifCond .le 19, 3) := by decide +kernel
theorem dX4_open_9 : decode cX4_open 9 = .ok (.getfield 18, 3) := by decide +kernel
theorem dX4_open_4 : decode cX4_open 4 = .ok (.putfield 18, 3) := by decide +kernel
theorem dX4_open_3 : decode cX4_open 3 = .ok (.iaload, 1) := by decide +kernel

