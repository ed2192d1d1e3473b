/-! from 44.methods -/
/-! methods by numbers: own class, name, code, locals, answer; calls by numbers -/
theorem ma_T1 {w : Cond} {i : Nat} (hi : tables_1_1[i]? = some w) (hg : goodWord w = true) : w ∈ ma_TB := by
  have h := List.mem_of_getElem? hi
  exact List.mem_filter.mpr ⟨List.mem_append_right _ (List.mem_append_right _ (List.mem_append_left _ h)), hg⟩
theorem ma_T2 {w : Cond} {i : Nat} (hi : tables_1_2[i]? = some w) (hg : goodWord w = true) : w ∈ ma_TB := by
  have h := List.mem_of_getElem? hi
  exact List.mem_filter.mpr ⟨List.mem_append_right _ (List.mem_append_right _ (List.mem_append_right _ (List.mem_append_left _ h))), hg⟩
theorem ma_T3 {w : Cond} {i : Nat} (hi : tables_1_3[i]? = some w) (hg : goodWord w = true) : w ∈ ma_TB := by
  have h := List.mem_of_getElem? hi
  exact List.mem_filter.mpr ⟨List.mem_append_right _ (List.mem_append_right _ (List.mem_append_right _ (List.mem_append_right _ (List.mem_append_left _ h)))), hg⟩
theorem ma_T4 {w : Cond} {i : Nat} (hi : tables_1_4[i]? = some w) (hg : goodWord w = true) : w ∈ ma_TB := by
  have h := List.mem_of_getElem? hi
  exact List.mem_filter.mpr ⟨List.mem_append_right _ (List.mem_append_right _ (List.mem_append_right _ (List.mem_append_right _ (List.mem_append_right _ (List.mem_append_left _ h))))), hg⟩
theorem ma_T5 {w : Cond} {i : Nat} (hi : tables_1_5[i]? = some w) (hg : goodWord w = true) : w ∈ ma_TB := by
  have h := List.mem_of_getElem? hi
  exact List.mem_filter.mpr ⟨List.mem_append_right _ (List.mem_append_right _ (List.mem_append_right _ (List.mem_append_right _ (List.mem_append_right _ (List.mem_append_right _ (List.mem_append_left _ h)))))), hg⟩
theorem ma_T6 {w : Cond} {i : Nat} (hi : tables_1_6[i]? = some w) (hg : goodWord w = true) : w ∈ ma_TB := by
  have h := List.mem_of_getElem? hi
  exact List.mem_filter.mpr ⟨List.mem_append_right _ (List.mem_append_right _ (List.mem_append_right _ (List.mem_append_right _ (List.mem_append_right _ (List.mem_append_right _ (List.mem_append_right _ (List.mem_append_left _ h))))))), hg⟩
theorem ma_T7 {w : Cond} {i : Nat} (hi : tables_1_7[i]? = some w) (hg : goodWord w = true) : w ∈ ma_TB := by
  have h := List.mem_of_getElem? hi
  exact List.mem_filter.mpr ⟨List.mem_append_right _ (List.mem_append_right _ (List.mem_append_right _ (List.mem_append_right _ (List.mem_append_right _ (List.mem_append_right _ (List.mem_append_right _ (List.mem_append_right _ (List.mem_append_left _ h)))))))), hg⟩
theorem ma_T8 {w : Cond} {i : Nat} (hi : tables_1_8[i]? = some w) (hg : goodWord w = true) : w ∈ ma_TB := by
  have h := List.mem_of_getElem? hi
  exact List.mem_filter.mpr ⟨List.mem_append_right _ (List.mem_append_right _ (List.mem_append_right _ (List.mem_append_right _ (List.mem_append_right _ (List.mem_append_right _ (List.mem_append_right _ (List.mem_append_right _ (List.mem_append_right _ (List.mem_append_left _ h))))))))), hg⟩
theorem ma_T9 {w : Cond} {i : Nat} (hi : tables_1_9[i]? = some w) (hg : goodWord w = true) : w ∈ ma_TB := by
  have h := List.mem_of_getElem? hi
  exact List.mem_filter.mpr ⟨List.mem_append_right _ (List.mem_append_right _ (List.mem_append_right _ (List.mem_append_right _ (List.mem_append_right _ (List.mem_append_right _ (List.mem_append_right _ (List.mem_append_right _ (List.mem_append_right _ (List.mem_append_right _ (List.mem_append_left _ h)))))))))), hg⟩
theorem ma_T10 {w : Cond} {i : Nat} (hi : tables_1_10[i]? = some w) (hg : goodWord w = true) : w ∈ ma_TB := by
  have h := List.mem_of_getElem? hi
  exact List.mem_filter.mpr ⟨List.mem_append_right _ (List.mem_append_right _ (List.mem_append_right _ (List.mem_append_right _ (List.mem_append_right _ (List.mem_append_right _ (List.mem_append_right _ (List.mem_append_right _ (List.mem_append_right _ (List.mem_append_right _ (List.mem_append_right _ h)))))))))), hg⟩
def ma_cio (o : Nat) : Prop := Cond.initialized (ma_cn o) ∈ ma_TB ∧ plainName (ma_cn o) = true ∧ ma_cn o ≠ "java/lang/invoke/MethodHandle" ∧ ma_cn o ≠ "java/lang/invoke/VarHandle"
theorem ma_cio1 : ma_cio 1 := ⟨ma_T1 (i := 8) (by decide +kernel) (by decide +kernel), by decide +kernel, by decide +kernel, by decide +kernel⟩
theorem ma_cio2 : ma_cio 2 := ⟨ma_T1 (i := 9) (by decide +kernel) (by decide +kernel), by decide +kernel, by decide +kernel, by decide +kernel⟩
theorem ma_cio3 : ma_cio 3 := ⟨ma_T1 (i := 7) (by decide +kernel) (by decide +kernel), by decide +kernel, by decide +kernel, by decide +kernel⟩
theorem ma_cio4 : ma_cio 4 := ⟨ma_T1 (i := 11) (by decide +kernel) (by decide +kernel), by decide +kernel, by decide +kernel, by decide +kernel⟩
theorem ma_cio5 : ma_cio 5 := ⟨ma_T1 (i := 6) (by decide +kernel) (by decide +kernel), by decide +kernel, by decide +kernel, by decide +kernel⟩
theorem ma_cio6 : ma_cio 6 := ⟨ma_T1 (i := 10) (by decide +kernel) (by decide +kernel), by decide +kernel, by decide +kernel, by decide +kernel⟩
theorem ma_cio7 : ma_cio 7 := ⟨ma_T1 (i := 2) (by decide +kernel) (by decide +kernel), by decide +kernel, by decide +kernel, by decide +kernel⟩
theorem ma_cio8 : ma_cio 8 := ⟨ma_T1 (i := 5) (by decide +kernel) (by decide +kernel), by decide +kernel, by decide +kernel, by decide +kernel⟩
theorem ma_cio9 : ma_cio 9 := ⟨ma_T1 (i := 26) (by decide +kernel) (by decide +kernel), by decide +kernel, by decide +kernel, by decide +kernel⟩
theorem ma_cio10 : ma_cio 10 := ⟨ma_T1 (i := 3) (by decide +kernel) (by decide +kernel), by decide +kernel, by decide +kernel, by decide +kernel⟩
theorem ma_cio11 : ma_cio 11 := ⟨ma_T1 (i := 1) (by decide +kernel) (by decide +kernel), by decide +kernel, by decide +kernel, by decide +kernel⟩
theorem ma_cio12 : ma_cio 12 := ⟨ma_T1 (i := 12) (by decide +kernel) (by decide +kernel), by decide +kernel, by decide +kernel, by decide +kernel⟩
theorem ma_cio13 : ma_cio 13 := ⟨ma_T1 (i := 4) (by decide +kernel) (by decide +kernel), by decide +kernel, by decide +kernel, by decide +kernel⟩
theorem ma_cio15 : ma_cio 15 := ⟨ma_T1 (i := 24) (by decide +kernel) (by decide +kernel), by decide +kernel, by decide +kernel, by decide +kernel⟩
theorem ma_cio17 : ma_cio 17 := ⟨ma_T1 (i := 19) (by decide +kernel) (by decide +kernel), by decide +kernel, by decide +kernel, by decide +kernel⟩
theorem ma_cio18 : ma_cio 18 := ⟨ma_T1 (i := 20) (by decide +kernel) (by decide +kernel), by decide +kernel, by decide +kernel, by decide +kernel⟩
theorem ma_cio19 : ma_cio 19 := ⟨ma_T1 (i := 21) (by decide +kernel) (by decide +kernel), by decide +kernel, by decide +kernel, by decide +kernel⟩
def ma_mok (q : Nat × MethodName × ByteArray × Nat × Option FieldType) : Prop := Cond.code q.2.1 q.2.2.1 q.2.2.2.1 q.2.2.2.2 ∈ ma_TB ∧ q.2.1.cls = ma_cn q.1 ∧ ma_cio q.1
theorem ma_mk0 : ma_mok (1, yX0_init, cX0_init, 3, none) := ⟨ma_T1 (i := 216) rfl rfl, rfl, ma_cio1⟩
theorem ma_mk1 : ma_mok (1, yX0_open, cX0_open, 2, none) := ⟨ma_T3 (i := 1) rfl rfl, rfl, ma_cio1⟩
theorem ma_mk2 : ma_mok (1, yX0_total, cX0_total, 1, (some (FieldType.int))) := ⟨ma_T3 (i := 27) rfl rfl, rfl, ma_cio1⟩
theorem ma_mk3 : ma_mok (1, yX0_findRoom, cX0_findRoom, 2, (some (FieldType.int))) := ⟨ma_T3 (i := 189) rfl rfl, rfl, ma_cio1⟩
theorem ma_mk4 : ma_mok (1, yX0_findOldRoom, cX0_findOldRoom, 2, (some (FieldType.int))) := ⟨ma_T3 (i := 193) rfl rfl, rfl, ma_cio1⟩
theorem ma_mk5 : ma_mok (1, yX0_cleanOld, cX0_cleanOld, 2, (some (FieldType.int))) := ⟨ma_T3 (i := 197) rfl rfl, rfl, ma_cio1⟩
theorem ma_mk6 : ma_mok (1, yX0_findDirty, cX0_findDirty, 4, none) := ⟨ma_T4 (i := 50) rfl rfl, rfl, ma_cio1⟩
theorem ma_mk7 : ma_mok (1, yX0_isYoung, cX0_isYoung, 2, (some (FieldType.boolean))) := ⟨ma_T4 (i := 55) rfl rfl, rfl, ma_cio1⟩
theorem ma_mk8 : ma_mok (1, yX0_noteReference, cX0_noteReference, 5, none) := ⟨ma_T4 (i := 60) rfl rfl, rfl, ma_cio1⟩
theorem ma_mk9 : ma_mok (1, yX0_cardOf, cX0_cardOf, 3, (some (FieldType.int))) := ⟨ma_T4 (i := 64) rfl rfl, rfl, ma_cio1⟩
theorem ma_mk10 : ma_mok (1, yX0_hasYoungRoom, cX0_hasYoungRoom, 2, (some (FieldType.boolean))) := ⟨ma_T4 (i := 68) rfl rfl, rfl, ma_cio1⟩
theorem ma_mk11 : ma_mok (1, yX0_cleanYoung, cX0_cleanYoung, 2, (some (FieldType.int))) := ⟨ma_T4 (i := 72) rfl rfl, rfl, ma_cio1⟩
theorem ma_mk12 : ma_mok (1, yX0_wordsGrowingOld, cX0_wordsGrowingOld, 4, (some (FieldType.int))) := ⟨ma_T4 (i := 76) rfl rfl, rfl, ma_cio1⟩
theorem ma_mk13 : ma_mok (1, yX0_comeFromDirty, cX0_comeFromDirty, 3, none) := ⟨ma_T4 (i := 82) rfl rfl, rfl, ma_cio1⟩
theorem ma_mk14 : ma_mok (1, yX0_comeFromDirtyWords, cX0_comeFromDirtyWords, 4, none) := ⟨ma_T4 (i := 87) rfl rfl, rfl, ma_cio1⟩
theorem ma_mk15 : ma_mok (1, yX0_moveKept, cX0_moveKept, 3, none) := ⟨ma_T4 (i := 93) rfl rfl, rfl, ma_cio1⟩
theorem ma_mk16 : ma_mok (1, yX0_moveOlder, cX0_moveOlder, 2, none) := ⟨ma_T4 (i := 101) rfl rfl, rfl, ma_cio1⟩
theorem ma_mk17 : ma_mok (1, yX0_noteMade, cX0_noteMade, 2, none) := ⟨ma_T5 (i := 133) rfl rfl, rfl, ma_cio1⟩
theorem ma_mk18 : ma_mok (1, yX0_canHold, cX0_canHold, 2, (some (FieldType.boolean))) := ⟨ma_T6 (i := 113) rfl rfl, rfl, ma_cio1⟩
theorem ma_mk19 : ma_mok (1, yX0_cleanAll, cX0_cleanAll, 2, (some (FieldType.int))) := ⟨ma_T6 (i := 172) rfl rfl, rfl, ma_cio1⟩
theorem ma_mk20 : ma_mok (1, yX0_specials, cX0_specials, 3, (some (FieldType.int))) := ⟨ma_T7 (i := 8) rfl rfl, rfl, ma_cio1⟩
theorem ma_mk21 : ma_mok (1, yX0_topPlace, cX0_topPlace, 1, (some (FieldType.int))) := ⟨ma_T7 (i := 23) rfl rfl, rfl, ma_cio1⟩
theorem ma_mk22 : ma_mok (1, yX0_oldTopOrRegion, cX0_oldTopOrRegion, 1, (some (FieldType.int))) := ⟨ma_T7 (i := 53) rfl rfl, rfl, ma_cio1⟩
theorem ma_mk23 : ma_mok (2, yX2_init, cX2_init, 3, none) := ⟨ma_T2 (i := 9) rfl rfl, rfl, ma_cio2⟩
theorem ma_mk24 : ma_mok (2, yX2_noteFewer, cX2_noteFewer, 5, none) := ⟨ma_T5 (i := 186) rfl rfl, rfl, ma_cio2⟩
theorem ma_mk25 : ma_mok (2, yX2_fallIfUncounted, cX2_fallIfUncounted, 2, none) := ⟨ma_T5 (i := 190) rfl rfl, rfl, ma_cio2⟩
theorem ma_mk26 : ma_mok (2, yX2_dropWord, cX2_dropWord, 3, none) := ⟨ma_T5 (i := 197) rfl rfl, rfl, ma_cio2⟩
theorem ma_mk27 : ma_mok (2, yX2_countOf, cX2_countOf, 2, (some (FieldType.int))) := ⟨ma_T6 (i := 200) rfl rfl, rfl, ma_cio2⟩
theorem ma_mk28 : ma_mok (3, yX3_init, cX3_init, 3, none) := ⟨ma_T1 (i := 198) rfl rfl, rfl, ma_cio3⟩
theorem ma_mk29 : ma_mok (3, yX3_open, cX3_open, 2, none) := ⟨ma_T3 (i := 8) rfl rfl, rfl, ma_cio3⟩
theorem ma_mk30 : ma_mok (3, yX3_total, cX3_total, 1, (some (FieldType.int))) := ⟨ma_T3 (i := 33) rfl rfl, rfl, ma_cio3⟩
theorem ma_mk31 : ma_mok (3, yX3_findRoom, cX3_findRoom, 2, (some (FieldType.int))) := ⟨ma_T4 (i := 183) rfl rfl, rfl, ma_cio3⟩
theorem ma_mk32 : ma_mok (3, yX3_hasRoom, cX3_hasRoom, 2, (some (FieldType.boolean))) := ⟨ma_T4 (i := 187) rfl rfl, rfl, ma_cio3⟩
theorem ma_mk33 : ma_mok (3, yX3_cleanAll, cX3_cleanAll, 4, (some (FieldType.int))) := ⟨ma_T4 (i := 191) rfl rfl, rfl, ma_cio3⟩
theorem ma_mk34 : ma_mok (3, yX3_noteMade, cX3_noteMade, 2, none) := ⟨ma_T5 (i := 139) rfl rfl, rfl, ma_cio3⟩
theorem ma_mk35 : ma_mok (3, yX3_canHold, cX3_canHold, 2, (some (FieldType.boolean))) := ⟨ma_T6 (i := 117) rfl rfl, rfl, ma_cio3⟩
theorem ma_mk36 : ma_mok (3, yX3_topPlace, cX3_topPlace, 1, (some (FieldType.int))) := ⟨ma_T7 (i := 27) rfl rfl, rfl, ma_cio3⟩
theorem ma_mk37 : ma_mok (4, yX4_init, cX4_init, 3, none) := ⟨ma_T2 (i := 57) rfl rfl, rfl, ma_cio4⟩
theorem ma_mk38 : ma_mok (4, yX4_open, cX4_open, 2, none) := ⟨ma_T3 (i := 11) rfl rfl, rfl, ma_cio4⟩
theorem ma_mk39 : ma_mok (4, yX4_total, cX4_total, 1, (some (FieldType.int))) := ⟨ma_T3 (i := 36) rfl rfl, rfl, ma_cio4⟩
theorem ma_mk40 : ma_mok (4, yX4_findRoom, cX4_findRoom, 2, (some (FieldType.int))) := ⟨ma_T4 (i := 199) rfl rfl, rfl, ma_cio4⟩
theorem ma_mk41 : ma_mok (4, yX4_fits, cX4_fits, 3, (some (FieldType.boolean))) := ⟨ma_T4 (i := 203) rfl rfl, rfl, ma_cio4⟩
theorem ma_mk42 : ma_mok (4, yX4_specials, cX4_specials, 3, (some (FieldType.int))) := ⟨ma_T4 (i := 207) rfl rfl, rfl, ma_cio4⟩
theorem ma_mk43 : ma_mok (4, yX4_cleanAll, cX4_cleanAll, 4, (some (FieldType.int))) := ⟨ma_T4 (i := 211) rfl rfl, rfl, ma_cio4⟩
theorem ma_mk44 : ma_mok (4, yX4_sumKept, cX4_sumKept, 3, none) := ⟨ma_T4 (i := 218) rfl rfl, rfl, ma_cio4⟩
theorem ma_mk45 : ma_mok (4, yX4_regionOf, cX4_regionOf, 2, (some (FieldType.int))) := ⟨ma_T4 (i := 223) rfl rfl, rfl, ma_cio4⟩
theorem ma_mk46 : ma_mok (4, yX4_emptyWhereNothingIsLeft, cX4_emptyWhereNothingIsLeft, 2, none) := ⟨ma_T4 (i := 227) rfl rfl, rfl, ma_cio4⟩
theorem ma_mk47 : ma_mok (4, yX4_chooseLeaving, cX4_chooseLeaving, 3, none) := ⟨ma_T4 (i := 231) rfl rfl, rfl, ma_cio4⟩
theorem ma_mk48 : ma_mok (4, yX4_fewestLeaving, cX4_fewestLeaving, 3, (some (FieldType.int))) := ⟨ma_T4 (i := 235) rfl rfl, rfl, ma_cio4⟩
theorem ma_mk49 : ma_mok (4, yX4_moveAll, cX4_moveAll, 5, (some (FieldType.boolean))) := ⟨ma_T4 (i := 239) rfl rfl, rfl, ma_cio4⟩
theorem ma_mk50 : ma_mok (4, yX4_topOf, cX4_topOf, 2, (some (FieldType.int))) := ⟨ma_T5 (i := 3) rfl rfl, rfl, ma_cio4⟩
theorem ma_mk51 : ma_mok (4, yX4_moveOut, cX4_moveOut, 3, (some (FieldType.boolean))) := ⟨ma_T5 (i := 8) rfl rfl, rfl, ma_cio4⟩
theorem ma_mk52 : ma_mok (4, yX4_leastEmpty, cX4_leastEmpty, 2, (some (FieldType.int))) := ⟨ma_T5 (i := 12) rfl rfl, rfl, ma_cio4⟩
theorem ma_mk53 : ma_mok (4, yX4_raiseTop, cX4_raiseTop, 3, none) := ⟨ma_T5 (i := 17) rfl rfl, rfl, ma_cio4⟩
theorem ma_mk54 : ma_mok (4, yX4_orElse, cX4_orElse, 2, (some (FieldType.int))) := ⟨ma_T5 (i := 20) rfl rfl, rfl, ma_cio4⟩
theorem ma_mk55 : ma_mok (4, yX4_topPlace, cX4_topPlace, 1, (some (FieldType.int))) := ⟨ma_T5 (i := 24) rfl rfl, rfl, ma_cio4⟩
theorem ma_mk56 : ma_mok (4, yX4_noteMade, cX4_noteMade, 2, none) := ⟨ma_T5 (i := 142) rfl rfl, rfl, ma_cio4⟩
theorem ma_mk57 : ma_mok (4, yX4_oldTopOrRegion, cX4_oldTopOrRegion, 1, (some (FieldType.int))) := ⟨ma_T7 (i := 58) rfl rfl, rfl, ma_cio4⟩
theorem ma_mk58 : ma_mok (5, yX5_init, cX5_init, 3, none) := ⟨ma_T1 (i := 183) rfl rfl, rfl, ma_cio5⟩
theorem ma_mk59 : ma_mok (5, yX5_open, cX5_open, 2, none) := ⟨ma_T3 (i := 16) rfl rfl, rfl, ma_cio5⟩
theorem ma_mk60 : ma_mok (5, yX5_total, cX5_total, 1, (some (FieldType.int))) := ⟨ma_T3 (i := 39) rfl rfl, rfl, ma_cio5⟩
theorem ma_mk61 : ma_mok (5, yX5_findRoom, cX5_findRoom, 2, (some (FieldType.int))) := ⟨ma_T5 (i := 27) rfl rfl, rfl, ma_cio5⟩
theorem ma_mk62 : ma_mok (5, yX5_cleanAll, cX5_cleanAll, 2, (some (FieldType.int))) := ⟨ma_T5 (i := 31) rfl rfl, rfl, ma_cio5⟩
theorem ma_mk63 : ma_mok (5, yX5_noteMade, cX5_noteMade, 2, none) := ⟨ma_T5 (i := 145) rfl rfl, rfl, ma_cio5⟩
theorem ma_mk64 : ma_mok (5, yX5_topPlace, cX5_topPlace, 1, (some (FieldType.int))) := ⟨ma_T7 (i := 31) rfl rfl, rfl, ma_cio5⟩
theorem ma_mk65 : ma_mok (6, yX6_init, cX6_init, 3, none) := ⟨ma_T2 (i := 31) rfl rfl, rfl, ma_cio6⟩
theorem ma_mk66 : ma_mok (6, yX6_open, cX6_open, 2, none) := ⟨ma_T3 (i := 19) rfl rfl, rfl, ma_cio6⟩
theorem ma_mk67 : ma_mok (6, yX6_cleanAll, cX6_cleanAll, 2, (some (FieldType.int))) := ⟨ma_T4 (i := 147) rfl rfl, rfl, ma_cio6⟩
theorem ma_mk68 : ma_mok (6, yX6_begin, cX6_begin, 1, none) := ⟨ma_T4 (i := 151) rfl rfl, rfl, ma_cio6⟩
theorem ma_mk69 : ma_mok (6, yX6_newsCame, cX6_newsCame, 1, (some (FieldType.boolean))) := ⟨ma_T4 (i := 158) rfl rfl, rfl, ma_cio6⟩
theorem ma_mk70 : ma_mok (6, yX6_finish, cX6_finish, 1, (some (FieldType.int))) := ⟨ma_T4 (i := 166) rfl rfl, rfl, ma_cio6⟩
theorem ma_mk71 : ma_mok (6, yX6_findRoom, cX6_findRoom, 4, (some (FieldType.int))) := ⟨ma_T5 (i := 40) rfl rfl, rfl, ma_cio6⟩
theorem ma_mk72 : ma_mok (6, yX6_goOn, cX6_goOn, 3, (some (FieldType.int))) := ⟨ma_T5 (i := 44) rfl rfl, rfl, ma_cio6⟩
theorem ma_mk73 : ma_mok (6, yX6_noteMade, cX6_noteMade, 2, none) := ⟨ma_T5 (i := 148) rfl rfl, rfl, ma_cio6⟩
theorem ma_mk74 : ma_mok (6, yX6_noteChange, cX6_noteChange, 3, none) := ⟨ma_T5 (i := 176) rfl rfl, rfl, ma_cio6⟩
theorem ma_mk75 : ma_mok (6, yX6_noteStrong, cX6_noteStrong, 2, none) := ⟨ma_T6 (i := 97) rfl rfl, rfl, ma_cio6⟩
theorem ma_mk76 : ma_mok (6, yX6_colourOf, cX6_colourOf, 2, (some (FieldType.int))) := ⟨ma_T6 (i := 217) rfl rfl, rfl, ma_cio6⟩
theorem ma_mk77 : ma_mok (6, yX6_specials, cX6_specials, 1, (some (FieldType.int))) := ⟨ma_T7 (i := 15) rfl rfl, rfl, ma_cio6⟩
theorem ma_mk78 : ma_mok (6, yX6_isMarking, cX6_isMarking, 1, (some (FieldType.boolean))) := ⟨ma_T7 (i := 45) rfl rfl, rfl, ma_cio6⟩
theorem ma_mk79 : ma_mok (7, yX7_init, cX7_init, 1, none) := ⟨ma_T1 (i := 42) rfl rfl, rfl, ma_cio7⟩
theorem ma_mk80 : ma_mok (7, yX7_forgetAll, cX7_forgetAll, 2, none) := ⟨ma_T2 (i := 232) rfl rfl, rfl, ma_cio7⟩
theorem ma_mk81 : ma_mok (7, yX7_thingAt, cX7_thingAt, 2, (some (FieldType.object "CollectorHouse$Thing"))) := ⟨ma_T3 (i := 214) rfl rfl, rfl, ma_cio7⟩
theorem ma_mk82 : ma_mok (7, yX7_referenceOf, cX7_referenceOf, 6, (some (FieldType.object "CollectorHouse$Thing"))) := ⟨ma_T3 (i := 230) rfl rfl, rfl, ma_cio7⟩
theorem ma_mk83 : ma_mok (7, yX7_grantWishes, cX7_grantWishes, 4, none) := ⟨ma_T3 (i := 234) rfl rfl, rfl, ma_cio7⟩
theorem ma_mk84 : ma_mok (7, yX7_grant, cX7_grant, 2, none) := ⟨ma_T4 (i := 7) rfl rfl, rfl, ma_cio7⟩
theorem ma_mk85 : ma_mok (7, yX7_clearWeak, cX7_clearWeak, 3, none) := ⟨ma_T4 (i := 11) rfl rfl, rfl, ma_cio7⟩
theorem ma_mk86 : ma_mok (7, yX7_removeOthers, cX7_removeOthers, 5, (some (FieldType.int))) := ⟨ma_T4 (i := 17) rfl rfl, rfl, ma_cio7⟩
theorem ma_mk87 : ma_mok (7, yX7_remove, cX7_remove, 4, none) := ⟨ma_T4 (i := 21) rfl rfl, rfl, ma_cio7⟩
theorem ma_mk88 : ma_mok (7, yX7_freeWords, cX7_freeWords, 4, none) := ⟨ma_T4 (i := 26) rfl rfl, rfl, ma_cio7⟩
theorem ma_mk89 : ma_mok (7, yX7_thingFrom, cX7_thingFrom, 3, (some (FieldType.object "CollectorHouse$Thing"))) := ⟨ma_T4 (i := 36) rfl rfl, rfl, ma_cio7⟩
theorem ma_mk90 : ma_mok (7, yX7_move, cX7_move, 5, none) := ⟨ma_T4 (i := 40) rfl rfl, rfl, ma_cio7⟩
theorem ma_mk91 : ma_mok (7, yX7_add, cX7_add, 4, none) := ⟨ma_T5 (i := 119) rfl rfl, rfl, ma_cio7⟩
theorem ma_mk92 : ma_mok (7, yX7_changeRoot, cX7_changeRoot, 4, (some (FieldType.object "CollectorHouse$Thing"))) := ⟨ma_T5 (i := 159) rfl rfl, rfl, ma_cio7⟩
theorem ma_mk93 : ma_mok (7, yX7_changeCounts, cX7_changeCounts, 2, none) := ⟨ma_T5 (i := 165) rfl rfl, rfl, ma_cio7⟩
theorem ma_mk94 : ma_mok (7, yX7_changeReference, cX7_changeReference, 5, (some (FieldType.object "CollectorHouse$Thing"))) := ⟨ma_T5 (i := 202) rfl rfl, rfl, ma_cio7⟩
theorem ma_mk95 : ma_mok (7, yX7_changeInt, cX7_changeInt, 6, (some (FieldType.int))) := ⟨ma_T5 (i := 206) rfl rfl, rfl, ma_cio7⟩
theorem ma_mk96 : ma_mok (7, yX7_wordOf, cX7_wordOf, 4, (some (FieldType.int))) := ⟨ma_T6 (i := 65) rfl rfl, rfl, ma_cio7⟩
theorem ma_mk97 : ma_mok (7, yX7_changeHolds, cX7_changeHolds, 3, none) := ⟨ma_T6 (i := 141) rfl rfl, rfl, ma_cio7⟩
theorem ma_mk98 : ma_mok (7, yX7_takeWish, cX7_takeWish, 3, (some (FieldType.object "CollectorHouse$Thing"))) := ⟨ma_T6 (i := 159) rfl rfl, rfl, ma_cio7⟩
theorem ma_mk99 : ma_mok (8, yX8_init, cX8_init, 3, none) := ⟨ma_T1 (i := 140) rfl rfl, rfl, ma_cio8⟩
theorem ma_mk100 : ma_mok (8, yX8_open, cX8_open, 2, none) := ⟨ma_T3 (i := 5) rfl rfl, rfl, ma_cio8⟩
theorem ma_mk101 : ma_mok (8, yX8_total, cX8_total, 1, (some (FieldType.int))) := ⟨ma_T3 (i := 30) rfl rfl, rfl, ma_cio8⟩
theorem ma_mk102 : ma_mok (8, yX8_findRoom, cX8_findRoom, 3, (some (FieldType.int))) := ⟨ma_T4 (i := 105) rfl rfl, rfl, ma_cio8⟩
theorem ma_mk103 : ma_mok (8, yX8_fit, cX8_fit, 2, (some (FieldType.int))) := ⟨ma_T4 (i := 112) rfl rfl, rfl, ma_cio8⟩
theorem ma_mk104 : ma_mok (8, yX8_fitFirst, cX8_fitFirst, 7, (some (FieldType.int))) := ⟨ma_T4 (i := 116) rfl rfl, rfl, ma_cio8⟩
theorem ma_mk105 : ma_mok (8, yX8_freeFrom, cX8_freeFrom, 4, (some (FieldType.int))) := ⟨ma_T4 (i := 123) rfl rfl, rfl, ma_cio8⟩
theorem ma_mk106 : ma_mok (8, yX8_freeEnd, cX8_freeEnd, 3, (some (FieldType.int))) := ⟨ma_T4 (i := 131) rfl rfl, rfl, ma_cio8⟩
theorem ma_mk107 : ma_mok (8, yX8_fitNext, cX8_fitNext, 3, (some (FieldType.int))) := ⟨ma_T4 (i := 135) rfl rfl, rfl, ma_cio8⟩
theorem ma_mk108 : ma_mok (8, yX8_fitByLength, cX8_fitByLength, 9, (some (FieldType.int))) := ⟨ma_T4 (i := 139) rfl rfl, rfl, ma_cio8⟩
theorem ma_mk109 : ma_mok (8, yX8_cleanAll, cX8_cleanAll, 1, (some (FieldType.int))) := ⟨ma_T4 (i := 169) rfl rfl, rfl, ma_cio8⟩
theorem ma_mk110 : ma_mok (8, yX8_noteMade, cX8_noteMade, 2, none) := ⟨ma_T5 (i := 136) rfl rfl, rfl, ma_cio8⟩
theorem ma_mk111 : ma_mok (8, yX8_blockPlace, cX8_blockPlace, 4, (some (FieldType.int))) := ⟨ma_T6 (i := 234) rfl rfl, rfl, ma_cio8⟩
theorem ma_mk112 : ma_mok (9, yX9_init, cX9_init, 7, none) := ⟨ma_T5 (i := 55) rfl rfl, rfl, ma_cio9⟩
theorem ma_mk113 : ma_mok (9, yX9_isReference, cX9_isReference, 2, (some (FieldType.boolean))) := ⟨ma_T5 (i := 123) rfl rfl, rfl, ma_cio9⟩
theorem ma_mk114 : ma_mok (9, yX9_hasWord, cX9_hasWord, 2, (some (FieldType.boolean))) := ⟨ma_T5 (i := 127) rfl rfl, rfl, ma_cio9⟩
theorem ma_mk115 : ma_mok (10, yX10_init, cX10_init, 2, none) := ⟨ma_T1 (i := 109) rfl rfl, rfl, ma_cio10⟩
theorem ma_mk116 : ma_mok (10, yX10_reachAll, cX10_reachAll, 1, none) := ⟨ma_T3 (i := 201) rfl rfl, rfl, ma_cio10⟩
theorem ma_mk117 : ma_mok (10, yX10_restart, cX10_restart, 2, none) := ⟨ma_T3 (i := 205) rfl rfl, rfl, ma_cio10⟩
theorem ma_mk118 : ma_mok (10, yX10_comeFromRoots, cX10_comeFromRoots, 3, none) := ⟨ma_T3 (i := 210) rfl rfl, rfl, ma_cio10⟩
theorem ma_mk119 : ma_mok (10, yX10_comes, cX10_comes, 2, none) := ⟨ma_T3 (i := 218) rfl rfl, rfl, ma_cio10⟩
theorem ma_mk120 : ma_mok (10, yX10_spread, cX10_spread, 5, (some (FieldType.int))) := ⟨ma_T3 (i := 222) rfl rfl, rfl, ma_cio10⟩
theorem ma_mk121 : ma_mok (10, yX10_blacken, cX10_blacken, 2, none) := ⟨ma_T3 (i := 226) rfl rfl, rfl, ma_cio10⟩
theorem ma_mk122 : ma_mok (10, yX10_keeps, cX10_keeps, 2, (some (FieldType.boolean))) := ⟨ma_T3 (i := 239) rfl rfl, rfl, ma_cio10⟩
theorem ma_mk123 : ma_mok (10, yX10_colourOf, cX10_colourOf, 2, (some (FieldType.int))) := ⟨ma_T4 (i := 3) rfl rfl, rfl, ma_cio10⟩
theorem ma_mk124 : ma_mok (10, yX10_thingInQueue, cX10_thingInQueue, 2, (some (FieldType.object "CollectorHouse$Thing"))) := ⟨ma_T4 (i := 97) rfl rfl, rfl, ma_cio10⟩
theorem ma_mk125 : ma_mok (10, yX10_isEmpty, cX10_isEmpty, 1, (some (FieldType.boolean))) := ⟨ma_T4 (i := 162) rfl rfl, rfl, ma_cio10⟩
theorem ma_mk126 : ma_mok (11, yX11_init, cX11_init, 1, none) := ⟨ma_T1 (i := 34) rfl rfl, rfl, ma_cio11⟩
theorem ma_mk127 : ma_mok (11, yX11_heap, cX11_heap, 2, (some (FieldType.int))) := ⟨ma_T2 (i := 123) rfl rfl, rfl, ma_cio11⟩
theorem ma_mk128 : ma_mok (11, yX11_readPolicy, cX11_readPolicy, 4, (some (FieldType.int))) := ⟨ma_T2 (i := 127) rfl rfl, rfl, ma_cio11⟩
theorem ma_mk129 : ma_mok (11, yX11_nextToken, cX11_nextToken, 2, (some (FieldType.boolean))) := ⟨ma_T2 (i := 131) rfl rfl, rfl, ma_cio11⟩
theorem ma_mk130 : ma_mok (11, yX11_policyToken, cX11_policyToken, 1, (some (FieldType.int))) := ⟨ma_T2 (i := 135) rfl rfl, rfl, ma_cio11⟩
theorem ma_mk131 : ma_mok (11, yX11_tokenIs, cX11_tokenIs, 3, (some (FieldType.boolean))) := ⟨ma_T2 (i := 140) rfl rfl, rfl, ma_cio11⟩
theorem ma_mk132 : ma_mok (11, yX11_partsOf, cX11_partsOf, 1, (some (FieldType.object "java/lang/String"))) := ⟨ma_T2 (i := 197) rfl rfl, rfl, ma_cio11⟩
theorem ma_mk133 : ma_mok (11, yX11_partToken, cX11_partToken, 2, (some (FieldType.int))) := ⟨ma_T2 (i := 207) rfl rfl, rfl, ma_cio11⟩
theorem ma_mk134 : ma_mok (11, yX11_numberToken, cX11_numberToken, 6, (some (FieldType.int))) := ⟨ma_T2 (i := 211) rfl rfl, rfl, ma_cio11⟩
theorem ma_mk135 : ma_mok (11, yX11_formToken, cX11_formToken, 1, (some (FieldType.int))) := ⟨ma_T2 (i := 218) rfl rfl, rfl, ma_cio11⟩
theorem ma_mk136 : ma_mok (11, yX11_barrierToken, cX11_barrierToken, 1, (some (FieldType.int))) := ⟨ma_T2 (i := 226) rfl rfl, rfl, ma_cio11⟩
theorem ma_mk137 : ma_mok (11, yX11_feed, cX11_feed, 6, (some (FieldType.int))) := ⟨ma_T3 (i := 49) rfl rfl, rfl, ma_cio11⟩
theorem ma_mk138 : ma_mok (11, yX11_addBytes, cX11_addBytes, 3, none) := ⟨ma_T3 (i := 119) rfl rfl, rfl, ma_cio11⟩
theorem ma_mk139 : ma_mok (11, yX11_end, cX11_end, 2, (some (FieldType.int))) := ⟨ma_T3 (i := 127) rfl rfl, rfl, ma_cio11⟩
theorem ma_mk140 : ma_mok (11, yX11_kind, cX11_kind, 3, (some (FieldType.int))) := ⟨ma_T3 (i := 150) rfl rfl, rfl, ma_cio11⟩
theorem ma_mk141 : ma_mok (11, yX11_make, cX11_make, 3, (some (FieldType.int))) := ⟨ma_T3 (i := 172) rfl rfl, rfl, ma_cio11⟩
theorem ma_mk142 : ma_mok (11, yX11_isSlot, cX11_isSlot, 1, (some (FieldType.boolean))) := ⟨ma_T3 (i := 175) rfl rfl, rfl, ma_cio11⟩
theorem ma_mk143 : ma_mok (11, yX11_addObject, cX11_addObject, 9, (some (FieldType.int))) := ⟨ma_T3 (i := 179) rfl rfl, rfl, ma_cio11⟩
theorem ma_mk144 : ma_mok (11, yX11_needCollector, cX11_needCollector, 1, (some (FieldType.object "CollectorHouse$Collector"))) := ⟨ma_T3 (i := 183) rfl rfl, rfl, ma_cio11⟩
theorem ma_mk145 : ma_mok (11, yX11_changeRoot, cX11_changeRoot, 5, (some (FieldType.object "CollectorHouse$Thing"))) := ⟨ma_T5 (i := 155) rfl rfl, rfl, ma_cio11⟩
theorem ma_mk146 : ma_mok (11, yX11_numberOf, cX11_numberOf, 1, (some (FieldType.int))) := ⟨ma_T5 (i := 162) rfl rfl, rfl, ma_cio11⟩
theorem ma_mk147 : ma_mok (11, yX11_row, cX11_row, 4, (some (FieldType.int))) := ⟨ma_T5 (i := 220) rfl rfl, rfl, ma_cio11⟩
theorem ma_mk148 : ma_mok (11, yX11_put, cX11_put, 5, (some (FieldType.int))) := ⟨ma_T5 (i := 230) rfl rfl, rfl, ma_cio11⟩
theorem ma_mk149 : ma_mok (11, yX11_needReached, cX11_needReached, 3, (some (FieldType.object "CollectorHouse$Thing"))) := ⟨ma_T5 (i := 234) rfl rfl, rfl, ma_cio11⟩
theorem ma_mk150 : ma_mok (11, yX11_link, cX11_link, 8, (some (FieldType.int))) := ⟨ma_T6 (i := 37) rfl rfl, rfl, ma_cio11⟩
theorem ma_mk151 : ma_mok (11, yX11_needReachedOrNothing, cX11_needReachedOrNothing, 2, (some (FieldType.object "CollectorHouse$Thing"))) := ⟨ma_T6 (i := 41) rfl rfl, rfl, ma_cio11⟩
theorem ma_mk152 : ma_mok (11, yX11_get, cX11_get, 4, (some (FieldType.int))) := ⟨ma_T6 (i := 61) rfl rfl, rfl, ma_cio11⟩
theorem ma_mk153 : ma_mok (11, yX11_root, cX11_root, 5, (some (FieldType.int))) := ⟨ma_T6 (i := 72) rfl rfl, rfl, ma_cio11⟩
theorem ma_mk154 : ma_mok (11, yX11_weak, cX11_weak, 5, (some (FieldType.int))) := ⟨ma_T6 (i := 79) rfl rfl, rfl, ma_cio11⟩
theorem ma_mk155 : ma_mok (11, yX11_strong, cX11_strong, 5, (some (FieldType.int))) := ⟨ma_T6 (i := 86) rfl rfl, rfl, ma_cio11⟩
theorem ma_mk156 : ma_mok (11, yX11_hold, cX11_hold, 5, (some (FieldType.int))) := ⟨ma_T6 (i := 107) rfl rfl, rfl, ma_cio11⟩
theorem ma_mk157 : ma_mok (11, yX11_wish, cX11_wish, 4, (some (FieldType.int))) := ⟨ma_T6 (i := 148) rfl rfl, rfl, ma_cio11⟩
theorem ma_mk158 : ma_mok (11, yX11_granted, cX11_granted, 4, (some (FieldType.int))) := ⟨ma_T6 (i := 155) rfl rfl, rfl, ma_cio11⟩
theorem ma_mk159 : ma_mok (11, yX11_clean, cX11_clean, 1, (some (FieldType.int))) := ⟨ma_T6 (i := 166) rfl rfl, rfl, ma_cio11⟩
theorem ma_mk160 : ma_mok (11, yX11_step, cX11_step, 4, (some (FieldType.int))) := ⟨ma_T6 (i := 185) rfl rfl, rfl, ma_cio11⟩
theorem ma_mk161 : ma_mok (11, yX11_about, cX11_about, 5, (some (FieldType.int))) := ⟨ma_T6 (i := 193) rfl rfl, rfl, ma_cio11⟩
theorem ma_mk162 : ma_mok (11, yX11_block, cX11_block, 5, (some (FieldType.int))) := ⟨ma_T6 (i := 227) rfl rfl, rfl, ma_cio11⟩
theorem ma_mk163 : ma_mok (11, yX11_count, cX11_count, 3, (some (FieldType.int))) := ⟨ma_T7 (i := 2) rfl rfl, rfl, ma_cio11⟩
theorem ma_mk164 : ma_mok (12, yX12_thrown, cX12_thrown, 1, (some (FieldType.int))) := ⟨ma_T7 (i := 66) rfl rfl, rfl, ma_cio12⟩
theorem ma_mk165 : ma_mok (12, yX12_init, cX12_init, 1, none) := ⟨ma_T7 (i := 71) rfl rfl, rfl, ma_cio12⟩
theorem ma_mk166 : ma_mok (12, yX12_feed, cX12_feed, 6, (some (FieldType.int))) := ⟨ma_T8 (i := 94) rfl rfl, rfl, ma_cio12⟩
theorem ma_mk167 : ma_mok (12, yX12_fails, cX12_fails, 2, (some (FieldType.boolean))) := ⟨ma_T8 (i := 98) rfl rfl, rfl, ma_cio12⟩
theorem ma_mk168 : ma_mok (12, yX12_four, cX12_four, 3, none) := ⟨ma_T8 (i := 102) rfl rfl, rfl, ma_cio12⟩
theorem ma_mk169 : ma_mok (12, yX12_end, cX12_end, 2, (some (FieldType.int))) := ⟨ma_T8 (i := 106) rfl rfl, rfl, ma_cio12⟩
theorem ma_mk170 : ma_mok (12, yX12_kind, cX12_kind, 4, (some (FieldType.int))) := ⟨ma_T8 (i := 110) rfl rfl, rfl, ma_cio12⟩
theorem ma_mk171 : ma_mok (12, yX12_heap, cX12_heap, 2, (some (FieldType.int))) := ⟨ma_T8 (i := 114) rfl rfl, rfl, ma_cio12⟩
theorem ma_mk172 : ma_mok (12, yX12_readPolicy, cX12_readPolicy, 1, (some (FieldType.boolean))) := ⟨ma_T8 (i := 118) rfl rfl, rfl, ma_cio12⟩
theorem ma_mk173 : ma_mok (12, yX12_token, cX12_token, 1, (some (FieldType.boolean))) := ⟨ma_T8 (i := 122) rfl rfl, rfl, ma_cio12⟩
theorem ma_mk174 : ma_mok (12, yX12_wrong, cX12_wrong, 2, (some (FieldType.boolean))) := ⟨ma_T8 (i := 126) rfl rfl, rfl, ma_cio12⟩
theorem ma_mk175 : ma_mok (12, yX12_is, cX12_is, 9, (some (FieldType.boolean))) := ⟨ma_T8 (i := 130) rfl rfl, rfl, ma_cio12⟩
theorem ma_mk176 : ma_mok (12, yX12_byteIs, cX12_byteIs, 3, (some (FieldType.boolean))) := ⟨ma_T8 (i := 134) rfl rfl, rfl, ma_cio12⟩
theorem ma_mk177 : ma_mok (12, yX12_number, cX12_number, 7, (some (FieldType.boolean))) := ⟨ma_T8 (i := 138) rfl rfl, rfl, ma_cio12⟩
theorem ma_mk178 : ma_mok (12, yX12_roomHere, cX12_roomHere, 1, (some (FieldType.boolean))) := ⟨ma_T8 (i := 142) rfl rfl, rfl, ma_cio12⟩
theorem ma_mk179 : ma_mok (12, yX12_form, cX12_form, 1, (some (FieldType.boolean))) := ⟨ma_T8 (i := 146) rfl rfl, rfl, ma_cio12⟩
theorem ma_mk180 : ma_mok (12, yX12_empty, cX12_empty, 2, none) := ⟨ma_T8 (i := 150) rfl rfl, rfl, ma_cio12⟩
theorem ma_mk181 : ma_mok (12, yX12_make, cX12_make, 3, (some (FieldType.int))) := ⟨ma_T8 (i := 154) rfl rfl, rfl, ma_cio12⟩
theorem ma_mk182 : ma_mok (12, yX12_isNamed, cX12_isNamed, 2, (some (FieldType.boolean))) := ⟨ma_T8 (i := 158) rfl rfl, rfl, ma_cio12⟩
theorem ma_mk183 : ma_mok (12, yX12_fresh, cX12_fresh, 7, (some (FieldType.int))) := ⟨ma_T8 (i := 162) rfl rfl, rfl, ma_cio12⟩
theorem ma_mk184 : ma_mok (12, yX12_findRoom, cX12_findRoom, 4, (some (FieldType.int))) := ⟨ma_T8 (i := 166) rfl rfl, rfl, ma_cio12⟩
theorem ma_mk185 : ma_mok (12, yX12_findInHalf, cX12_findInHalf, 4, (some (FieldType.int))) := ⟨ma_T8 (i := 170) rfl rfl, rfl, ma_cio12⟩
theorem ma_mk186 : ma_mok (12, yX12_cleanSlide, cX12_cleanSlide, 2, (some (FieldType.int))) := ⟨ma_T8 (i := 174) rfl rfl, rfl, ma_cio12⟩
theorem ma_mk187 : ma_mok (12, yX12_sweep, cX12_sweep, 1, (some (FieldType.int))) := ⟨ma_T8 (i := 178) rfl rfl, rfl, ma_cio12⟩
theorem ma_mk188 : ma_mok (12, yX12_keepReached, cX12_keepReached, 2, none) := ⟨ma_T8 (i := 182) rfl rfl, rfl, ma_cio12⟩
theorem ma_mk189 : ma_mok (12, yX12_keepNone, cX12_keepNone, 2, none) := ⟨ma_T8 (i := 186) rfl rfl, rfl, ma_cio12⟩
theorem ma_mk190 : ma_mok (12, yX12_keep, cX12_keep, 2, none) := ⟨ma_T8 (i := 190) rfl rfl, rfl, ma_cio12⟩
theorem ma_mk191 : ma_mok (12, yX12_keepAll, cX12_keepAll, 3, none) := ⟨ma_T8 (i := 194) rfl rfl, rfl, ma_cio12⟩
theorem ma_mk192 : ma_mok (12, yX12_reference, cX12_reference, 3, (some (FieldType.int))) := ⟨ma_T8 (i := 198) rfl rfl, rfl, ma_cio12⟩
theorem ma_mk193 : ma_mok (12, yX12_isReference, cX12_isReference, 3, (some (FieldType.boolean))) := ⟨ma_T8 (i := 202) rfl rfl, rfl, ma_cio12⟩
theorem ma_mk194 : ma_mok (12, yX12_grantAll, cX12_grantAll, 3, none) := ⟨ma_T8 (i := 206) rfl rfl, rfl, ma_cio12⟩
theorem ma_mk195 : ma_mok (12, yX12_wisher, cX12_wisher, 5, (some (FieldType.int))) := ⟨ma_T8 (i := 210) rfl rfl, rfl, ma_cio12⟩
theorem ma_mk196 : ma_mok (12, yX12_isOld, cX12_isOld, 2, (some (FieldType.boolean))) := ⟨ma_T8 (i := 214) rfl rfl, rfl, ma_cio12⟩
theorem ma_mk197 : ma_mok (12, yX12_toWishes, cX12_toWishes, 2, none) := ⟨ma_T8 (i := 218) rfl rfl, rfl, ma_cio12⟩
theorem ma_mk198 : ma_mok (12, yX12_unweak, cX12_unweak, 3, none) := ⟨ma_T8 (i := 222) rfl rfl, rfl, ma_cio12⟩
theorem ma_mk199 : ma_mok (12, yX12_unweakRest, cX12_unweakRest, 2, none) := ⟨ma_T8 (i := 226) rfl rfl, rfl, ma_cio12⟩
theorem ma_mk200 : ma_mok (12, yX12_removeRest, cX12_removeRest, 4, (some (FieldType.int))) := ⟨ma_T8 (i := 230) rfl rfl, rfl, ma_cio12⟩
theorem ma_mk201 : ma_mok (12, yX12_sizeOf, cX12_sizeOf, 2, (some (FieldType.int))) := ⟨ma_T8 (i := 234) rfl rfl, rfl, ma_cio12⟩
theorem ma_mk202 : ma_mok (12, yX12_uncountKept, cX12_uncountKept, 2, none) := ⟨ma_T8 (i := 238) rfl rfl, rfl, ma_cio12⟩
theorem ma_mk203 : ma_mok (12, yX12_remove, cX12_remove, 2, none) := ⟨ma_T9 (i := 2) rfl rfl, rfl, ma_cio12⟩
theorem ma_mk204 : ma_mok (12, yX12_slide, cX12_slide, 6, (some (FieldType.int))) := ⟨ma_T9 (i := 6) rfl rfl, rfl, ma_cio12⟩
theorem ma_mk205 : ma_mok (12, yX12_move, cX12_move, 3, none) := ⟨ma_T9 (i := 10) rfl rfl, rfl, ma_cio12⟩
theorem ma_mk206 : ma_mok (12, yX12_cleanHalves, cX12_cleanHalves, 2, (some (FieldType.int))) := ⟨ma_T9 (i := 14) rfl rfl, rfl, ma_cio12⟩
theorem ma_mk207 : ma_mok (12, yX12_come, cX12_come, 2, none) := ⟨ma_T9 (i := 18) rfl rfl, rfl, ma_cio12⟩
theorem ma_mk208 : ma_mok (12, yX12_comeAll, cX12_comeAll, 3, none) := ⟨ma_T9 (i := 22) rfl rfl, rfl, ma_cio12⟩
theorem ma_mk209 : ma_mok (12, yX12_comeWishers, cX12_comeWishers, 4, none) := ⟨ma_T9 (i := 26) rfl rfl, rfl, ma_cio12⟩
theorem ma_mk210 : ma_mok (12, yX12_findInYoung, cX12_findInYoung, 4, (some (FieldType.int))) := ⟨ma_T9 (i := 30) rfl rfl, rfl, ma_cio12⟩
theorem ma_mk211 : ma_mok (12, yX12_major, cX12_major, 2, (some (FieldType.int))) := ⟨ma_T9 (i := 34) rfl rfl, rfl, ma_cio12⟩
theorem ma_mk212 : ma_mok (12, yX12_findDirty, cX12_findDirty, 4, none) := ⟨ma_T9 (i := 38) rfl rfl, rfl, ma_cio12⟩
theorem ma_mk213 : ma_mok (12, yX12_cardOf, cX12_cardOf, 3, (some (FieldType.int))) := ⟨ma_T9 (i := 42) rfl rfl, rfl, ma_cio12⟩
theorem ma_mk214 : ma_mok (12, yX12_minor, cX12_minor, 4, (some (FieldType.int))) := ⟨ma_T9 (i := 46) rfl rfl, rfl, ma_cio12⟩
theorem ma_mk215 : ma_mok (12, yX12_isOldFull, cX12_isOldFull, 3, (some (FieldType.boolean))) := ⟨ma_T9 (i := 50) rfl rfl, rfl, ma_cio12⟩
theorem ma_mk216 : ma_mok (12, yX12_comeDirty, cX12_comeDirty, 5, none) := ⟨ma_T9 (i := 54) rfl rfl, rfl, ma_cio12⟩
theorem ma_mk217 : ma_mok (12, yX12_findInSteps, cX12_findInSteps, 5, (some (FieldType.int))) := ⟨ma_T9 (i := 58) rfl rfl, rfl, ma_cio12⟩
theorem ma_mk218 : ma_mok (12, yX12_freeWords, cX12_freeWords, 1, (some (FieldType.int))) := ⟨ma_T9 (i := 62) rfl rfl, rfl, ma_cio12⟩
theorem ma_mk219 : ma_mok (12, yX12_beginMarking, cX12_beginMarking, 2, none) := ⟨ma_T9 (i := 66) rfl rfl, rfl, ma_cio12⟩
theorem ma_mk220 : ma_mok (12, yX12_greyRoots, cX12_greyRoots, 4, none) := ⟨ma_T9 (i := 70) rfl rfl, rfl, ma_cio12⟩
theorem ma_mk221 : ma_mok (12, yX12_toGrey, cX12_toGrey, 2, none) := ⟨ma_T9 (i := 74) rfl rfl, rfl, ma_cio12⟩
theorem ma_mk222 : ma_mok (12, yX12_steps, cX12_steps, 5, (some (FieldType.int))) := ⟨ma_T9 (i := 78) rfl rfl, rfl, ma_cio12⟩
theorem ma_mk223 : ma_mok (12, yX12_lookEmpty, cX12_lookEmpty, 2, (some (FieldType.int))) := ⟨ma_T9 (i := 82) rfl rfl, rfl, ma_cio12⟩
theorem ma_mk224 : ma_mok (12, yX12_find, cX12_find, 5, (some (FieldType.int))) := ⟨ma_T9 (i := 86) rfl rfl, rfl, ma_cio12⟩
theorem ma_mk225 : ma_mok (12, yX12_firstFit, cX12_firstFit, 5, (some (FieldType.int))) := ⟨ma_T9 (i := 90) rfl rfl, rfl, ma_cio12⟩
theorem ma_mk226 : ma_mok (12, yX12_blockFrom, cX12_blockFrom, 5, (some (FieldType.int))) := ⟨ma_T9 (i := 94) rfl rfl, rfl, ma_cio12⟩
theorem ma_mk227 : ma_mok (12, yX12_startOf, cX12_startOf, 3, (some (FieldType.int))) := ⟨ma_T9 (i := 98) rfl rfl, rfl, ma_cio12⟩
theorem ma_mk228 : ma_mok (12, yX12_firstFitAhead, cX12_firstFitAhead, 4, (some (FieldType.int))) := ⟨ma_T9 (i := 102) rfl rfl, rfl, ma_cio12⟩
theorem ma_mk229 : ma_mok (12, yX12_whole, cX12_whole, 1, (some (FieldType.int))) := ⟨ma_T9 (i := 106) rfl rfl, rfl, ma_cio12⟩
theorem ma_mk230 : ma_mok (12, yX12_finish, cX12_finish, 3, (some (FieldType.int))) := ⟨ma_T9 (i := 110) rfl rfl, rfl, ma_cio12⟩
theorem ma_mk231 : ma_mok (12, yX12_findInRegions, cX12_findInRegions, 4, (some (FieldType.int))) := ⟨ma_T9 (i := 114) rfl rfl, rfl, ma_cio12⟩
theorem ma_mk232 : ma_mok (12, yX12_findInRegion, cX12_findInRegion, 3, (some (FieldType.int))) := ⟨ma_T9 (i := 118) rfl rfl, rfl, ma_cio12⟩
theorem ma_mk233 : ma_mok (12, yX12_emptyRegions, cX12_emptyRegions, 3, (some (FieldType.int))) := ⟨ma_T9 (i := 122) rfl rfl, rfl, ma_cio12⟩
theorem ma_mk234 : ma_mok (12, yX12_leastEmpty, cX12_leastEmpty, 2, (some (FieldType.int))) := ⟨ma_T9 (i := 126) rfl rfl, rfl, ma_cio12⟩
theorem ma_mk235 : ma_mok (12, yX12_cleanRegions, cX12_cleanRegions, 10, (some (FieldType.int))) := ⟨ma_T9 (i := 130) rfl rfl, rfl, ma_cio12⟩
theorem ma_mk236 : ma_mok (12, yX12_sparse, cX12_sparse, 3, (some (FieldType.int))) := ⟨ma_T9 (i := 134) rfl rfl, rfl, ma_cio12⟩
theorem ma_mk237 : ma_mok (12, yX12_findByForm, cX12_findByForm, 4, (some (FieldType.int))) := ⟨ma_T9 (i := 138) rfl rfl, rfl, ma_cio12⟩
theorem ma_mk238 : ma_mok (12, yX12_setRoot, cX12_setRoot, 4, none) := ⟨ma_T9 (i := 142) rfl rfl, rfl, ma_cio12⟩
theorem ma_mk239 : ma_mok (12, yX12_more, cX12_more, 2, none) := ⟨ma_T9 (i := 146) rfl rfl, rfl, ma_cio12⟩
theorem ma_mk240 : ma_mok (12, yX12_changes, cX12_changes, 3, none) := ⟨ma_T9 (i := 150) rfl rfl, rfl, ma_cio12⟩
theorem ma_mk241 : ma_mok (12, yX12_less, cX12_less, 5, none) := ⟨ma_T9 (i := 154) rfl rfl, rfl, ma_cio12⟩
theorem ma_mk242 : ma_mok (12, yX12_fall, cX12_fall, 2, none) := ⟨ma_T9 (i := 158) rfl rfl, rfl, ma_cio12⟩
theorem ma_mk243 : ma_mok (12, yX12_row, cX12_row, 4, (some (FieldType.int))) := ⟨ma_T9 (i := 162) rfl rfl, rfl, ma_cio12⟩
theorem ma_mk244 : ma_mok (12, yX12_put, cX12_put, 6, (some (FieldType.int))) := ⟨ma_T9 (i := 166) rfl rfl, rfl, ma_cio12⟩
theorem ma_mk245 : ma_mok (12, yX12_reached, cX12_reached, 3, (some (FieldType.int))) := ⟨ma_T9 (i := 170) rfl rfl, rfl, ma_cio12⟩
theorem ma_mk246 : ma_mok (12, yX12_placeOf, cX12_placeOf, 3, (some (FieldType.int))) := ⟨ma_T9 (i := 174) rfl rfl, rfl, ma_cio12⟩
theorem ma_mk247 : ma_mok (12, yX12_link, cX12_link, 9, (some (FieldType.int))) := ⟨ma_T9 (i := 178) rfl rfl, rfl, ma_cio12⟩
theorem ma_mk248 : ma_mok (12, yX12_numberOf, cX12_numberOf, 2, (some (FieldType.int))) := ⟨ma_T9 (i := 182) rfl rfl, rfl, ma_cio12⟩
theorem ma_mk249 : ma_mok (12, yX12_get, cX12_get, 4, (some (FieldType.int))) := ⟨ma_T9 (i := 186) rfl rfl, rfl, ma_cio12⟩
theorem ma_mk250 : ma_mok (12, yX12_root, cX12_root, 5, (some (FieldType.int))) := ⟨ma_T9 (i := 190) rfl rfl, rfl, ma_cio12⟩
theorem ma_mk251 : ma_mok (12, yX12_weak, cX12_weak, 5, (some (FieldType.int))) := ⟨ma_T9 (i := 194) rfl rfl, rfl, ma_cio12⟩
theorem ma_mk252 : ma_mok (12, yX12_strong, cX12_strong, 4, (some (FieldType.int))) := ⟨ma_T9 (i := 198) rfl rfl, rfl, ma_cio12⟩
theorem ma_mk253 : ma_mok (12, yX12_hold, cX12_hold, 5, (some (FieldType.int))) := ⟨ma_T9 (i := 202) rfl rfl, rfl, ma_cio12⟩
theorem ma_mk254 : ma_mok (12, yX12_wish, cX12_wish, 4, (some (FieldType.int))) := ⟨ma_T9 (i := 206) rfl rfl, rfl, ma_cio12⟩
theorem ma_mk255 : ma_mok (12, yX12_granted, cX12_granted, 4, (some (FieldType.int))) := ⟨ma_T9 (i := 210) rfl rfl, rfl, ma_cio12⟩
theorem ma_mk256 : ma_mok (12, yX12_clean, cX12_clean, 2, (some (FieldType.int))) := ⟨ma_T9 (i := 214) rfl rfl, rfl, ma_cio12⟩
theorem ma_mk257 : ma_mok (12, yX12_step, cX12_step, 4, (some (FieldType.int))) := ⟨ma_T9 (i := 218) rfl rfl, rfl, ma_cio12⟩
theorem ma_mk258 : ma_mok (12, yX12_about, cX12_about, 4, (some (FieldType.int))) := ⟨ma_T9 (i := 222) rfl rfl, rfl, ma_cio12⟩
theorem ma_mk259 : ma_mok (12, yX12_block, cX12_block, 6, (some (FieldType.int))) := ⟨ma_T9 (i := 226) rfl rfl, rfl, ma_cio12⟩
theorem ma_mk260 : ma_mok (12, yX12_count, cX12_count, 2, (some (FieldType.int))) := ⟨ma_T9 (i := 230) rfl rfl, rfl, ma_cio12⟩
theorem ma_mk261 : ma_mok (12, yX12_dirtyCards, cX12_dirtyCards, 3, (some (FieldType.int))) := ⟨ma_T9 (i := 234) rfl rfl, rfl, ma_cio12⟩
theorem ma_mk262 : ma_mok (13, yX1_init, cX1_init, 3, none) := ⟨ma_T1 (i := 143) rfl rfl, rfl, ma_cio13⟩
theorem ma_mk263 : ma_mok (13, yX1_slideDown, cX1_slideDown, 5, (some (FieldType.int))) := ⟨ma_T4 (i := 32) rfl rfl, rfl, ma_cio13⟩
theorem ma_mk264 : ma_mok (13, yX1_removeUnreached, cX1_removeUnreached, 1, (some (FieldType.int))) := ⟨ma_T4 (i := 177) rfl rfl, rfl, ma_cio13⟩
theorem ma_mk265 : ma_mok (13, yX1_noteChange, cX1_noteChange, 3, none) := ⟨ma_T5 (i := 179) rfl rfl, rfl, ma_cio13⟩
theorem ma_mk266 : ma_mok (13, yX1_noteFewer, cX1_noteFewer, 2, none) := ⟨ma_T5 (i := 213) rfl rfl, rfl, ma_cio13⟩
theorem ma_mk267 : ma_mok (13, yX1_noteReference, cX1_noteReference, 4, none) := ⟨ma_T6 (i := 53) rfl rfl, rfl, ma_cio13⟩
theorem ma_mk268 : ma_mok (13, yX1_noteStrong, cX1_noteStrong, 2, none) := ⟨ma_T6 (i := 99) rfl rfl, rfl, ma_cio13⟩
theorem ma_mk269 : ma_mok (13, yX1_canHold, cX1_canHold, 2, (some (FieldType.boolean))) := ⟨ma_T6 (i := 122) rfl rfl, rfl, ma_cio13⟩
theorem ma_mk270 : ma_mok (13, yX1_countOf, cX1_countOf, 2, (some (FieldType.int))) := ⟨ma_T6 (i := 206) rfl rfl, rfl, ma_cio13⟩
theorem ma_mk271 : ma_mok (13, yX1_colourOf, cX1_colourOf, 2, (some (FieldType.int))) := ⟨ma_T6 (i := 220) rfl rfl, rfl, ma_cio13⟩
theorem ma_mk272 : ma_mok (13, yX1_specials, cX1_specials, 1, (some (FieldType.int))) := ⟨ma_T7 (i := 17) rfl rfl, rfl, ma_cio13⟩
theorem ma_mk273 : ma_mok (13, yX1_topPlace, cX1_topPlace, 1, (some (FieldType.int))) := ⟨ma_T7 (i := 34) rfl rfl, rfl, ma_cio13⟩
theorem ma_mk274 : ma_mok (13, yX1_isMarking, cX1_isMarking, 1, (some (FieldType.boolean))) := ⟨ma_T7 (i := 47) rfl rfl, rfl, ma_cio13⟩
theorem ma_mk275 : ma_mok (13, yX1_oldTopOrRegion, cX1_oldTopOrRegion, 1, (some (FieldType.int))) := ⟨ma_T7 (i := 62) rfl rfl, rfl, ma_cio13⟩
theorem ma_mk276 : ma_mok (15, yJ7_fill_53178, cJ7_fill_53178, 4, none) := ⟨ma_T2 (i := 235) rfl rfl, rfl, ma_cio15⟩
theorem ma_mk277 : ma_mok (17, yJ0_length_8abf5, cJ0_length_8abf5, 1, (some (FieldType.int))) := ⟨ma_T2 (i := 144) rfl rfl, rfl, ma_cio17⟩
theorem ma_mk278 : ma_mok (17, yJ0_coder_7d493, cJ0_coder_7d493, 1, (some (FieldType.byte))) := ⟨ma_T2 (i := 148) rfl rfl, rfl, ma_cio17⟩
theorem ma_mk279 : ma_mok (17, yJ0_charAt_5068e, cJ0_charAt_5068e, 2, (some (FieldType.char))) := ⟨ma_T2 (i := 154) rfl rfl, rfl, ma_cio17⟩
theorem ma_mk280 : ma_mok (17, yJ0_isLatin1_aae02, cJ0_isLatin1_aae02, 1, (some (FieldType.boolean))) := ⟨ma_T2 (i := 158) rfl rfl, rfl, ma_cio17⟩
theorem ma_mk281 : ma_mok (17, yJ0_checkIndex_df160, cJ0_checkIndex_df160, 2, none) := ⟨ma_T2 (i := 164) rfl rfl, rfl, ma_cio17⟩
theorem ma_mk282 : ma_mok (18, yJ1_charAt_3b067, cJ1_charAt_3b067, 2, (some (FieldType.char))) := ⟨ma_T2 (i := 161) rfl rfl, rfl, ma_cio18⟩
theorem ma_mk283 : ma_mok (19, yJ3_checkIndex_8e157, cJ3_checkIndex_8e157, 3, (some (FieldType.int))) := ⟨ma_T2 (i := 169) rfl rfl, rfl, ma_cio19⟩
def ma_mdh_0 : List (Nat × MethodName × ByteArray × Nat × Option FieldType) := [(1, yX0_init, cX0_init, 3, none), (1, yX0_open, cX0_open, 2, none), (1, yX0_total, cX0_total, 1, (some (FieldType.int))), (1, yX0_findRoom, cX0_findRoom, 2, (some (FieldType.int))), (1, yX0_findOldRoom, cX0_findOldRoom, 2, (some (FieldType.int))), (1, yX0_cleanOld, cX0_cleanOld, 2, (some (FieldType.int))), (1, yX0_findDirty, cX0_findDirty, 4, none), (1, yX0_isYoung, cX0_isYoung, 2, (some (FieldType.boolean))), (1, yX0_noteReference, cX0_noteReference, 5, none), (1, yX0_cardOf, cX0_cardOf, 3, (some (FieldType.int))), (1, yX0_hasYoungRoom, cX0_hasYoungRoom, 2, (some (FieldType.boolean))), (1, yX0_cleanYoung, cX0_cleanYoung, 2, (some (FieldType.int))), (1, yX0_wordsGrowingOld, cX0_wordsGrowingOld, 4, (some (FieldType.int))), (1, yX0_comeFromDirty, cX0_comeFromDirty, 3, none), (1, yX0_comeFromDirtyWords, cX0_comeFromDirtyWords, 4, none), (1, yX0_moveKept, cX0_moveKept, 3, none), (1, yX0_moveOlder, cX0_moveOlder, 2, none), (1, yX0_noteMade, cX0_noteMade, 2, none), (1, yX0_canHold, cX0_canHold, 2, (some (FieldType.boolean))), (1, yX0_cleanAll, cX0_cleanAll, 2, (some (FieldType.int)))]
theorem ma_mdh_ok0 : ∀ q ∈ ma_mdh_0, ma_mok q := List.forall_mem_cons.mpr ⟨ma_mk0, List.forall_mem_cons.mpr ⟨ma_mk1, List.forall_mem_cons.mpr ⟨ma_mk2, List.forall_mem_cons.mpr ⟨ma_mk3, List.forall_mem_cons.mpr ⟨ma_mk4, List.forall_mem_cons.mpr ⟨ma_mk5, List.forall_mem_cons.mpr ⟨ma_mk6, List.forall_mem_cons.mpr ⟨ma_mk7, List.forall_mem_cons.mpr ⟨ma_mk8, List.forall_mem_cons.mpr ⟨ma_mk9, List.forall_mem_cons.mpr ⟨ma_mk10, List.forall_mem_cons.mpr ⟨ma_mk11, List.forall_mem_cons.mpr ⟨ma_mk12, List.forall_mem_cons.mpr ⟨ma_mk13, List.forall_mem_cons.mpr ⟨ma_mk14, List.forall_mem_cons.mpr ⟨ma_mk15, List.forall_mem_cons.mpr ⟨ma_mk16, List.forall_mem_cons.mpr ⟨ma_mk17, List.forall_mem_cons.mpr ⟨ma_mk18, List.forall_mem_cons.mpr ⟨ma_mk19, List.forall_mem_nil _⟩⟩⟩⟩⟩⟩⟩⟩⟩⟩⟩⟩⟩⟩⟩⟩⟩⟩⟩⟩
def ma_mdh_1 : List (Nat × MethodName × ByteArray × Nat × Option FieldType) := [(1, yX0_specials, cX0_specials, 3, (some (FieldType.int))), (1, yX0_topPlace, cX0_topPlace, 1, (some (FieldType.int))), (1, yX0_oldTopOrRegion, cX0_oldTopOrRegion, 1, (some (FieldType.int))), (2, yX2_init, cX2_init, 3, none), (2, yX2_noteFewer, cX2_noteFewer, 5, none), (2, yX2_fallIfUncounted, cX2_fallIfUncounted, 2, none), (2, yX2_dropWord, cX2_dropWord, 3, none), (2, yX2_countOf, cX2_countOf, 2, (some (FieldType.int))), (3, yX3_init, cX3_init, 3, none), (3, yX3_open, cX3_open, 2, none), (3, yX3_total, cX3_total, 1, (some (FieldType.int))), (3, yX3_findRoom, cX3_findRoom, 2, (some (FieldType.int))), (3, yX3_hasRoom, cX3_hasRoom, 2, (some (FieldType.boolean))), (3, yX3_cleanAll, cX3_cleanAll, 4, (some (FieldType.int))), (3, yX3_noteMade, cX3_noteMade, 2, none), (3, yX3_canHold, cX3_canHold, 2, (some (FieldType.boolean))), (3, yX3_topPlace, cX3_topPlace, 1, (some (FieldType.int))), (4, yX4_init, cX4_init, 3, none), (4, yX4_open, cX4_open, 2, none), (4, yX4_total, cX4_total, 1, (some (FieldType.int)))]
theorem ma_mdh_ok1 : ∀ q ∈ ma_mdh_1, ma_mok q := List.forall_mem_cons.mpr ⟨ma_mk20, List.forall_mem_cons.mpr ⟨ma_mk21, List.forall_mem_cons.mpr ⟨ma_mk22, List.forall_mem_cons.mpr ⟨ma_mk23, List.forall_mem_cons.mpr ⟨ma_mk24, List.forall_mem_cons.mpr ⟨ma_mk25, List.forall_mem_cons.mpr ⟨ma_mk26, List.forall_mem_cons.mpr ⟨ma_mk27, List.forall_mem_cons.mpr ⟨ma_mk28, List.forall_mem_cons.mpr ⟨ma_mk29, List.forall_mem_cons.mpr ⟨ma_mk30, List.forall_mem_cons.mpr ⟨ma_mk31, List.forall_mem_cons.mpr ⟨ma_mk32, List.forall_mem_cons.mpr ⟨ma_mk33, List.forall_mem_cons.mpr ⟨ma_mk34, List.forall_mem_cons.mpr ⟨ma_mk35, List.forall_mem_cons.mpr ⟨ma_mk36, List.forall_mem_cons.mpr ⟨ma_mk37, List.forall_mem_cons.mpr ⟨ma_mk38, List.forall_mem_cons.mpr ⟨ma_mk39, List.forall_mem_nil _⟩⟩⟩⟩⟩⟩⟩⟩⟩⟩⟩⟩⟩⟩⟩⟩⟩⟩⟩⟩
def ma_mdh_2 : List (Nat × MethodName × ByteArray × Nat × Option FieldType) := [(4, yX4_findRoom, cX4_findRoom, 2, (some (FieldType.int))), (4, yX4_fits, cX4_fits, 3, (some (FieldType.boolean))), (4, yX4_specials, cX4_specials, 3, (some (FieldType.int))), (4, yX4_cleanAll, cX4_cleanAll, 4, (some (FieldType.int))), (4, yX4_sumKept, cX4_sumKept, 3, none), (4, yX4_regionOf, cX4_regionOf, 2, (some (FieldType.int))), (4, yX4_emptyWhereNothingIsLeft, cX4_emptyWhereNothingIsLeft, 2, none), (4, yX4_chooseLeaving, cX4_chooseLeaving, 3, none), (4, yX4_fewestLeaving, cX4_fewestLeaving, 3, (some (FieldType.int))), (4, yX4_moveAll, cX4_moveAll, 5, (some (FieldType.boolean))), (4, yX4_topOf, cX4_topOf, 2, (some (FieldType.int))), (4, yX4_moveOut, cX4_moveOut, 3, (some (FieldType.boolean))), (4, yX4_leastEmpty, cX4_leastEmpty, 2, (some (FieldType.int))), (4, yX4_raiseTop, cX4_raiseTop, 3, none), (4, yX4_orElse, cX4_orElse, 2, (some (FieldType.int))), (4, yX4_topPlace, cX4_topPlace, 1, (some (FieldType.int))), (4, yX4_noteMade, cX4_noteMade, 2, none), (4, yX4_oldTopOrRegion, cX4_oldTopOrRegion, 1, (some (FieldType.int))), (5, yX5_init, cX5_init, 3, none), (5, yX5_open, cX5_open, 2, none)]
theorem ma_mdh_ok2 : ∀ q ∈ ma_mdh_2, ma_mok q := List.forall_mem_cons.mpr ⟨ma_mk40, List.forall_mem_cons.mpr ⟨ma_mk41, List.forall_mem_cons.mpr ⟨ma_mk42, List.forall_mem_cons.mpr ⟨ma_mk43, List.forall_mem_cons.mpr ⟨ma_mk44, List.forall_mem_cons.mpr ⟨ma_mk45, List.forall_mem_cons.mpr ⟨ma_mk46, List.forall_mem_cons.mpr ⟨ma_mk47, List.forall_mem_cons.mpr ⟨ma_mk48, List.forall_mem_cons.mpr ⟨ma_mk49, List.forall_mem_cons.mpr ⟨ma_mk50, List.forall_mem_cons.mpr ⟨ma_mk51, List.forall_mem_cons.mpr ⟨ma_mk52, List.forall_mem_cons.mpr ⟨ma_mk53, List.forall_mem_cons.mpr ⟨ma_mk54, List.forall_mem_cons.mpr ⟨ma_mk55, List.forall_mem_cons.mpr ⟨ma_mk56, List.forall_mem_cons.mpr ⟨ma_mk57, List.forall_mem_cons.mpr ⟨ma_mk58, List.forall_mem_cons.mpr ⟨ma_mk59, List.forall_mem_nil _⟩⟩⟩⟩⟩⟩⟩⟩⟩⟩⟩⟩⟩⟩⟩⟩⟩⟩⟩⟩
def ma_mdh_3 : List (Nat × MethodName × ByteArray × Nat × Option FieldType) := [(5, yX5_total, cX5_total, 1, (some (FieldType.int))), (5, yX5_findRoom, cX5_findRoom, 2, (some (FieldType.int))), (5, yX5_cleanAll, cX5_cleanAll, 2, (some (FieldType.int))), (5, yX5_noteMade, cX5_noteMade, 2, none), (5, yX5_topPlace, cX5_topPlace, 1, (some (FieldType.int))), (6, yX6_init, cX6_init, 3, none), (6, yX6_open, cX6_open, 2, none), (6, yX6_cleanAll, cX6_cleanAll, 2, (some (FieldType.int))), (6, yX6_begin, cX6_begin, 1, none), (6, yX6_newsCame, cX6_newsCame, 1, (some (FieldType.boolean))), (6, yX6_finish, cX6_finish, 1, (some (FieldType.int))), (6, yX6_findRoom, cX6_findRoom, 4, (some (FieldType.int))), (6, yX6_goOn, cX6_goOn, 3, (some (FieldType.int))), (6, yX6_noteMade, cX6_noteMade, 2, none), (6, yX6_noteChange, cX6_noteChange, 3, none), (6, yX6_noteStrong, cX6_noteStrong, 2, none), (6, yX6_colourOf, cX6_colourOf, 2, (some (FieldType.int))), (6, yX6_specials, cX6_specials, 1, (some (FieldType.int))), (6, yX6_isMarking, cX6_isMarking, 1, (some (FieldType.boolean))), (7, yX7_init, cX7_init, 1, none)]
theorem ma_mdh_ok3 : ∀ q ∈ ma_mdh_3, ma_mok q := List.forall_mem_cons.mpr ⟨ma_mk60, List.forall_mem_cons.mpr ⟨ma_mk61, List.forall_mem_cons.mpr ⟨ma_mk62, List.forall_mem_cons.mpr ⟨ma_mk63, List.forall_mem_cons.mpr ⟨ma_mk64, List.forall_mem_cons.mpr ⟨ma_mk65, List.forall_mem_cons.mpr ⟨ma_mk66, List.forall_mem_cons.mpr ⟨ma_mk67, List.forall_mem_cons.mpr ⟨ma_mk68, List.forall_mem_cons.mpr ⟨ma_mk69, List.forall_mem_cons.mpr ⟨ma_mk70, List.forall_mem_cons.mpr ⟨ma_mk71, List.forall_mem_cons.mpr ⟨ma_mk72, List.forall_mem_cons.mpr ⟨ma_mk73, List.forall_mem_cons.mpr ⟨ma_mk74, List.forall_mem_cons.mpr ⟨ma_mk75, List.forall_mem_cons.mpr ⟨ma_mk76, List.forall_mem_cons.mpr ⟨ma_mk77, List.forall_mem_cons.mpr ⟨ma_mk78, List.forall_mem_cons.mpr ⟨ma_mk79, List.forall_mem_nil _⟩⟩⟩⟩⟩⟩⟩⟩⟩⟩⟩⟩⟩⟩⟩⟩⟩⟩⟩⟩
def ma_mdh_4 : List (Nat × MethodName × ByteArray × Nat × Option FieldType) := [(7, yX7_forgetAll, cX7_forgetAll, 2, none), (7, yX7_thingAt, cX7_thingAt, 2, (some (FieldType.object "CollectorHouse$Thing"))), (7, yX7_referenceOf, cX7_referenceOf, 6, (some (FieldType.object "CollectorHouse$Thing"))), (7, yX7_grantWishes, cX7_grantWishes, 4, none), (7, yX7_grant, cX7_grant, 2, none), (7, yX7_clearWeak, cX7_clearWeak, 3, none), (7, yX7_removeOthers, cX7_removeOthers, 5, (some (FieldType.int))), (7, yX7_remove, cX7_remove, 4, none), (7, yX7_freeWords, cX7_freeWords, 4, none), (7, yX7_thingFrom, cX7_thingFrom, 3, (some (FieldType.object "CollectorHouse$Thing"))), (7, yX7_move, cX7_move, 5, none), (7, yX7_add, cX7_add, 4, none), (7, yX7_changeRoot, cX7_changeRoot, 4, (some (FieldType.object "CollectorHouse$Thing"))), (7, yX7_changeCounts, cX7_changeCounts, 2, none), (7, yX7_changeReference, cX7_changeReference, 5, (some (FieldType.object "CollectorHouse$Thing"))), (7, yX7_changeInt, cX7_changeInt, 6, (some (FieldType.int))), (7, yX7_wordOf, cX7_wordOf, 4, (some (FieldType.int))), (7, yX7_changeHolds, cX7_changeHolds, 3, none), (7, yX7_takeWish, cX7_takeWish, 3, (some (FieldType.object "CollectorHouse$Thing"))), (8, yX8_init, cX8_init, 3, none)]
theorem ma_mdh_ok4 : ∀ q ∈ ma_mdh_4, ma_mok q := List.forall_mem_cons.mpr ⟨ma_mk80, List.forall_mem_cons.mpr ⟨ma_mk81, List.forall_mem_cons.mpr ⟨ma_mk82, List.forall_mem_cons.mpr ⟨ma_mk83, List.forall_mem_cons.mpr ⟨ma_mk84, List.forall_mem_cons.mpr ⟨ma_mk85, List.forall_mem_cons.mpr ⟨ma_mk86, List.forall_mem_cons.mpr ⟨ma_mk87, List.forall_mem_cons.mpr ⟨ma_mk88, List.forall_mem_cons.mpr ⟨ma_mk89, List.forall_mem_cons.mpr ⟨ma_mk90, List.forall_mem_cons.mpr ⟨ma_mk91, List.forall_mem_cons.mpr ⟨ma_mk92, List.forall_mem_cons.mpr ⟨ma_mk93, List.forall_mem_cons.mpr ⟨ma_mk94, List.forall_mem_cons.mpr ⟨ma_mk95, List.forall_mem_cons.mpr ⟨ma_mk96, List.forall_mem_cons.mpr ⟨ma_mk97, List.forall_mem_cons.mpr ⟨ma_mk98, List.forall_mem_cons.mpr ⟨ma_mk99, List.forall_mem_nil _⟩⟩⟩⟩⟩⟩⟩⟩⟩⟩⟩⟩⟩⟩⟩⟩⟩⟩⟩⟩
def ma_mdh_5 : List (Nat × MethodName × ByteArray × Nat × Option FieldType) := [(8, yX8_open, cX8_open, 2, none), (8, yX8_total, cX8_total, 1, (some (FieldType.int))), (8, yX8_findRoom, cX8_findRoom, 3, (some (FieldType.int))), (8, yX8_fit, cX8_fit, 2, (some (FieldType.int))), (8, yX8_fitFirst, cX8_fitFirst, 7, (some (FieldType.int))), (8, yX8_freeFrom, cX8_freeFrom, 4, (some (FieldType.int))), (8, yX8_freeEnd, cX8_freeEnd, 3, (some (FieldType.int))), (8, yX8_fitNext, cX8_fitNext, 3, (some (FieldType.int))), (8, yX8_fitByLength, cX8_fitByLength, 9, (some (FieldType.int))), (8, yX8_cleanAll, cX8_cleanAll, 1, (some (FieldType.int))), (8, yX8_noteMade, cX8_noteMade, 2, none), (8, yX8_blockPlace, cX8_blockPlace, 4, (some (FieldType.int))), (9, yX9_init, cX9_init, 7, none), (9, yX9_isReference, cX9_isReference, 2, (some (FieldType.boolean))), (9, yX9_hasWord, cX9_hasWord, 2, (some (FieldType.boolean))), (10, yX10_init, cX10_init, 2, none), (10, yX10_reachAll, cX10_reachAll, 1, none), (10, yX10_restart, cX10_restart, 2, none), (10, yX10_comeFromRoots, cX10_comeFromRoots, 3, none), (10, yX10_comes, cX10_comes, 2, none)]
theorem ma_mdh_ok5 : ∀ q ∈ ma_mdh_5, ma_mok q := List.forall_mem_cons.mpr ⟨ma_mk100, List.forall_mem_cons.mpr ⟨ma_mk101, List.forall_mem_cons.mpr ⟨ma_mk102, List.forall_mem_cons.mpr ⟨ma_mk103, List.forall_mem_cons.mpr ⟨ma_mk104, List.forall_mem_cons.mpr ⟨ma_mk105, List.forall_mem_cons.mpr ⟨ma_mk106, List.forall_mem_cons.mpr ⟨ma_mk107, List.forall_mem_cons.mpr ⟨ma_mk108, List.forall_mem_cons.mpr ⟨ma_mk109, List.forall_mem_cons.mpr ⟨ma_mk110, List.forall_mem_cons.mpr ⟨ma_mk111, List.forall_mem_cons.mpr ⟨ma_mk112, List.forall_mem_cons.mpr ⟨ma_mk113, List.forall_mem_cons.mpr ⟨ma_mk114, List.forall_mem_cons.mpr ⟨ma_mk115, List.forall_mem_cons.mpr ⟨ma_mk116, List.forall_mem_cons.mpr ⟨ma_mk117, List.forall_mem_cons.mpr ⟨ma_mk118, List.forall_mem_cons.mpr ⟨ma_mk119, List.forall_mem_nil _⟩⟩⟩⟩⟩⟩⟩⟩⟩⟩⟩⟩⟩⟩⟩⟩⟩⟩⟩⟩
def ma_mdh_6 : List (Nat × MethodName × ByteArray × Nat × Option FieldType) := [(10, yX10_spread, cX10_spread, 5, (some (FieldType.int))), (10, yX10_blacken, cX10_blacken, 2, none), (10, yX10_keeps, cX10_keeps, 2, (some (FieldType.boolean))), (10, yX10_colourOf, cX10_colourOf, 2, (some (FieldType.int))), (10, yX10_thingInQueue, cX10_thingInQueue, 2, (some (FieldType.object "CollectorHouse$Thing"))), (10, yX10_isEmpty, cX10_isEmpty, 1, (some (FieldType.boolean))), (11, yX11_init, cX11_init, 1, none), (11, yX11_heap, cX11_heap, 2, (some (FieldType.int))), (11, yX11_readPolicy, cX11_readPolicy, 4, (some (FieldType.int))), (11, yX11_nextToken, cX11_nextToken, 2, (some (FieldType.boolean))), (11, yX11_policyToken, cX11_policyToken, 1, (some (FieldType.int))), (11, yX11_tokenIs, cX11_tokenIs, 3, (some (FieldType.boolean))), (11, yX11_partsOf, cX11_partsOf, 1, (some (FieldType.object "java/lang/String"))), (11, yX11_partToken, cX11_partToken, 2, (some (FieldType.int))), (11, yX11_numberToken, cX11_numberToken, 6, (some (FieldType.int))), (11, yX11_formToken, cX11_formToken, 1, (some (FieldType.int))), (11, yX11_barrierToken, cX11_barrierToken, 1, (some (FieldType.int))), (11, yX11_feed, cX11_feed, 6, (some (FieldType.int))), (11, yX11_addBytes, cX11_addBytes, 3, none), (11, yX11_end, cX11_end, 2, (some (FieldType.int)))]
theorem ma_mdh_ok6 : ∀ q ∈ ma_mdh_6, ma_mok q := List.forall_mem_cons.mpr ⟨ma_mk120, List.forall_mem_cons.mpr ⟨ma_mk121, List.forall_mem_cons.mpr ⟨ma_mk122, List.forall_mem_cons.mpr ⟨ma_mk123, List.forall_mem_cons.mpr ⟨ma_mk124, List.forall_mem_cons.mpr ⟨ma_mk125, List.forall_mem_cons.mpr ⟨ma_mk126, List.forall_mem_cons.mpr ⟨ma_mk127, List.forall_mem_cons.mpr ⟨ma_mk128, List.forall_mem_cons.mpr ⟨ma_mk129, List.forall_mem_cons.mpr ⟨ma_mk130, List.forall_mem_cons.mpr ⟨ma_mk131, List.forall_mem_cons.mpr ⟨ma_mk132, List.forall_mem_cons.mpr ⟨ma_mk133, List.forall_mem_cons.mpr ⟨ma_mk134, List.forall_mem_cons.mpr ⟨ma_mk135, List.forall_mem_cons.mpr ⟨ma_mk136, List.forall_mem_cons.mpr ⟨ma_mk137, List.forall_mem_cons.mpr ⟨ma_mk138, List.forall_mem_cons.mpr ⟨ma_mk139, List.forall_mem_nil _⟩⟩⟩⟩⟩⟩⟩⟩⟩⟩⟩⟩⟩⟩⟩⟩⟩⟩⟩⟩
def ma_mdh_7 : List (Nat × MethodName × ByteArray × Nat × Option FieldType) := [(11, yX11_kind, cX11_kind, 3, (some (FieldType.int))), (11, yX11_make, cX11_make, 3, (some (FieldType.int))), (11, yX11_isSlot, cX11_isSlot, 1, (some (FieldType.boolean))), (11, yX11_addObject, cX11_addObject, 9, (some (FieldType.int))), (11, yX11_needCollector, cX11_needCollector, 1, (some (FieldType.object "CollectorHouse$Collector"))), (11, yX11_changeRoot, cX11_changeRoot, 5, (some (FieldType.object "CollectorHouse$Thing"))), (11, yX11_numberOf, cX11_numberOf, 1, (some (FieldType.int))), (11, yX11_row, cX11_row, 4, (some (FieldType.int))), (11, yX11_put, cX11_put, 5, (some (FieldType.int))), (11, yX11_needReached, cX11_needReached, 3, (some (FieldType.object "CollectorHouse$Thing"))), (11, yX11_link, cX11_link, 8, (some (FieldType.int))), (11, yX11_needReachedOrNothing, cX11_needReachedOrNothing, 2, (some (FieldType.object "CollectorHouse$Thing"))), (11, yX11_get, cX11_get, 4, (some (FieldType.int))), (11, yX11_root, cX11_root, 5, (some (FieldType.int))), (11, yX11_weak, cX11_weak, 5, (some (FieldType.int))), (11, yX11_strong, cX11_strong, 5, (some (FieldType.int))), (11, yX11_hold, cX11_hold, 5, (some (FieldType.int))), (11, yX11_wish, cX11_wish, 4, (some (FieldType.int))), (11, yX11_granted, cX11_granted, 4, (some (FieldType.int))), (11, yX11_clean, cX11_clean, 1, (some (FieldType.int)))]
theorem ma_mdh_ok7 : ∀ q ∈ ma_mdh_7, ma_mok q := List.forall_mem_cons.mpr ⟨ma_mk140, List.forall_mem_cons.mpr ⟨ma_mk141, List.forall_mem_cons.mpr ⟨ma_mk142, List.forall_mem_cons.mpr ⟨ma_mk143, List.forall_mem_cons.mpr ⟨ma_mk144, List.forall_mem_cons.mpr ⟨ma_mk145, List.forall_mem_cons.mpr ⟨ma_mk146, List.forall_mem_cons.mpr ⟨ma_mk147, List.forall_mem_cons.mpr ⟨ma_mk148, List.forall_mem_cons.mpr ⟨ma_mk149, List.forall_mem_cons.mpr ⟨ma_mk150, List.forall_mem_cons.mpr ⟨ma_mk151, List.forall_mem_cons.mpr ⟨ma_mk152, List.forall_mem_cons.mpr ⟨ma_mk153, List.forall_mem_cons.mpr ⟨ma_mk154, List.forall_mem_cons.mpr ⟨ma_mk155, List.forall_mem_cons.mpr ⟨ma_mk156, List.forall_mem_cons.mpr ⟨ma_mk157, List.forall_mem_cons.mpr ⟨ma_mk158, List.forall_mem_cons.mpr ⟨ma_mk159, List.forall_mem_nil _⟩⟩⟩⟩⟩⟩⟩⟩⟩⟩⟩⟩⟩⟩⟩⟩⟩⟩⟩⟩
def ma_mdh_8 : List (Nat × MethodName × ByteArray × Nat × Option FieldType) := [(11, yX11_step, cX11_step, 4, (some (FieldType.int))), (11, yX11_about, cX11_about, 5, (some (FieldType.int))), (11, yX11_block, cX11_block, 5, (some (FieldType.int))), (11, yX11_count, cX11_count, 3, (some (FieldType.int))), (12, yX12_thrown, cX12_thrown, 1, (some (FieldType.int))), (12, yX12_init, cX12_init, 1, none), (12, yX12_feed, cX12_feed, 6, (some (FieldType.int))), (12, yX12_fails, cX12_fails, 2, (some (FieldType.boolean))), (12, yX12_four, cX12_four, 3, none), (12, yX12_end, cX12_end, 2, (some (FieldType.int))), (12, yX12_kind, cX12_kind, 4, (some (FieldType.int))), (12, yX12_heap, cX12_heap, 2, (some (FieldType.int))), (12, yX12_readPolicy, cX12_readPolicy, 1, (some (FieldType.boolean))), (12, yX12_token, cX12_token, 1, (some (FieldType.boolean))), (12, yX12_wrong, cX12_wrong, 2, (some (FieldType.boolean))), (12, yX12_is, cX12_is, 9, (some (FieldType.boolean))), (12, yX12_byteIs, cX12_byteIs, 3, (some (FieldType.boolean))), (12, yX12_number, cX12_number, 7, (some (FieldType.boolean))), (12, yX12_roomHere, cX12_roomHere, 1, (some (FieldType.boolean))), (12, yX12_form, cX12_form, 1, (some (FieldType.boolean)))]
theorem ma_mdh_ok8 : ∀ q ∈ ma_mdh_8, ma_mok q := List.forall_mem_cons.mpr ⟨ma_mk160, List.forall_mem_cons.mpr ⟨ma_mk161, List.forall_mem_cons.mpr ⟨ma_mk162, List.forall_mem_cons.mpr ⟨ma_mk163, List.forall_mem_cons.mpr ⟨ma_mk164, List.forall_mem_cons.mpr ⟨ma_mk165, List.forall_mem_cons.mpr ⟨ma_mk166, List.forall_mem_cons.mpr ⟨ma_mk167, List.forall_mem_cons.mpr ⟨ma_mk168, List.forall_mem_cons.mpr ⟨ma_mk169, List.forall_mem_cons.mpr ⟨ma_mk170, List.forall_mem_cons.mpr ⟨ma_mk171, List.forall_mem_cons.mpr ⟨ma_mk172, List.forall_mem_cons.mpr ⟨ma_mk173, List.forall_mem_cons.mpr ⟨ma_mk174, List.forall_mem_cons.mpr ⟨ma_mk175, List.forall_mem_cons.mpr ⟨ma_mk176, List.forall_mem_cons.mpr ⟨ma_mk177, List.forall_mem_cons.mpr ⟨ma_mk178, List.forall_mem_cons.mpr ⟨ma_mk179, List.forall_mem_nil _⟩⟩⟩⟩⟩⟩⟩⟩⟩⟩⟩⟩⟩⟩⟩⟩⟩⟩⟩⟩
def ma_mdh_9 : List (Nat × MethodName × ByteArray × Nat × Option FieldType) := [(12, yX12_empty, cX12_empty, 2, none), (12, yX12_make, cX12_make, 3, (some (FieldType.int))), (12, yX12_isNamed, cX12_isNamed, 2, (some (FieldType.boolean))), (12, yX12_fresh, cX12_fresh, 7, (some (FieldType.int))), (12, yX12_findRoom, cX12_findRoom, 4, (some (FieldType.int))), (12, yX12_findInHalf, cX12_findInHalf, 4, (some (FieldType.int))), (12, yX12_cleanSlide, cX12_cleanSlide, 2, (some (FieldType.int))), (12, yX12_sweep, cX12_sweep, 1, (some (FieldType.int))), (12, yX12_keepReached, cX12_keepReached, 2, none), (12, yX12_keepNone, cX12_keepNone, 2, none), (12, yX12_keep, cX12_keep, 2, none), (12, yX12_keepAll, cX12_keepAll, 3, none), (12, yX12_reference, cX12_reference, 3, (some (FieldType.int))), (12, yX12_isReference, cX12_isReference, 3, (some (FieldType.boolean))), (12, yX12_grantAll, cX12_grantAll, 3, none), (12, yX12_wisher, cX12_wisher, 5, (some (FieldType.int))), (12, yX12_isOld, cX12_isOld, 2, (some (FieldType.boolean))), (12, yX12_toWishes, cX12_toWishes, 2, none), (12, yX12_unweak, cX12_unweak, 3, none), (12, yX12_unweakRest, cX12_unweakRest, 2, none)]
theorem ma_mdh_ok9 : ∀ q ∈ ma_mdh_9, ma_mok q := List.forall_mem_cons.mpr ⟨ma_mk180, List.forall_mem_cons.mpr ⟨ma_mk181, List.forall_mem_cons.mpr ⟨ma_mk182, List.forall_mem_cons.mpr ⟨ma_mk183, List.forall_mem_cons.mpr ⟨ma_mk184, List.forall_mem_cons.mpr ⟨ma_mk185, List.forall_mem_cons.mpr ⟨ma_mk186, List.forall_mem_cons.mpr ⟨ma_mk187, List.forall_mem_cons.mpr ⟨ma_mk188, List.forall_mem_cons.mpr ⟨ma_mk189, List.forall_mem_cons.mpr ⟨ma_mk190, List.forall_mem_cons.mpr ⟨ma_mk191, List.forall_mem_cons.mpr ⟨ma_mk192, List.forall_mem_cons.mpr ⟨ma_mk193, List.forall_mem_cons.mpr ⟨ma_mk194, List.forall_mem_cons.mpr ⟨ma_mk195, List.forall_mem_cons.mpr ⟨ma_mk196, List.forall_mem_cons.mpr ⟨ma_mk197, List.forall_mem_cons.mpr ⟨ma_mk198, List.forall_mem_cons.mpr ⟨ma_mk199, List.forall_mem_nil _⟩⟩⟩⟩⟩⟩⟩⟩⟩⟩⟩⟩⟩⟩⟩⟩⟩⟩⟩⟩
def ma_mdh_10 : List (Nat × MethodName × ByteArray × Nat × Option FieldType) := [(12, yX12_removeRest, cX12_removeRest, 4, (some (FieldType.int))), (12, yX12_sizeOf, cX12_sizeOf, 2, (some (FieldType.int))), (12, yX12_uncountKept, cX12_uncountKept, 2, none), (12, yX12_remove, cX12_remove, 2, none), (12, yX12_slide, cX12_slide, 6, (some (FieldType.int))), (12, yX12_move, cX12_move, 3, none), (12, yX12_cleanHalves, cX12_cleanHalves, 2, (some (FieldType.int))), (12, yX12_come, cX12_come, 2, none), (12, yX12_comeAll, cX12_comeAll, 3, none), (12, yX12_comeWishers, cX12_comeWishers, 4, none), (12, yX12_findInYoung, cX12_findInYoung, 4, (some (FieldType.int))), (12, yX12_major, cX12_major, 2, (some (FieldType.int))), (12, yX12_findDirty, cX12_findDirty, 4, none), (12, yX12_cardOf, cX12_cardOf, 3, (some (FieldType.int))), (12, yX12_minor, cX12_minor, 4, (some (FieldType.int))), (12, yX12_isOldFull, cX12_isOldFull, 3, (some (FieldType.boolean))), (12, yX12_comeDirty, cX12_comeDirty, 5, none), (12, yX12_findInSteps, cX12_findInSteps, 5, (some (FieldType.int))), (12, yX12_freeWords, cX12_freeWords, 1, (some (FieldType.int))), (12, yX12_beginMarking, cX12_beginMarking, 2, none)]
theorem ma_mdh_ok10 : ∀ q ∈ ma_mdh_10, ma_mok q := List.forall_mem_cons.mpr ⟨ma_mk200, List.forall_mem_cons.mpr ⟨ma_mk201, List.forall_mem_cons.mpr ⟨ma_mk202, List.forall_mem_cons.mpr ⟨ma_mk203, List.forall_mem_cons.mpr ⟨ma_mk204, List.forall_mem_cons.mpr ⟨ma_mk205, List.forall_mem_cons.mpr ⟨ma_mk206, List.forall_mem_cons.mpr ⟨ma_mk207, List.forall_mem_cons.mpr ⟨ma_mk208, List.forall_mem_cons.mpr ⟨ma_mk209, List.forall_mem_cons.mpr ⟨ma_mk210, List.forall_mem_cons.mpr ⟨ma_mk211, List.forall_mem_cons.mpr ⟨ma_mk212, List.forall_mem_cons.mpr ⟨ma_mk213, List.forall_mem_cons.mpr ⟨ma_mk214, List.forall_mem_cons.mpr ⟨ma_mk215, List.forall_mem_cons.mpr ⟨ma_mk216, List.forall_mem_cons.mpr ⟨ma_mk217, List.forall_mem_cons.mpr ⟨ma_mk218, List.forall_mem_cons.mpr ⟨ma_mk219, List.forall_mem_nil _⟩⟩⟩⟩⟩⟩⟩⟩⟩⟩⟩⟩⟩⟩⟩⟩⟩⟩⟩⟩
def ma_mdh_11 : List (Nat × MethodName × ByteArray × Nat × Option FieldType) := [(12, yX12_greyRoots, cX12_greyRoots, 4, none), (12, yX12_toGrey, cX12_toGrey, 2, none), (12, yX12_steps, cX12_steps, 5, (some (FieldType.int))), (12, yX12_lookEmpty, cX12_lookEmpty, 2, (some (FieldType.int))), (12, yX12_find, cX12_find, 5, (some (FieldType.int))), (12, yX12_firstFit, cX12_firstFit, 5, (some (FieldType.int))), (12, yX12_blockFrom, cX12_blockFrom, 5, (some (FieldType.int))), (12, yX12_startOf, cX12_startOf, 3, (some (FieldType.int))), (12, yX12_firstFitAhead, cX12_firstFitAhead, 4, (some (FieldType.int))), (12, yX12_whole, cX12_whole, 1, (some (FieldType.int))), (12, yX12_finish, cX12_finish, 3, (some (FieldType.int))), (12, yX12_findInRegions, cX12_findInRegions, 4, (some (FieldType.int))), (12, yX12_findInRegion, cX12_findInRegion, 3, (some (FieldType.int))), (12, yX12_emptyRegions, cX12_emptyRegions, 3, (some (FieldType.int))), (12, yX12_leastEmpty, cX12_leastEmpty, 2, (some (FieldType.int))), (12, yX12_cleanRegions, cX12_cleanRegions, 10, (some (FieldType.int))), (12, yX12_sparse, cX12_sparse, 3, (some (FieldType.int))), (12, yX12_findByForm, cX12_findByForm, 4, (some (FieldType.int))), (12, yX12_setRoot, cX12_setRoot, 4, none), (12, yX12_more, cX12_more, 2, none)]
theorem ma_mdh_ok11 : ∀ q ∈ ma_mdh_11, ma_mok q := List.forall_mem_cons.mpr ⟨ma_mk220, List.forall_mem_cons.mpr ⟨ma_mk221, List.forall_mem_cons.mpr ⟨ma_mk222, List.forall_mem_cons.mpr ⟨ma_mk223, List.forall_mem_cons.mpr ⟨ma_mk224, List.forall_mem_cons.mpr ⟨ma_mk225, List.forall_mem_cons.mpr ⟨ma_mk226, List.forall_mem_cons.mpr ⟨ma_mk227, List.forall_mem_cons.mpr ⟨ma_mk228, List.forall_mem_cons.mpr ⟨ma_mk229, List.forall_mem_cons.mpr ⟨ma_mk230, List.forall_mem_cons.mpr ⟨ma_mk231, List.forall_mem_cons.mpr ⟨ma_mk232, List.forall_mem_cons.mpr ⟨ma_mk233, List.forall_mem_cons.mpr ⟨ma_mk234, List.forall_mem_cons.mpr ⟨ma_mk235, List.forall_mem_cons.mpr ⟨ma_mk236, List.forall_mem_cons.mpr ⟨ma_mk237, List.forall_mem_cons.mpr ⟨ma_mk238, List.forall_mem_cons.mpr ⟨ma_mk239, List.forall_mem_nil _⟩⟩⟩⟩⟩⟩⟩⟩⟩⟩⟩⟩⟩⟩⟩⟩⟩⟩⟩⟩
def ma_mdh_12 : List (Nat × MethodName × ByteArray × Nat × Option FieldType) := [(12, yX12_changes, cX12_changes, 3, none), (12, yX12_less, cX12_less, 5, none), (12, yX12_fall, cX12_fall, 2, none), (12, yX12_row, cX12_row, 4, (some (FieldType.int))), (12, yX12_put, cX12_put, 6, (some (FieldType.int))), (12, yX12_reached, cX12_reached, 3, (some (FieldType.int))), (12, yX12_placeOf, cX12_placeOf, 3, (some (FieldType.int))), (12, yX12_link, cX12_link, 9, (some (FieldType.int))), (12, yX12_numberOf, cX12_numberOf, 2, (some (FieldType.int))), (12, yX12_get, cX12_get, 4, (some (FieldType.int))), (12, yX12_root, cX12_root, 5, (some (FieldType.int))), (12, yX12_weak, cX12_weak, 5, (some (FieldType.int))), (12, yX12_strong, cX12_strong, 4, (some (FieldType.int))), (12, yX12_hold, cX12_hold, 5, (some (FieldType.int))), (12, yX12_wish, cX12_wish, 4, (some (FieldType.int))), (12, yX12_granted, cX12_granted, 4, (some (FieldType.int))), (12, yX12_clean, cX12_clean, 2, (some (FieldType.int))), (12, yX12_step, cX12_step, 4, (some (FieldType.int))), (12, yX12_about, cX12_about, 4, (some (FieldType.int))), (12, yX12_block, cX12_block, 6, (some (FieldType.int)))]
theorem ma_mdh_ok12 : ∀ q ∈ ma_mdh_12, ma_mok q := List.forall_mem_cons.mpr ⟨ma_mk240, List.forall_mem_cons.mpr ⟨ma_mk241, List.forall_mem_cons.mpr ⟨ma_mk242, List.forall_mem_cons.mpr ⟨ma_mk243, List.forall_mem_cons.mpr ⟨ma_mk244, List.forall_mem_cons.mpr ⟨ma_mk245, List.forall_mem_cons.mpr ⟨ma_mk246, List.forall_mem_cons.mpr ⟨ma_mk247, List.forall_mem_cons.mpr ⟨ma_mk248, List.forall_mem_cons.mpr ⟨ma_mk249, List.forall_mem_cons.mpr ⟨ma_mk250, List.forall_mem_cons.mpr ⟨ma_mk251, List.forall_mem_cons.mpr ⟨ma_mk252, List.forall_mem_cons.mpr ⟨ma_mk253, List.forall_mem_cons.mpr ⟨ma_mk254, List.forall_mem_cons.mpr ⟨ma_mk255, List.forall_mem_cons.mpr ⟨ma_mk256, List.forall_mem_cons.mpr ⟨ma_mk257, List.forall_mem_cons.mpr ⟨ma_mk258, List.forall_mem_cons.mpr ⟨ma_mk259, List.forall_mem_nil _⟩⟩⟩⟩⟩⟩⟩⟩⟩⟩⟩⟩⟩⟩⟩⟩⟩⟩⟩⟩
def ma_mdh_13 : List (Nat × MethodName × ByteArray × Nat × Option FieldType) := [(12, yX12_count, cX12_count, 2, (some (FieldType.int))), (12, yX12_dirtyCards, cX12_dirtyCards, 3, (some (FieldType.int))), (13, yX1_init, cX1_init, 3, none), (13, yX1_slideDown, cX1_slideDown, 5, (some (FieldType.int))), (13, yX1_removeUnreached, cX1_removeUnreached, 1, (some (FieldType.int))), (13, yX1_noteChange, cX1_noteChange, 3, none), (13, yX1_noteFewer, cX1_noteFewer, 2, none), (13, yX1_noteReference, cX1_noteReference, 4, none), (13, yX1_noteStrong, cX1_noteStrong, 2, none), (13, yX1_canHold, cX1_canHold, 2, (some (FieldType.boolean))), (13, yX1_countOf, cX1_countOf, 2, (some (FieldType.int))), (13, yX1_colourOf, cX1_colourOf, 2, (some (FieldType.int))), (13, yX1_specials, cX1_specials, 1, (some (FieldType.int))), (13, yX1_topPlace, cX1_topPlace, 1, (some (FieldType.int))), (13, yX1_isMarking, cX1_isMarking, 1, (some (FieldType.boolean))), (13, yX1_oldTopOrRegion, cX1_oldTopOrRegion, 1, (some (FieldType.int))), (15, yJ7_fill_53178, cJ7_fill_53178, 4, none), (17, yJ0_length_8abf5, cJ0_length_8abf5, 1, (some (FieldType.int))), (17, yJ0_coder_7d493, cJ0_coder_7d493, 1, (some (FieldType.byte))), (17, yJ0_charAt_5068e, cJ0_charAt_5068e, 2, (some (FieldType.char)))]
theorem ma_mdh_ok13 : ∀ q ∈ ma_mdh_13, ma_mok q := List.forall_mem_cons.mpr ⟨ma_mk260, List.forall_mem_cons.mpr ⟨ma_mk261, List.forall_mem_cons.mpr ⟨ma_mk262, List.forall_mem_cons.mpr ⟨ma_mk263, List.forall_mem_cons.mpr ⟨ma_mk264, List.forall_mem_cons.mpr ⟨ma_mk265, List.forall_mem_cons.mpr ⟨ma_mk266, List.forall_mem_cons.mpr ⟨ma_mk267, List.forall_mem_cons.mpr ⟨ma_mk268, List.forall_mem_cons.mpr ⟨ma_mk269, List.forall_mem_cons.mpr ⟨ma_mk270, List.forall_mem_cons.mpr ⟨ma_mk271, List.forall_mem_cons.mpr ⟨ma_mk272, List.forall_mem_cons.mpr ⟨ma_mk273, List.forall_mem_cons.mpr ⟨ma_mk274, List.forall_mem_cons.mpr ⟨ma_mk275, List.forall_mem_cons.mpr ⟨ma_mk276, List.forall_mem_cons.mpr ⟨ma_mk277, List.forall_mem_cons.mpr ⟨ma_mk278, List.forall_mem_cons.mpr ⟨ma_mk279, List.forall_mem_nil _⟩⟩⟩⟩⟩⟩⟩⟩⟩⟩⟩⟩⟩⟩⟩⟩⟩⟩⟩⟩
def ma_mdh_14 : List (Nat × MethodName × ByteArray × Nat × Option FieldType) := [(17, yJ0_isLatin1_aae02, cJ0_isLatin1_aae02, 1, (some (FieldType.boolean))), (17, yJ0_checkIndex_df160, cJ0_checkIndex_df160, 2, none), (18, yJ1_charAt_3b067, cJ1_charAt_3b067, 2, (some (FieldType.char))), (19, yJ3_checkIndex_8e157, cJ3_checkIndex_8e157, 3, (some (FieldType.int)))]
theorem ma_mdh_ok14 : ∀ q ∈ ma_mdh_14, ma_mok q := List.forall_mem_cons.mpr ⟨ma_mk280, List.forall_mem_cons.mpr ⟨ma_mk281, List.forall_mem_cons.mpr ⟨ma_mk282, List.forall_mem_cons.mpr ⟨ma_mk283, List.forall_mem_nil _⟩⟩⟩⟩
def ma_mdh : List (Nat × MethodName × ByteArray × Nat × Option FieldType) := ma_mdh_0 ++ (ma_mdh_1 ++ (ma_mdh_2 ++ (ma_mdh_3 ++ (ma_mdh_4 ++ (ma_mdh_5 ++ (ma_mdh_6 ++ (ma_mdh_7 ++ (ma_mdh_8 ++ (ma_mdh_9 ++ (ma_mdh_10 ++ (ma_mdh_11 ++ (ma_mdh_12 ++ (ma_mdh_13 ++ (ma_mdh_14))))))))))))))
theorem ma_mdh_ok : ∀ q ∈ ma_mdh, ma_mok q := by
  intro q hq
  rcases List.mem_append.mp hq with hq | hq
  · exact ma_mdh_ok0 q hq
  rcases List.mem_append.mp hq with hq | hq
  · exact ma_mdh_ok1 q hq
  rcases List.mem_append.mp hq with hq | hq
  · exact ma_mdh_ok2 q hq
  rcases List.mem_append.mp hq with hq | hq
  · exact ma_mdh_ok3 q hq
  rcases List.mem_append.mp hq with hq | hq
  · exact ma_mdh_ok4 q hq
  rcases List.mem_append.mp hq with hq | hq
  · exact ma_mdh_ok5 q hq
  rcases List.mem_append.mp hq with hq | hq
  · exact ma_mdh_ok6 q hq
  rcases List.mem_append.mp hq with hq | hq
  · exact ma_mdh_ok7 q hq
  rcases List.mem_append.mp hq with hq | hq
  · exact ma_mdh_ok8 q hq
  rcases List.mem_append.mp hq with hq | hq
  · exact ma_mdh_ok9 q hq
  rcases List.mem_append.mp hq with hq | hq
  · exact ma_mdh_ok10 q hq
  rcases List.mem_append.mp hq with hq | hq
  · exact ma_mdh_ok11 q hq
  rcases List.mem_append.mp hq with hq | hq
  · exact ma_mdh_ok12 q hq
  rcases List.mem_append.mp hq with hq | hq
  · exact ma_mdh_ok13 q hq
  exact ma_mdh_ok14 q hq
def ma_md (M : Nat) : Option (Nat × MethodName × ByteArray × Nat × Option FieldType) := ma_mdh[M]?
theorem ma_md_spec {M o nL : Nat} {y : MethodName} {cc : ByteArray} {ret : Option FieldType} (h : ma_md M = some (o, y, cc, nL, ret)) : Cond.code y cc nL ret ∈ ma_TB ∧ Cond.initialized y.cls ∈ ma_TB ∧ y.cls = ma_cn o ∧ plainName y.cls = true ∧ y.cls ≠ "java/lang/invoke/MethodHandle" ∧ y.cls ≠ "java/lang/invoke/VarHandle" := by
  obtain ⟨h1, h2, h3⟩ := ma_mdh_ok _ (List.mem_of_getElem? h)
  have h2 : y.cls = ma_cn o := h2
  obtain ⟨g1, g2, g3, g4⟩ := h3
  rw [h2]
  exact ⟨h1, g1, rfl, g2, g3, g4⟩

/-! from 45.calls -/
def ma_w (j : Nat) (w : Cond) : Bool := decide (ma_ti (j) = some w) && goodWord w
theorem ma_w_in {j : Nat} {w : Cond} (h : ma_w j w = true) : w ∈ ma_TB := by
  simp only [ma_w, Bool.and_eq_true] at h
  exact ma_TB_in h.1 h.2
/-- what a call's row says: kinds 0 its own, 1 private, 2 inherited, 3 overridden, 4 abstract, 5 static, 6 constructor, 7 above, 8 static of the nest, 9 constructor of the nest -/
def ma_clc (q : (Nat × Nat × Nat) × (Nat × Nat × Nat) × (Nat × Nat) × List Nat) : Bool := match ma_md q.2.1.2.1 with
  | none => false
  | some (_, y, _, _, _) => decide ((parseMethodDescriptor y.desc).map (fun d => d.parameters.length) = some q.2.1.2.2) && (match q.2.1.1 with
    | 0 => ma_w (q.2.2.2.getD 0 0) (.methodLink (ma_cn q.1.1) q.1.2.1 y) && ma_w (q.2.2.2.getD 1 0) (.instanceMethod y) && ma_w (q.2.2.2.getD 2 0) (.selects (ma_cn q.1.2.2) y y)
    | 1 => ma_w (q.2.2.2.getD 0 0) (.methodLink (ma_cn q.1.1) q.1.2.1 y) && ma_w (q.2.2.2.getD 1 0) (.instanceMethod y) && decide ((ma_sx ++ k2_sels lw_privs)[q.2.2.2.getD 5 0]? = some (Cond.selects (ma_cn q.1.2.2) y y)) && goodWord (.selects (ma_cn q.1.2.2) y y)
    | 2 => ma_w (q.2.2.2.getD 0 0) (.methodLink (ma_cn q.1.1) q.1.2.1 ⟨ma_cn q.2.2.1.1, y.name, y.desc⟩) && ma_w (q.2.2.2.getD 1 0) (.sameMethod (ma_cn q.2.2.1.1) (ma_cn q.2.2.1.2) y.name y.desc) && ma_w (q.2.2.2.getD 2 0) (.selects (ma_cn q.1.2.2) ⟨ma_cn q.2.2.1.1, y.name, y.desc⟩ y) && ma_w (q.2.2.2.getD 3 0) (.instanceMethod y) && decide (y.cls = ma_cn q.2.2.1.2)
    | 3 => ma_w (q.2.2.2.getD 0 0) (.methodLink (ma_cn q.1.1) q.1.2.1 ⟨ma_cn q.2.2.1.1, y.name, y.desc⟩) && ma_w (q.2.2.2.getD 1 0) (.sameMethod (ma_cn q.2.2.1.1) (ma_cn q.2.2.1.2) y.name y.desc) && ma_w (q.2.2.2.getD 2 0) (.selects (ma_cn q.1.2.2) ⟨ma_cn q.2.2.1.1, y.name, y.desc⟩ y) && ma_w (q.2.2.2.getD 3 0) (.instanceMethod y) && (match ma_md (q.2.2.2.getD 4 0) with
      | some (_, y0, _, _, _) => decide (y0 = ⟨ma_cn q.2.2.1.2, y.name, y.desc⟩) && ma_w (q.2.2.2.getD 5 0) (.instanceMethod y0)
      | none => false)
    | 4 => ma_w (q.2.2.2.getD 0 0) (.methodLink (ma_cn q.1.1) q.1.2.1 ⟨ma_cn q.2.2.1.1, y.name, y.desc⟩) && ma_w (q.2.2.2.getD 1 0) (.sameMethod (ma_cn q.2.2.1.1) (ma_cn q.2.2.1.2) y.name y.desc) && ma_w (q.2.2.2.getD 2 0) (.selects (ma_cn q.1.2.2) ⟨ma_cn q.2.2.1.1, y.name, y.desc⟩ y) && ma_w (q.2.2.2.getD 3 0) (.instanceMethod y) && decide (Cond.declares ⟨ma_cn q.2.2.1.2, y.name, y.desc⟩ ∈ ma_nw)
    | 5 => ma_w (q.2.2.2.getD 0 0) (.methodLink (ma_cn q.1.1) q.1.2.1 y) && ma_w (q.2.2.2.getD 1 0) (.static y)
    | 6 => ma_w (q.2.2.2.getD 0 0) (.methodLink (ma_cn q.1.1) q.1.2.1 y) && ma_w (q.2.2.2.getD 1 0) (.instanceMethod y) && decide (y.name = "<init>")
    | 7 => ma_w (q.2.2.2.getD 0 0) (.methodLink (ma_cn q.1.1) q.1.2.1 y) && ma_w (q.2.2.2.getD 1 0) (.sameMethod y.cls y.cls y.name y.desc) && ma_w (q.2.2.2.getD 2 0) (.superclass (ma_cn q.1.1) y.cls) && ma_w (q.2.2.2.getD 3 0) (.instanceMethod y) && decide (y.name ≠ "<init>")
    | 8 => decide (Cond.methodLinkNest (ma_cn q.1.1) q.1.2.1 y RX11 ∈ ma_nw) && ma_w (q.2.2.2.getD 0 0) (.static y)
    | 9 => decide (Cond.methodLinkNest (ma_cn q.1.1) q.1.2.1 y RX11 ∈ ma_nw) && ma_w (q.2.2.2.getD 0 0) (.instanceMethod y) && decide (y.name = "<init>")
    | _ => false)
def ma_clh_0 : List ((Nat × Nat × Nat) × (Nat × Nat × Nat) × (Nat × Nat) × List Nat) := [((1, 3, 0), (6, 262, 2), (1, 1), [217, 142]), ((1, 37, 0), (5, 276, 2), (1, 1), [482, 474]), ((1, 43, 1), (1, 4, 1), (1, 1), [670, 672, 671, 213, 213, 18]), ((1, 47, 1), (1, 10, 1), (1, 1), [785, 787, 786, 213, 213, 24]), ((1, 51, 1), (1, 11, 0), (1, 1), [789, 791, 790, 213, 213, 25]), ((1, 55, 1), (1, 5, 0), (1, 1), [674, 676, 675, 213, 213, 19]), ((1, 58, 1), (1, 7, 1), (1, 1), [772, 774, 773, 213, 213, 22]), ((1, 74, 10), (0, 116, 0), (1, 1), [678, 679, 680]), ((1, 84, 7), (0, 83, 1), (1, 1), [711, 712, 713]), ((1, 90, 7), (0, 86, 1), (1, 1), [734, 735, 736]), ((1, 94, 1), (2, 263, 1), (1, 13), [747, 748, 750, 751]), ((1, 97, 1), (1, 6, 0), (1, 1), [767, 769, 768, 213, 213, 21]), ((1, 100, 1), (1, 12, 0), (1, 1), [793, 795, 794, 213, 213, 26]), ((1, 103, 10), (0, 117, 1), (1, 1), [797, 683, 684])]
def ma_clh_1 : List ((Nat × Nat × Nat) × (Nat × Nat × Nat) × (Nat × Nat) × List Nat) := [((1, 107, 10), (0, 118, 0), (1, 1), [798, 688, 689]), ((1, 110, 1), (1, 13, 0), (1, 1), [799, 801, 800, 213, 213, 27]), ((1, 113, 10), (0, 120, 1), (1, 1), [809, 700, 701]), ((1, 116, 1), (1, 15, 0), (1, 1), [810, 812, 811, 213, 213, 29]), ((1, 122, 7), (0, 81, 1), (1, 1), [771, 692, 693]), ((1, 129, 7), (0, 89, 1), (1, 1), [803, 754, 755]), ((1, 132, 1), (1, 14, 1), (1, 1), [804, 806, 805, 213, 213, 28]), ((1, 136, 1), (1, 9, 2), (1, 1), [781, 783, 782, 213, 213, 23]), ((1, 140, 7), (0, 82, 2), (1, 1), [776, 708, 709]), ((1, 144, 10), (0, 119, 1), (1, 1), [808, 696, 697]), ((1, 150, 10), (0, 124, 1), (1, 1), [814, 815, 816]), ((1, 153, 1), (1, 16, 1), (1, 1), [818, 820, 819, 213, 213, 30]), ((1, 156, 7), (0, 90, 2), (1, 1), [822, 758, 759]), ((1, 160, 1), (0, 8, 3), (1, 1), [777, 778, 779])]
def ma_clh_2 : List ((Nat × Nat × Nat) × (Nat × Nat × Nat) × (Nat × Nat) × List Nat) := [((2, 3, 0), (6, 99, 2), (2, 2), [250, 139]), ((2, 28, 2), (1, 25, 1), (2, 2), [1147, 1149, 1148, 246, 246, 50]), ((2, 33, 9), (0, 114, 1), (2, 2), [1153, 1085, 1086]), ((2, 37, 2), (1, 26, 2), (2, 2), [1154, 1156, 1155, 246, 246, 51]), ((2, 45, 7), (0, 87, 1), (2, 2), [1167, 739, 740]), ((2, 50, 9), (0, 113, 1), (2, 2), [1158, 1081, 1082]), ((2, 53, 7), (0, 94, 3), (2, 2), [1159, 1160, 1161]), ((2, 61, 7), (0, 84, 1), (2, 2), [1151, 725, 726])]
def ma_clh_3 : List ((Nat × Nat × Nat) × (Nat × Nat × Nat) × (Nat × Nat) × List Nat) := [((3, 3, 0), (6, 262, 2), (3, 3), [199, 142]), ((3, 21, 3), (1, 32, 1), (3, 3), [904, 906, 905, 195, 195, 37]), ((3, 25, 3), (0, 33, 0), (3, 3), [908, 909, 910]), ((3, 37, 3), (2, 264, 0), (3, 13), [912, 913, 914, 896]), ((3, 49, 10), (0, 124, 1), (3, 3), [915, 815, 816]), ((3, 57, 7), (0, 90, 2), (3, 3), [916, 758, 759])]
def ma_clh_4 : List ((Nat × Nat × Nat) × (Nat × Nat × Nat) × (Nat × Nat) × List Nat) := [((4, 3, 0), (6, 262, 2), (4, 4), [298, 142]), ((4, 37, 0), (5, 276, 2), (4, 4), [493, 474]), ((4, 43, 4), (1, 41, 2), (4, 4), [920, 922, 921, 294, 294, 38]), ((4, 47, 4), (0, 42, 0), (4, 4), [924, 925, 926]), ((4, 51, 4), (0, 43, 0), (4, 4), [928, 929, 930]), ((4, 54, 4), (1, 52, 0), (4, 4), [969, 971, 970, 294, 294, 47]), ((4, 57, 0), (5, 54, 2), (4, 4), [978, 979]), ((4, 60, 4), (0, 55, 0), (4, 4), [981, 982, 983]), ((4, 66, 4), (1, 53, 2), (4, 4), [974, 976, 975, 294, 294, 48]), ((4, 70, 4), (2, 264, 0), (4, 13), [932, 933, 934, 896]), ((4, 73, 4), (1, 44, 0), (4, 4), [935, 937, 936, 294, 294, 39]), ((4, 77, 4), (1, 46, 0), (4, 4), [944, 946, 945, 294, 294, 41]), ((4, 80, 4), (1, 47, 0), (4, 4), [948, 950, 949, 294, 294, 42]), ((4, 86, 4), (1, 48, 0), (4, 4), [952, 954, 953, 294, 294, 43])]
def ma_clh_5 : List ((Nat × Nat × Nat) × (Nat × Nat × Nat) × (Nat × Nat) × List Nat) := [((4, 89, 4), (1, 49, 1), (4, 4), [956, 958, 957, 294, 294, 44]), ((4, 93, 4), (1, 50, 1), (4, 4), [960, 962, 961, 294, 294, 45]), ((4, 109, 7), (0, 81, 1), (4, 4), [939, 692, 693]), ((4, 113, 4), (1, 45, 1), (4, 4), [940, 942, 941, 294, 294, 40]), ((4, 120, 7), (0, 89, 1), (4, 4), [964, 754, 755]), ((4, 123, 4), (1, 51, 1), (4, 4), [965, 967, 966, 294, 294, 46]), ((4, 127, 7), (0, 90, 2), (4, 4), [973, 758, 759])]
def ma_clh_6 : List ((Nat × Nat × Nat) × (Nat × Nat × Nat) × (Nat × Nat) × List Nat) := [((5, 3, 0), (6, 262, 2), (5, 5), [184, 142]), ((5, 18, 5), (0, 62, 0), (5, 5), [988, 989, 990]), ((5, 30, 5), (2, 264, 0), (5, 13), [992, 993, 994, 896]), ((5, 33, 5), (2, 263, 1), (5, 13), [995, 996, 997, 751])]
def ma_clh_7 : List ((Nat × Nat × Nat) × (Nat × Nat × Nat) × (Nat × Nat) × List Nat) := [((6, 3, 0), (6, 99, 2), (6, 6), [272, 139]), ((6, 11, 0), (6, 115, 1), (6, 6), [274, 108]), ((6, 20, 0), (7, 100, 1), (6, 6), [500, 2156, 292, 484]), ((6, 47, 6), (1, 68, 0), (6, 6), [868, 870, 869, 268, 268, 34]), ((6, 51, 6), (0, 72, 1), (6, 6), [1001, 1002, 1003]), ((6, 55, 6), (2, 103, 1), (6, 8), [1005, 1006, 1008, 827]), ((6, 58, 6), (0, 67, 0), (6, 6), [1009, 866, 2161]), ((6, 62, 0), (7, 110, 1), (6, 6), [1109, 2162, 292, 1095]), ((6, 66, 10), (0, 121, 1), (6, 6), [1110, 704, 705]), ((6, 69, 10), (0, 120, 1), (6, 6), [874, 700, 701]), ((6, 72, 6), (1, 69, 0), (6, 6), [875, 877, 876, 268, 268, 35]), ((6, 76, 6), (1, 70, 0), (6, 6), [883, 885, 884, 268, 268, 36]), ((6, 79, 10), (0, 125, 0), (6, 6), [879, 880, 881]), ((6, 82, 10), (0, 117, 1), (6, 6), [872, 683, 684])]
def ma_clh_8 : List ((Nat × Nat × Nat) × (Nat × Nat × Nat) × (Nat × Nat) × List Nat) := [((6, 86, 10), (0, 118, 0), (6, 6), [873, 688, 689]), ((6, 89, 7), (0, 83, 1), (6, 6), [887, 712, 713]), ((6, 93, 7), (0, 86, 1), (6, 6), [888, 735, 736]), ((6, 97, 10), (0, 119, 1), (6, 6), [1137, 696, 697]), ((6, 100, 10), (0, 123, 1), (6, 6), [1418, 721, 722])]
def ma_clh_9 : List ((Nat × Nat × Nat) × (Nat × Nat × Nat) × (Nat × Nat) × List Nat) := [((7, 30, 0), (5, 276, 2), (7, 7), [473, 474]), ((7, 70, 9), (0, 113, 1), (7, 7), [1080, 1081, 1082]), ((7, 78, 7), (0, 82, 2), (7, 7), [742, 708, 709]), ((7, 82, 0), (8, 146, 1), (7, 7), [1121]), ((7, 86, 7), (0, 95, 3), (7, 7), [1163, 1164, 1165]), ((7, 90, 0), (5, 93, 2), (7, 7), [1123, 1124]), ((7, 94, 7), (0, 81, 1), (7, 7), [715, 692, 693]), ((7, 104, 7), (0, 85, 1), (7, 7), [728, 729, 730]), ((7, 112, 7), (1, 88, 2), (7, 7), [743, 745, 744, 39, 39, 20]), ((7, 128, 10), (0, 122, 1), (7, 7), [716, 717, 718]), ((7, 134, 7), (0, 84, 1), (7, 7), [724, 725, 726]), ((7, 137, 10), (0, 119, 1), (7, 7), [732, 696, 697]), ((7, 140, 10), (0, 120, 1), (7, 7), [733, 700, 701]), ((7, 144, 7), (0, 87, 1), (7, 7), [738, 739, 740])]
def ma_clh_10 : List ((Nat × Nat × Nat) × (Nat × Nat × Nat) × (Nat × Nat) × List Nat) := [((8, 3, 0), (6, 262, 2), (8, 8), [141, 142]), ((8, 21, 2), (0, 103, 1), (8, 8), [826, 827, 830]), ((8, 21, 6), (0, 103, 1), (8, 8), [826, 827, 831]), ((8, 21, 8), (0, 103, 1), (8, 8), [826, 827, 828]), ((8, 25, 2), (0, 109, 0), (8, 8), [860, 861, 864]), ((8, 25, 6), (3, 67, 0), (8, 8), [860, 863, 865, 866, 109, 861]), ((8, 25, 8), (0, 109, 0), (8, 8), [860, 861, 862]), ((8, 37, 2), (2, 264, 0), (8, 13), [890, 891, 893, 896]), ((8, 37, 6), (2, 264, 0), (8, 13), [890, 891, 894, 896]), ((8, 37, 8), (2, 264, 0), (8, 13), [890, 891, 895, 896]), ((8, 40, 2), (0, 105, 1), (8, 8), [837, 838, 841]), ((8, 40, 6), (0, 105, 1), (8, 8), [837, 838, 842]), ((8, 40, 8), (0, 105, 1), (8, 8), [837, 838, 839]), ((8, 43, 2), (0, 106, 1), (8, 8), [845, 846, 849])]
def ma_clh_11 : List ((Nat × Nat × Nat) × (Nat × Nat × Nat) × (Nat × Nat) × List Nat) := [((8, 43, 6), (0, 106, 1), (8, 8), [845, 846, 850]), ((8, 43, 8), (0, 106, 1), (8, 8), [845, 846, 847]), ((8, 50, 7), (0, 89, 1), (8, 8), [844, 754, 755]), ((8, 56, 2), (1, 104, 3), (8, 8), [833, 835, 834, 246, 137, 0]), ((8, 56, 6), (1, 104, 3), (8, 8), [833, 835, 834, 268, 137, 3]), ((8, 56, 8), (1, 104, 3), (8, 8), [833, 835, 834, 137, 137, 31]), ((8, 60, 2), (1, 107, 1), (8, 8), [852, 854, 853, 246, 137, 1]), ((8, 60, 6), (1, 107, 1), (8, 8), [852, 854, 853, 268, 137, 4]), ((8, 60, 8), (1, 107, 1), (8, 8), [852, 854, 853, 137, 137, 32]), ((8, 63, 2), (1, 108, 2), (8, 8), [856, 858, 857, 246, 137, 2]), ((8, 63, 6), (1, 108, 2), (8, 8), [856, 858, 857, 268, 137, 5]), ((8, 63, 8), (1, 108, 2), (8, 8), [856, 858, 857, 137, 137, 33])]
def ma_clh_12 : List ((Nat × Nat × Nat) × (Nat × Nat × Nat) × (Nat × Nat) × List Nat) := [((9, 26, 9), (0, 114, 1), (9, 9), [1084, 1085, 1086])]
def ma_clh_13 : List ((Nat × Nat × Nat) × (Nat × Nat × Nat) × (Nat × Nat) × List Nat) := [((10, 22, 0), (5, 276, 2), (10, 10), [686, 474]), ((10, 38, 10), (0, 117, 1), (10, 10), [682, 683, 684]), ((10, 42, 10), (0, 118, 0), (10, 10), [687, 688, 689]), ((10, 45, 10), (0, 120, 1), (10, 10), [699, 700, 701]), ((10, 54, 10), (0, 123, 1), (10, 10), [720, 721, 722]), ((10, 66, 7), (0, 81, 1), (10, 10), [691, 692, 693]), ((10, 70, 10), (0, 119, 1), (10, 10), [695, 696, 697]), ((10, 86, 10), (0, 121, 1), (10, 10), [703, 704, 705]), ((10, 92, 7), (0, 82, 2), (10, 10), [707, 708, 709])]
def ma_clh_14 : List ((Nat × Nat × Nat) × (Nat × Nat × Nat) × (Nat × Nat) × List Nat) := [((11, 25, 0), (9, 79, 0), (11, 11), [41]), ((11, 32, 0), (6, 115, 1), (11, 11), [107, 108]), ((11, 43, 0), (6, 99, 2), (11, 11), [138, 139]), ((11, 48, 0), (6, 58, 2), (11, 11), [181, 182]), ((11, 51, 0), (6, 28, 2), (11, 11), [196, 197]), ((11, 54, 0), (6, 0, 2), (11, 11), [214, 215]), ((11, 57, 0), (6, 23, 2), (11, 11), [247, 248]), ((11, 60, 0), (6, 65, 2), (11, 11), [269, 270]), ((11, 63, 0), (6, 37, 2), (11, 11), [295, 296]), ((11, 75, 11), (1, 138, 1), (11, 11), [596, 598, 597, 31, 31, 15]), ((11, 88, 11), (1, 128, 0), (11, 11), [364, 366, 365, 31, 31, 6]), ((11, 95, 7), (0, 80, 0), (11, 11), [469, 470, 471]), ((11, 102, 1), (4, 1, 1), (13, 13), [476, 478, 479, 480]), ((11, 102, 2), (4, 100, 1), (13, 13), [476, 478, 483, 484])]
def ma_clh_15 : List ((Nat × Nat × Nat) × (Nat × Nat × Nat) × (Nat × Nat) × List Nat) := [((11, 102, 3), (4, 29, 1), (13, 13), [476, 478, 486, 487]), ((11, 102, 4), (4, 38, 1), (13, 13), [476, 478, 489, 490]), ((11, 102, 5), (4, 59, 1), (13, 13), [476, 478, 494, 495]), ((11, 102, 6), (4, 66, 1), (13, 13), [476, 478, 497, 498]), ((11, 102, 8), (4, 100, 1), (13, 13), [476, 478, 501, 484]), ((11, 106, 1), (4, 2, 0), (13, 13), [502, 504, 505, 506]), ((11, 106, 2), (4, 101, 0), (13, 13), [502, 504, 508, 509]), ((11, 106, 3), (4, 30, 0), (13, 13), [502, 504, 511, 512]), ((11, 106, 4), (4, 39, 0), (13, 13), [502, 504, 514, 515]), ((11, 106, 5), (4, 60, 0), (13, 13), [502, 504, 517, 518]), ((11, 106, 6), (4, 101, 0), (13, 13), [502, 504, 520, 509]), ((11, 106, 8), (4, 101, 0), (13, 13), [502, 504, 521, 509]), ((11, 109, 0), (5, 142, 1), (11, 11), [653, 654]), ((11, 113, 11), (1, 143, 4), (11, 11), [656, 658, 657, 31, 31, 16])]
def ma_clh_16 : List ((Nat × Nat × Nat) × (Nat × Nat × Nat) × (Nat × Nat) × List Nat) := [((11, 119, 11), (1, 144, 0), (11, 11), [660, 662, 661, 31, 31, 17]), ((11, 123, 11), (1, 149, 1), (11, 11), [1191, 1193, 1192, 31, 31, 52]), ((11, 127, 9), (0, 114, 1), (11, 11), [1213, 1085, 1086]), ((11, 132, 9), (0, 113, 1), (11, 11), [1214, 1081, 1082]), ((11, 138, 7), (0, 95, 3), (11, 11), [1230, 1164, 1165]), ((11, 142, 11), (1, 151, 1), (11, 11), [1238, 1240, 1239, 31, 31, 53]), ((11, 145, 7), (0, 94, 3), (11, 11), [1242, 1160, 1161]), ((11, 149, 1), (3, 8, 3), (13, 13), [1243, 1245, 1246, 778, 267, 1244]), ((11, 149, 2), (0, 267, 3), (11, 11), [1243, 1244, 1247]), ((11, 149, 3), (0, 267, 3), (11, 11), [1243, 1244, 1248]), ((11, 149, 4), (0, 267, 3), (11, 11), [1243, 1244, 1249]), ((11, 149, 5), (0, 267, 3), (11, 11), [1243, 1244, 1250]), ((11, 149, 6), (0, 267, 3), (11, 11), [1243, 1244, 1251]), ((11, 149, 8), (0, 267, 3), (11, 11), [1243, 1244, 1252])]
def ma_clh_17 : List ((Nat × Nat × Nat) × (Nat × Nat × Nat) × (Nat × Nat) × List Nat) := [((11, 153, 1), (0, 265, 2), (11, 11), [1126, 1127, 1129]), ((11, 153, 2), (0, 265, 2), (11, 11), [1126, 1127, 1130]), ((11, 153, 3), (0, 265, 2), (11, 11), [1126, 1127, 1131]), ((11, 153, 4), (0, 265, 2), (11, 11), [1126, 1127, 1132]), ((11, 153, 5), (0, 265, 2), (11, 11), [1126, 1127, 1133]), ((11, 153, 6), (3, 74, 2), (13, 13), [1126, 1128, 1134, 1135, 265, 1127]), ((11, 153, 8), (0, 265, 2), (11, 11), [1126, 1127, 1138]), ((11, 157, 1), (0, 266, 1), (11, 11), [1140, 1141, 1143]), ((11, 157, 2), (3, 24, 1), (13, 13), [1140, 1142, 1144, 1145, 266, 1141]), ((11, 157, 3), (0, 266, 1), (11, 11), [1140, 1141, 1168]), ((11, 157, 4), (0, 266, 1), (11, 11), [1140, 1141, 1169]), ((11, 157, 5), (0, 266, 1), (11, 11), [1140, 1141, 1170]), ((11, 157, 6), (0, 266, 1), (11, 11), [1140, 1141, 1171]), ((11, 157, 8), (0, 266, 1), (11, 11), [1140, 1141, 1172])]
def ma_clh_18 : List ((Nat × Nat × Nat) × (Nat × Nat × Nat) × (Nat × Nat) × List Nat) := [((11, 161, 0), (5, 146, 1), (11, 11), [1254, 1121]), ((11, 165, 7), (0, 96, 2), (11, 11), [1262, 1263, 1264]), ((11, 169, 11), (1, 145, 3), (11, 11), [1112, 1114, 1113, 31, 31, 49]), ((11, 176, 7), (0, 81, 1), (11, 11), [1196, 692, 693]), ((11, 179, 1), (0, 268, 1), (11, 11), [1287, 1288, 1290]), ((11, 179, 2), (0, 268, 1), (11, 11), [1287, 1288, 1291]), ((11, 179, 3), (0, 268, 1), (11, 11), [1287, 1288, 1292]), ((11, 179, 4), (0, 268, 1), (11, 11), [1287, 1288, 1293]), ((11, 179, 5), (0, 268, 1), (11, 11), [1287, 1288, 1294]), ((11, 179, 6), (3, 75, 1), (13, 13), [1287, 1289, 1295, 1296, 268, 1288]), ((11, 179, 8), (0, 268, 1), (11, 11), [1287, 1288, 1298]), ((11, 185, 1), (3, 18, 1), (13, 13), [1308, 1310, 1311, 1312, 269, 1309]), ((11, 185, 2), (0, 269, 1), (11, 11), [1308, 1309, 1314]), ((11, 185, 3), (3, 35, 1), (13, 13), [1308, 1310, 1315, 1316, 269, 1309])]
def ma_clh_19 : List ((Nat × Nat × Nat) × (Nat × Nat × Nat) × (Nat × Nat) × List Nat) := [((11, 185, 4), (0, 269, 1), (11, 11), [1308, 1309, 1318]), ((11, 185, 5), (0, 269, 1), (11, 11), [1308, 1309, 1319]), ((11, 185, 6), (0, 269, 1), (11, 11), [1308, 1309, 1320]), ((11, 185, 8), (0, 269, 1), (11, 11), [1308, 1309, 1321]), ((11, 195, 7), (0, 97, 2), (11, 11), [1338, 1339, 1340]), ((11, 203, 7), (0, 98, 0), (11, 11), [1356, 1357, 1358]), ((11, 207, 1), (4, 19, 0), (13, 13), [1367, 1369, 1370, 1371]), ((11, 207, 2), (4, 109, 0), (13, 13), [1367, 1369, 1373, 861]), ((11, 207, 3), (4, 33, 0), (13, 13), [1367, 1369, 1374, 909]), ((11, 207, 4), (4, 43, 0), (13, 13), [1367, 1369, 1375, 929]), ((11, 207, 5), (4, 62, 0), (13, 13), [1367, 1369, 1376, 989]), ((11, 207, 6), (4, 67, 0), (13, 13), [1367, 1369, 1377, 866]), ((11, 207, 8), (4, 109, 0), (13, 13), [1367, 1369, 1378, 861]), ((11, 210, 6), (0, 72, 1), (11, 11), [1386, 1002, 1003])]
def ma_clh_20 : List ((Nat × Nat × Nat) × (Nat × Nat × Nat) × (Nat × Nat) × List Nat) := [((11, 226, 1), (0, 270, 1), (11, 11), [1394, 1395, 1397]), ((11, 226, 2), (3, 27, 1), (13, 13), [1394, 1396, 1398, 1399, 270, 1395]), ((11, 226, 3), (0, 270, 1), (11, 11), [1394, 1395, 1401]), ((11, 226, 4), (0, 270, 1), (11, 11), [1394, 1395, 1402]), ((11, 226, 5), (0, 270, 1), (11, 11), [1394, 1395, 1403]), ((11, 226, 6), (0, 270, 1), (11, 11), [1394, 1395, 1404]), ((11, 226, 8), (0, 270, 1), (11, 11), [1394, 1395, 1405]), ((11, 229, 1), (0, 271, 1), (11, 11), [1407, 1408, 1410]), ((11, 229, 2), (0, 271, 1), (11, 11), [1407, 1408, 1411]), ((11, 229, 3), (0, 271, 1), (11, 11), [1407, 1408, 1412]), ((11, 229, 4), (0, 271, 1), (11, 11), [1407, 1408, 1413]), ((11, 229, 5), (0, 271, 1), (11, 11), [1407, 1408, 1414]), ((11, 229, 6), (3, 76, 1), (13, 13), [1407, 1409, 1415, 1416, 271, 1408]), ((11, 229, 8), (0, 271, 1), (11, 11), [1407, 1408, 1419])]
def ma_clh_21 : List ((Nat × Nat × Nat) × (Nat × Nat × Nat) × (Nat × Nat) × List Nat) := [((11, 232, 2), (0, 111, 1), (11, 11), [1428, 1429, 1432]), ((11, 232, 6), (0, 111, 1), (11, 11), [1428, 1429, 1433]), ((11, 232, 8), (0, 111, 1), (11, 11), [1428, 1429, 1430]), ((11, 235, 2), (0, 106, 1), (11, 11), [1435, 846, 849]), ((11, 235, 6), (0, 106, 1), (11, 11), [1435, 846, 850]), ((11, 235, 8), (0, 106, 1), (11, 11), [1435, 846, 847]), ((11, 262, 1), (3, 20, 0), (13, 13), [1443, 1445, 1446, 1447, 272, 1444]), ((11, 262, 2), (0, 272, 0), (11, 11), [1443, 1444, 1449]), ((11, 262, 3), (0, 272, 0), (11, 11), [1443, 1444, 1450]), ((11, 262, 4), (3, 42, 0), (13, 13), [1443, 1445, 1451, 925, 272, 1444]), ((11, 262, 5), (0, 272, 0), (11, 11), [1443, 1444, 1452]), ((11, 262, 6), (3, 77, 0), (13, 13), [1443, 1445, 1453, 1454, 272, 1444]), ((11, 262, 8), (0, 272, 0), (11, 11), [1443, 1444, 1456]), ((11, 265, 1), (3, 21, 0), (13, 13), [1458, 1460, 1461, 1462, 273, 1459])]
def ma_clh_22 : List ((Nat × Nat × Nat) × (Nat × Nat × Nat) × (Nat × Nat) × List Nat) := [((11, 265, 2), (0, 273, 0), (11, 11), [1458, 1459, 1464]), ((11, 265, 3), (3, 36, 0), (13, 13), [1458, 1460, 1465, 1466, 273, 1459]), ((11, 265, 4), (3, 55, 0), (13, 13), [1458, 1460, 1468, 982, 273, 1459]), ((11, 265, 5), (3, 64, 0), (13, 13), [1458, 1460, 1469, 1470, 273, 1459]), ((11, 265, 6), (0, 273, 0), (11, 11), [1458, 1459, 1472]), ((11, 265, 8), (0, 273, 0), (11, 11), [1458, 1459, 1473]), ((11, 268, 1), (0, 274, 0), (11, 11), [1475, 1476, 1478]), ((11, 268, 2), (0, 274, 0), (11, 11), [1475, 1476, 1479]), ((11, 268, 3), (0, 274, 0), (11, 11), [1475, 1476, 1480]), ((11, 268, 4), (0, 274, 0), (11, 11), [1475, 1476, 1481]), ((11, 268, 5), (0, 274, 0), (11, 11), [1475, 1476, 1482]), ((11, 268, 6), (3, 78, 0), (13, 13), [1475, 1477, 1483, 1484, 274, 1476]), ((11, 268, 8), (0, 274, 0), (11, 11), [1475, 1476, 1486]), ((11, 272, 1), (3, 22, 0), (13, 13), [1488, 1490, 1491, 1492, 275, 1489])]
def ma_clh_23 : List ((Nat × Nat × Nat) × (Nat × Nat × Nat) × (Nat × Nat) × List Nat) := [((11, 272, 2), (0, 275, 0), (11, 11), [1488, 1489, 1494]), ((11, 272, 3), (0, 275, 0), (11, 11), [1488, 1489, 1495]), ((11, 272, 4), (3, 57, 0), (13, 13), [1488, 1490, 1496, 1497, 275, 1489]), ((11, 272, 5), (0, 275, 0), (11, 11), [1488, 1489, 1499]), ((11, 272, 6), (0, 275, 0), (11, 11), [1488, 1489, 1500]), ((11, 272, 8), (0, 275, 0), (11, 11), [1488, 1489, 1501]), ((11, 278, 11), (1, 129, 0), (11, 11), [368, 370, 369, 31, 31, 7]), ((11, 281, 11), (1, 130, 0), (11, 11), [372, 374, 373, 31, 31, 8]), ((11, 284, 0), (5, 132, 1), (11, 11), [435, 436]), ((11, 288, 17), (0, 277, 0), (11, 11), [381, 382, 383]), ((11, 293, 17), (0, 279, 1), (11, 11), [391, 392, 393]), ((11, 297, 11), (1, 133, 1), (11, 11), [444, 446, 445, 31, 31, 10]), ((11, 303, 11), (1, 131, 1), (11, 11), [377, 379, 378, 31, 31, 9]), ((11, 331, 11), (1, 134, 2), (11, 11), [448, 450, 449, 31, 31, 11])]
def ma_clh_24 : List ((Nat × Nat × Nat) × (Nat × Nat × Nat) × (Nat × Nat) × List Nat) := [((11, 340, 11), (1, 135, 0), (11, 11), [455, 457, 456, 31, 31, 12]), ((11, 343, 11), (1, 136, 0), (11, 11), [463, 465, 464, 31, 31, 13]), ((11, 358, 10), (0, 116, 0), (11, 11), [1195, 679, 680]), ((11, 361, 10), (0, 122, 1), (11, 11), [1197, 717, 718]), ((11, 367, 1), (4, 3, 1), (13, 13), [664, 666, 667, 668]), ((11, 367, 2), (4, 102, 1), (13, 13), [664, 666, 823, 824]), ((11, 367, 3), (4, 31, 1), (13, 13), [664, 666, 901, 902]), ((11, 367, 4), (4, 40, 1), (13, 13), [664, 666, 917, 918]), ((11, 367, 5), (4, 61, 1), (13, 13), [664, 666, 985, 986]), ((11, 367, 6), (4, 71, 1), (13, 13), [664, 666, 998, 999]), ((11, 367, 8), (4, 102, 1), (13, 13), [664, 666, 1010, 824]), ((11, 370, 0), (6, 112, 5), (11, 11), [1013, 1014]), ((11, 373, 7), (0, 91, 1), (11, 11), [1076, 1077, 1078]), ((11, 376, 1), (4, 17, 1), (13, 13), [1088, 1090, 1091, 1092])]
def ma_clh_25 : List ((Nat × Nat × Nat) × (Nat × Nat × Nat) × (Nat × Nat) × List Nat) := [((11, 376, 2), (4, 110, 1), (13, 13), [1088, 1090, 1094, 1095]), ((11, 376, 3), (4, 34, 1), (13, 13), [1088, 1090, 1097, 1098]), ((11, 376, 4), (4, 56, 1), (13, 13), [1088, 1090, 1100, 1101]), ((11, 376, 5), (4, 63, 1), (13, 13), [1088, 1090, 1103, 1104]), ((11, 376, 6), (4, 73, 1), (13, 13), [1088, 1090, 1106, 1107]), ((11, 376, 8), (4, 110, 1), (13, 13), [1088, 1090, 1111, 1095]), ((11, 379, 7), (0, 92, 2), (11, 11), [1116, 1117, 1118])]
def ma_clh_26 : List ((Nat × Nat × Nat) × (Nat × Nat × Nat) × (Nat × Nat) × List Nat) := [((12, 110, 12), (1, 167, 1), (12, 12), [1775, 1777, 1776, 1508, 1508, 54]), ((12, 114, 12), (1, 168, 1), (12, 12), [1779, 1781, 1780, 1508, 1508, 55]), ((12, 136, 12), (1, 176, 2), (12, 12), [1811, 1813, 1812, 1508, 1508, 60]), ((12, 140, 12), (1, 173, 0), (12, 12), [1799, 1801, 1800, 1508, 1508, 57]), ((12, 144, 12), (1, 174, 1), (12, 12), [1803, 1805, 1804, 1508, 1508, 58]), ((12, 150, 12), (1, 175, 7), (12, 12), [1807, 1809, 1808, 1508, 1508, 59]), ((12, 157, 12), (1, 177, 2), (12, 12), [1815, 1817, 1816, 1508, 1508, 61]), ((12, 177, 12), (1, 178, 0), (12, 12), [1819, 1821, 1820, 1508, 1508, 62]), ((12, 180, 12), (1, 179, 0), (12, 12), [1823, 1825, 1824, 1508, 1508, 63]), ((12, 196, 12), (1, 172, 0), (12, 12), [1795, 1797, 1796, 1508, 1508, 56]), ((12, 231, 12), (1, 180, 0), (12, 12), [1827, 1829, 1828, 1508, 1508, 64]), ((12, 288, 12), (1, 193, 2), (12, 12), [1879, 1881, 1880, 1508, 1508, 76]), ((12, 294, 12), (1, 192, 2), (12, 12), [1875, 1877, 1876, 1508, 1508, 75]), ((12, 298, 12), (1, 190, 1), (12, 12), [1867, 1869, 1868, 1508, 1508, 73])]
def ma_clh_27 : List ((Nat × Nat × Nat) × (Nat × Nat × Nat) × (Nat × Nat) × List Nat) := [((12, 301, 12), (1, 189, 0), (12, 12), [1863, 1865, 1864, 1508, 1508, 72]), ((12, 304, 12), (1, 191, 0), (12, 12), [1871, 1873, 1872, 1508, 1508, 74]), ((12, 307, 12), (1, 246, 1), (12, 12), [2091, 2093, 2092, 1508, 1508, 127]), ((12, 311, 12), (1, 188, 0), (12, 12), [1859, 1861, 1860, 1508, 1508, 71]), ((12, 314, 12), (1, 196, 1), (12, 12), [1891, 1893, 1892, 1508, 1508, 79]), ((12, 317, 12), (1, 198, 1), (12, 12), [1899, 1901, 1900, 1508, 1508, 81]), ((12, 320, 12), (1, 195, 2), (12, 12), [1887, 1889, 1888, 1508, 1508, 78]), ((12, 324, 12), (1, 197, 1), (12, 12), [1895, 1897, 1896, 1508, 1508, 80]), ((12, 327, 12), (1, 201, 1), (12, 12), [1911, 1913, 1912, 1508, 1508, 84]), ((12, 330, 12), (1, 202, 1), (12, 12), [1915, 1917, 1916, 1508, 1508, 85]), ((12, 333, 12), (1, 203, 1), (12, 12), [1919, 1921, 1920, 1508, 1508, 86]), ((12, 336, 12), (1, 194, 0), (12, 12), [1883, 1885, 1884, 1508, 1508, 77]), ((12, 339, 12), (1, 199, 0), (12, 12), [1903, 1905, 1904, 1508, 1508, 82]), ((12, 342, 12), (1, 200, 0), (12, 12), [1907, 1909, 1908, 1508, 1508, 83])]
def ma_clh_28 : List ((Nat × Nat × Nat) × (Nat × Nat × Nat) × (Nat × Nat) × List Nat) := [((12, 346, 12), (1, 187, 0), (12, 12), [1855, 1857, 1856, 1508, 1508, 70]), ((12, 349, 12), (1, 204, 1), (12, 12), [1923, 1925, 1924, 1508, 1508, 87]), ((12, 352, 12), (1, 205, 2), (12, 12), [1927, 1929, 1928, 1508, 1508, 88]), ((12, 365, 12), (1, 207, 1), (12, 12), [1935, 1937, 1936, 1508, 1508, 90]), ((12, 368, 12), (1, 208, 0), (12, 12), [1939, 1941, 1940, 1508, 1508, 91]), ((12, 371, 12), (1, 209, 1), (12, 12), [1943, 1945, 1944, 1508, 1508, 92]), ((12, 375, 12), (1, 213, 2), (12, 12), [1959, 1961, 1960, 1508, 1508, 96]), ((12, 378, 12), (1, 212, 0), (12, 12), [1955, 1957, 1956, 1508, 1508, 95]), ((12, 381, 12), (1, 215, 0), (12, 12), [1967, 1969, 1968, 1508, 1508, 98]), ((12, 384, 12), (1, 211, 0), (12, 12), [1951, 1953, 1952, 1508, 1508, 94]), ((12, 387, 12), (1, 216, 1), (12, 12), [1971, 1973, 1972, 1508, 1508, 99]), ((12, 393, 12), (1, 242, 1), (12, 12), [2075, 2077, 2076, 1508, 1508, 125]), ((12, 396, 12), (1, 221, 1), (12, 12), [1991, 1993, 1992, 1508, 1508, 104]), ((12, 399, 12), (1, 220, 0), (12, 12), [1987, 1989, 1988, 1508, 1508, 103])]
def ma_clh_29 : List ((Nat × Nat × Nat) × (Nat × Nat × Nat) × (Nat × Nat) × List Nat) := [((12, 402, 12), (1, 222, 1), (12, 12), [1995, 1997, 1996, 1508, 1508, 105]), ((12, 405, 12), (1, 223, 0), (12, 12), [1999, 2001, 2000, 1508, 1508, 106]), ((12, 408, 12), (1, 219, 0), (12, 12), [1983, 1985, 1984, 1508, 1508, 102]), ((12, 411, 12), (1, 230, 0), (12, 12), [2027, 2029, 2028, 1508, 1508, 113]), ((12, 414, 12), (1, 236, 0), (12, 12), [2051, 2053, 2052, 1508, 1508, 119]), ((12, 417, 12), (1, 234, 0), (12, 12), [2043, 2045, 2044, 1508, 1508, 117]), ((12, 423, 12), (1, 226, 2), (12, 12), [2011, 2013, 2012, 1508, 1508, 109]), ((12, 426, 12), (1, 225, 3), (12, 12), [2007, 2009, 2008, 1508, 1508, 108]), ((12, 430, 12), (1, 227, 1), (12, 12), [2015, 2017, 2016, 1508, 1508, 110]), ((12, 433, 12), (1, 228, 2), (12, 12), [2019, 2021, 2020, 1508, 1508, 111]), ((12, 436, 12), (1, 224, 1), (12, 12), [2003, 2005, 2004, 1508, 1508, 107]), ((12, 439, 12), (1, 218, 0), (12, 12), [1979, 1981, 1980, 1508, 1508, 101]), ((12, 442, 12), (1, 229, 0), (12, 12), [2023, 2025, 2024, 1508, 1508, 112]), ((12, 445, 12), (1, 185, 2), (12, 12), [1847, 1849, 1848, 1508, 1508, 68])]
def ma_clh_30 : List ((Nat × Nat × Nat) × (Nat × Nat × Nat) × (Nat × Nat) × List Nat) := [((12, 448, 12), (1, 214, 0), (12, 12), [1963, 1965, 1964, 1508, 1508, 97]), ((12, 451, 12), (1, 232, 1), (12, 12), [2035, 2037, 2036, 1508, 1508, 115]), ((12, 454, 12), (1, 233, 0), (12, 12), [2039, 2041, 2040, 1508, 1508, 116]), ((12, 457, 12), (1, 235, 0), (12, 12), [2047, 2049, 2048, 1508, 1508, 118]), ((12, 460, 12), (1, 186, 0), (12, 12), [1851, 1853, 1852, 1508, 1508, 69]), ((12, 463, 12), (1, 206, 0), (12, 12), [1931, 1933, 1932, 1508, 1508, 89]), ((12, 466, 12), (1, 210, 1), (12, 12), [1947, 1949, 1948, 1508, 1508, 93]), ((12, 469, 12), (1, 217, 1), (12, 12), [1975, 1977, 1976, 1508, 1508, 100]), ((12, 472, 12), (1, 231, 1), (12, 12), [2031, 2033, 2032, 1508, 1508, 114]), ((12, 475, 12), (1, 237, 1), (12, 12), [2055, 2057, 2056, 1508, 1508, 120]), ((12, 478, 12), (1, 184, 1), (12, 12), [1843, 1845, 1844, 1508, 1508, 67]), ((12, 481, 12), (1, 238, 2), (12, 12), [2059, 2061, 2060, 1508, 1508, 121]), ((12, 484, 12), (1, 239, 1), (12, 12), [2063, 2065, 2064, 1508, 1508, 122]), ((12, 487, 12), (1, 240, 2), (12, 12), [2067, 2069, 2068, 1508, 1508, 123])]
def ma_clh_31 : List ((Nat × Nat × Nat) × (Nat × Nat × Nat) × (Nat × Nat) × List Nat) := [((12, 490, 12), (1, 241, 1), (12, 12), [2071, 2073, 2072, 1508, 1508, 124]), ((12, 493, 12), (1, 182, 1), (12, 12), [1835, 1837, 1836, 1508, 1508, 65]), ((12, 496, 12), (1, 183, 3), (12, 12), [1839, 1841, 1840, 1508, 1508, 66]), ((12, 499, 12), (1, 245, 1), (12, 12), [2087, 2089, 2088, 1508, 1508, 126]), ((12, 502, 12), (1, 248, 1), (12, 12), [2099, 2101, 2100, 1508, 1508, 128]), ((12, 505, 12), (1, 261, 0), (12, 12), [2151, 2153, 2152, 1508, 1508, 129])]
def ma_clh_32 : List ((Nat × Nat × Nat) × (Nat × Nat × Nat) × (Nat × Nat) × List Nat) := [((13, 19, 10), (0, 116, 0), (13, 13), [898, 679, 680]), ((13, 24, 7), (0, 83, 1), (13, 13), [899, 712, 713]), ((13, 30, 7), (0, 86, 1), (13, 13), [900, 735, 736]), ((13, 34, 7), (0, 89, 1), (13, 13), [753, 754, 755]), ((13, 47, 7), (0, 90, 2), (13, 13), [757, 758, 759])]
def ma_clh_33 : List ((Nat × Nat × Nat) × (Nat × Nat × Nat) × (Nat × Nat) × List Nat) := [((14, 7, 11), (0, 137, 5), (14, 14), [526, 527, 528]), ((14, 15, 11), (0, 139, 1), (14, 14), [604, 605, 606]), ((14, 21, 11), (0, 140, 2), (14, 14), [627, 628, 629]), ((14, 27, 11), (0, 141, 2), (14, 14), [649, 650, 651]), ((14, 30, 11), (0, 147, 3), (14, 14), [1177, 1178, 1179]), ((14, 34, 11), (0, 148, 3), (14, 14), [1187, 1188, 1189]), ((14, 42, 11), (0, 150, 3), (14, 14), [1234, 1235, 1236]), ((14, 45, 11), (0, 152, 2), (14, 14), [1258, 1259, 1260]), ((14, 48, 11), (0, 153, 2), (14, 14), [1269, 1270, 1271]), ((14, 51, 11), (0, 154, 2), (14, 14), [1276, 1277, 1278]), ((14, 54, 11), (0, 155, 2), (14, 14), [1283, 1284, 1285]), ((14, 57, 11), (0, 156, 2), (14, 14), [1304, 1305, 1306]), ((14, 63, 11), (0, 157, 1), (14, 14), [1345, 1346, 1347]), ((14, 66, 11), (0, 158, 1), (14, 14), [1352, 1353, 1354])]
def ma_clh_34 : List ((Nat × Nat × Nat) × (Nat × Nat × Nat) × (Nat × Nat) × List Nat) := [((14, 69, 11), (0, 159, 0), (14, 14), [1363, 1364, 1365]), ((14, 73, 11), (0, 160, 1), (14, 14), [1382, 1383, 1384]), ((14, 76, 11), (0, 161, 2), (14, 14), [1390, 1391, 1392]), ((14, 79, 11), (0, 162, 2), (14, 14), [1424, 1425, 1426]), ((14, 82, 11), (0, 163, 1), (14, 14), [1439, 1440, 1441]), ((14, 85, 0), (6, 126, 0), (14, 14), [32, 33]), ((14, 88, 0), (6, 165, 0), (14, 14), [1509, 1510]), ((14, 94, 12), (0, 166, 5), (14, 14), [1771, 1772, 1773]), ((14, 98, 12), (0, 169, 1), (14, 14), [1783, 1784, 1785]), ((14, 102, 12), (0, 170, 2), (14, 14), [1787, 1788, 1789]), ((14, 103, 11), (0, 127, 0), (14, 14), [360, 361, 362]), ((14, 106, 12), (0, 171, 0), (14, 14), [1791, 1792, 1793]), ((14, 109, 12), (0, 181, 2), (14, 14), [1831, 1832, 1833]), ((14, 113, 12), (0, 243, 3), (14, 14), [2079, 2080, 2081])]
def ma_clh_35 : List ((Nat × Nat × Nat) × (Nat × Nat × Nat) × (Nat × Nat) × List Nat) := [((14, 117, 12), (0, 244, 3), (14, 14), [2083, 2084, 2085]), ((14, 120, 12), (0, 247, 3), (14, 14), [2095, 2096, 2097]), ((14, 123, 12), (0, 249, 2), (14, 14), [2103, 2104, 2105]), ((14, 124, 12), (0, 164, 0), (14, 14), [1503, 1504, 1505]), ((14, 129, 12), (0, 250, 2), (14, 14), [2107, 2108, 2109]), ((14, 132, 12), (0, 251, 2), (14, 14), [2111, 2112, 2113]), ((14, 135, 12), (0, 252, 2), (14, 14), [2115, 2116, 2117]), ((14, 139, 12), (0, 253, 2), (14, 14), [2119, 2120, 2121]), ((14, 142, 12), (0, 254, 1), (14, 14), [2123, 2124, 2125]), ((14, 145, 12), (0, 255, 1), (14, 14), [2127, 2128, 2129]), ((14, 149, 12), (0, 256, 0), (14, 14), [2131, 2132, 2133]), ((14, 152, 12), (0, 257, 1), (14, 14), [2135, 2136, 2137]), ((14, 155, 12), (0, 258, 2), (14, 14), [2139, 2140, 2141]), ((14, 158, 12), (0, 259, 2), (14, 14), [2143, 2144, 2145])]
def ma_clh_36 : List ((Nat × Nat × Nat) × (Nat × Nat × Nat) × (Nat × Nat) × List Nat) := [((14, 161, 12), (0, 260, 1), (14, 14), [2147, 2148, 2149])]
def ma_clh_37 : List ((Nat × Nat × Nat) × (Nat × Nat × Nat) × (Nat × Nat) × List Nat) := [((17, 335, 17), (0, 278, 0), (17, 17), [385, 386, 387]), ((17, 492, 17), (0, 280, 0), (17, 17), [395, 396, 397]), ((17, 495, 0), (5, 282, 2), (17, 17), [399, 400]), ((17, 1059, 0), (5, 283, 3), (17, 17), [407, 408])]
def ma_clh_38 : List ((Nat × Nat × Nat) × (Nat × Nat × Nat) × (Nat × Nat) × List Nat) := [((18, 9, 0), (5, 281, 2), (18, 18), [402, 403])]
def ma_clk : List ((Nat × Nat × Nat) × List ((Nat × Nat × Nat) × (Nat × Nat × Nat) × (Nat × Nat) × List Nat)) := [((1, 3, 103), ma_clh_0), ((1, 107, 160), ma_clh_1), ((2, 3, 61), ma_clh_2), ((3, 3, 57), ma_clh_3), ((4, 3, 86), ma_clh_4), ((4, 89, 127), ma_clh_5), ((5, 3, 33), ma_clh_6), ((6, 3, 82), ma_clh_7), ((6, 86, 100), ma_clh_8), ((7, 30, 144), ma_clh_9), ((8, 3, 43), ma_clh_10), ((8, 43, 63), ma_clh_11), ((9, 26, 26), ma_clh_12), ((10, 22, 92), ma_clh_13), ((11, 25, 102), ma_clh_14), ((11, 102, 113), ma_clh_15), ((11, 119, 149), ma_clh_16), ((11, 153, 157), ma_clh_17), ((11, 161, 185), ma_clh_18), ((11, 185, 210), ma_clh_19), ((11, 226, 229), ma_clh_20), ((11, 232, 265), ma_clh_21), ((11, 265, 272), ma_clh_22), ((11, 272, 331), ma_clh_23), ((11, 340, 376), ma_clh_24), ((11, 376, 379), ma_clh_25), ((12, 110, 298), ma_clh_26), ((12, 301, 342), ma_clh_27), ((12, 346, 399), ma_clh_28), ((12, 402, 445), ma_clh_29), ((12, 448, 487), ma_clh_30), ((12, 490, 505), ma_clh_31), ((13, 19, 47), ma_clh_32), ((14, 7, 66), ma_clh_33), ((14, 69, 113), ma_clh_34), ((14, 117, 158), ma_clh_35), ((14, 161, 161), ma_clh_36), ((17, 335, 1059), ma_clh_37), ((18, 9, 9), ma_clh_38)]
set_option maxRecDepth 20000 in
theorem ma_clh_ok0 : ma_clh_0.all ma_clc = true := by decide +kernel
set_option maxRecDepth 20000 in
theorem ma_clh_ok1 : ma_clh_1.all ma_clc = true := by decide +kernel
set_option maxRecDepth 20000 in
theorem ma_clh_ok2 : ma_clh_2.all ma_clc = true := by decide +kernel
set_option maxRecDepth 20000 in
theorem ma_clh_ok3 : ma_clh_3.all ma_clc = true := by decide +kernel
set_option maxRecDepth 20000 in
theorem ma_clh_ok4 : ma_clh_4.all ma_clc = true := by decide +kernel
set_option maxRecDepth 20000 in
theorem ma_clh_ok5 : ma_clh_5.all ma_clc = true := by decide +kernel
set_option maxRecDepth 20000 in
theorem ma_clh_ok6 : ma_clh_6.all ma_clc = true := by decide +kernel
set_option maxRecDepth 20000 in
theorem ma_clh_ok7 : ma_clh_7.all ma_clc = true := by decide +kernel
set_option maxRecDepth 20000 in
theorem ma_clh_ok8 : ma_clh_8.all ma_clc = true := by decide +kernel
set_option maxRecDepth 20000 in
theorem ma_clh_ok9 : ma_clh_9.all ma_clc = true := by decide +kernel
set_option maxRecDepth 20000 in
theorem ma_clh_ok10 : ma_clh_10.all ma_clc = true := by decide +kernel
set_option maxRecDepth 20000 in
theorem ma_clh_ok11 : ma_clh_11.all ma_clc = true := by decide +kernel
set_option maxRecDepth 20000 in
theorem ma_clh_ok12 : ma_clh_12.all ma_clc = true := by decide +kernel
set_option maxRecDepth 20000 in
theorem ma_clh_ok13 : ma_clh_13.all ma_clc = true := by decide +kernel
set_option maxRecDepth 20000 in
theorem ma_clh_ok14 : ma_clh_14.all ma_clc = true := by decide +kernel
set_option maxRecDepth 20000 in
theorem ma_clh_ok15 : ma_clh_15.all ma_clc = true := by decide +kernel
set_option maxRecDepth 20000 in
theorem ma_clh_ok16 : ma_clh_16.all ma_clc = true := by decide +kernel
set_option maxRecDepth 20000 in
theorem ma_clh_ok17 : ma_clh_17.all ma_clc = true := by decide +kernel
set_option maxRecDepth 20000 in
theorem ma_clh_ok18 : ma_clh_18.all ma_clc = true := by decide +kernel
set_option maxRecDepth 20000 in
theorem ma_clh_ok19 : ma_clh_19.all ma_clc = true := by decide +kernel
set_option maxRecDepth 20000 in
theorem ma_clh_ok20 : ma_clh_20.all ma_clc = true := by decide +kernel
set_option maxRecDepth 20000 in
theorem ma_clh_ok21 : ma_clh_21.all ma_clc = true := by decide +kernel
set_option maxRecDepth 20000 in
theorem ma_clh_ok22 : ma_clh_22.all ma_clc = true := by decide +kernel
set_option maxRecDepth 20000 in
theorem ma_clh_ok23 : ma_clh_23.all ma_clc = true := by decide +kernel
set_option maxRecDepth 20000 in
theorem ma_clh_ok24 : ma_clh_24.all ma_clc = true := by decide +kernel
set_option maxRecDepth 20000 in
theorem ma_clh_ok25 : ma_clh_25.all ma_clc = true := by decide +kernel
set_option maxRecDepth 20000 in
theorem ma_clh_ok26 : ma_clh_26.all ma_clc = true := by decide +kernel
set_option maxRecDepth 20000 in
theorem ma_clh_ok27 : ma_clh_27.all ma_clc = true := by decide +kernel
set_option maxRecDepth 20000 in
theorem ma_clh_ok28 : ma_clh_28.all ma_clc = true := by decide +kernel
set_option maxRecDepth 20000 in
theorem ma_clh_ok29 : ma_clh_29.all ma_clc = true := by decide +kernel
set_option maxRecDepth 20000 in
theorem ma_clh_ok30 : ma_clh_30.all ma_clc = true := by decide +kernel
set_option maxRecDepth 20000 in
theorem ma_clh_ok31 : ma_clh_31.all ma_clc = true := by decide +kernel
set_option maxRecDepth 20000 in
theorem ma_clh_ok32 : ma_clh_32.all ma_clc = true := by decide +kernel
set_option maxRecDepth 20000 in
theorem ma_clh_ok33 : ma_clh_33.all ma_clc = true := by decide +kernel
set_option maxRecDepth 20000 in
theorem ma_clh_ok34 : ma_clh_34.all ma_clc = true := by decide +kernel
set_option maxRecDepth 20000 in
theorem ma_clh_ok35 : ma_clh_35.all ma_clc = true := by decide +kernel
set_option maxRecDepth 20000 in
theorem ma_clh_ok36 : ma_clh_36.all ma_clc = true := by decide +kernel
set_option maxRecDepth 20000 in
theorem ma_clh_ok37 : ma_clh_37.all ma_clc = true := by decide +kernel
set_option maxRecDepth 20000 in
theorem ma_clh_ok38 : ma_clh_38.all ma_clc = true := by decide +kernel
theorem ma_clk_ok : ma_clk.all (fun c => c.2.all ma_clc) = true := by
  simp only [ma_clk, List.all_cons, List.all_nil, ma_clh_ok0, ma_clh_ok1, ma_clh_ok2, ma_clh_ok3, ma_clh_ok4, ma_clh_ok5, ma_clh_ok6, ma_clh_ok7, ma_clh_ok8, ma_clh_ok9, ma_clh_ok10, ma_clh_ok11, ma_clh_ok12, ma_clh_ok13, ma_clh_ok14, ma_clh_ok15, ma_clh_ok16, ma_clh_ok17, ma_clh_ok18, ma_clh_ok19, ma_clh_ok20, ma_clh_ok21, ma_clh_ok22, ma_clh_ok23, ma_clh_ok24, ma_clh_ok25, ma_clh_ok26, ma_clh_ok27, ma_clh_ok28, ma_clh_ok29, ma_clh_ok30, ma_clh_ok31, ma_clh_ok32, ma_clh_ok33, ma_clh_ok34, ma_clh_ok35, ma_clh_ok36, ma_clh_ok37, ma_clh_ok38, Bool.and_self]
theorem ma_clh_ok {o x : Nat} : ∀ q ∈ kh_cs o x ma_clk, ma_clc q = true := kh_ok _ ma_clk_ok

/-! from 50.contract -/
/-! THE SMALL MACHINE, part 6: what lies outside the world; a method's contract; behind a call -/
/-- the constant texts: class, pool entry, text, number -/
def ma_txr : List (String × Nat × String × Nat) := [("CollectorHouse", 301, "sweep", 0), ("CollectorHouse", 307, "slide", 1), ("CollectorHouse", 309, "halves", 2), ("CollectorHouse", 311, "ages", 3), ("CollectorHouse", 313, "counts", 4), ("CollectorHouse", 315, "steps", 5), ("CollectorHouse", 317, "regions", 6), ("CollectorHouse", 319, "rf", 7), ("CollectorHouse", 321, "\x72", 8), ("CollectorHouse", 323, "rrac", 9), ("CollectorHouse", 325, "rftb", 10), ("CollectorHouse", 327, "rzs", 11), ("CollectorHouse", 329, "", 12), ("CollectorHouse", 346, "first", 13), ("CollectorHouse", 348, "next", 14), ("CollectorHouse", 350, "best", 15), ("CollectorHouse", 352, "worst", 16), ("CollectorHouse", 354, "picture", 17), ("CollectorHouse", 356, "news", 18)]
def ma_txl : List Nat := [5, 5, 6, 4, 6, 5, 7, 2, 1, 4, 4, 3, 0, 5, 4, 4, 5, 7, 4]
def ma_txb : List (List Int32) := [[115, 119, 101, 101, 112], [115, 108, 105, 100, 101], [104, 97, 108, 118, 101, 115], [97, 103, 101, 115], [99, 111, 117, 110, 116, 115], [115, 116, 101, 112, 115], [114, 101, 103, 105, 111, 110, 115], [114, 102], [114], [114, 114, 97, 99], [114, 102, 116, 98], [114, 122, 115], [], [102, 105, 114, 115, 116], [110, 101, 120, 116], [98, 101, 115, 116], [119, 111, 114, 115, 116], [112, 105, 99, 116, 117, 114, 101], [110, 101, 119, 115]]
/-- the static of which only 'a reference or null₉ is said: behind the script's end X says which -/
def ma_fm (X : Nat × (Nat → Int32)) : Option Nat := if X.2 X.1 = 0 then none else some 29
def ma_Xt (X : Nat × (Nat → Int32)) (ad : Nat → Nat) (A : Nat → Prop) (U : State) (H : Heap) : Prop :=
  (vx_Zq Bundle.tN "UNASSIGNED_STACK" Bundle.steD A U H ∧ vx_Zq Bundle.tN "SUPPRESSED_SENTINEL" Bundle.listD A U H) ∧ (va_X (ad 30) X.1 X.2 U H ∧ ¬ A (ad 30) ∧ ad 30 < H.size) ∧
  (vk_S 19 ma_txl ma_txb ad (fun i => ad (32 + i)) A U H ∧ (∀ q ∈ ma_txr, vk_R q.1 q.2.1 q.2.2.1 (ad q.2.2.2) U) ∧ va_Z "java/lang/String" "COMPACT_STRINGS" "Z" (.int 1) A U H ∧ va_Z "jdk/internal/util/Preconditions" "SIOOBE_FORMATTER" "Ljava/util/function/BiFunction;" (va_rf ((ma_fm X).map ad)) A U H)
theorem ma_Xt.warm {X : Nat × (Nat → Int32)} {ad : Nat → Nat} {A : Nat → Prop} {s U : State} {H : Heap} (hW : s.WarmedH U.vm) (h : ma_Xt X ad A s H) : ma_Xt X ad A U H := by
  obtain ⟨⟨h1, h2⟩, ⟨h3, h4⟩, h5, h6, h7, h9⟩ := h
  exact ⟨⟨vx_Zq.moved hW.alike h1, vx_Zq.moved hW.alike h2⟩, ⟨va_X.moved hW.alike h3, h4⟩, vk_S.moved hW.alike h5, fun q hq => vk_R.warm hW (h6 q hq), va_Z.moved hW.alike h7, va_Z.moved hW.alike h9⟩
theorem ma_Xt.calling {X : Nat × (Nat → Int32)} {ad : Nat → Nat} {A : Nat → Prop} {s : State} {H : Heap} (g : JFrame) (mk : MethodId) (a : Array Value) (h : ma_Xt X ad A s H) : ma_Xt X ad A (s.calling g mk a) H := by
  obtain ⟨⟨h1, h2⟩, ⟨h3, h4⟩, h5, h6, h7, h9⟩ := h
  have hv : s.vm.Alike (s.calling g mk a).vm := Vm.Alike.refl s.vm
  exact ⟨⟨vx_Zq.moved hv h1, vx_Zq.moved hv h2⟩, ⟨va_X.moved hv h3, h4⟩, vk_S.moved hv h5, fun q hq => vk_R.same rfl (h6 q hq), va_Z.moved hv h7, va_Z.moved hv h9⟩
theorem ma_Xt.kept {X : Nat × (Nat → Int32)} {ad : Nat → Nat} {A : Nat → Prop} {U : State} {H H1 : Heap} (h : ma_Xt X ad A U H) (hz : H.size ≤ H1.size) (hq : ∀ a : Nat, a < H.size → ¬ A a → H1[a]? = H[a]?) : ma_Xt X ad A U H1 := by
  obtain ⟨⟨h1, h2⟩, ⟨h3, h4, h8⟩, h5, h6, h7, h9⟩ := h
  exact ⟨⟨vx_Zq.kept h1 hq, vx_Zq.kept h2 hq⟩, ⟨va_X.kept h3 (hq _ h8 h4), h4, Nat.lt_of_lt_of_le h8 hz⟩, vk_S.kept h5 hq, h6, va_Z.kept h7 hq, va_Z.kept h9 hq⟩
theorem ma_Xt.narrow {X : Nat × (Nat → Int32)} {ad : Nat → Nat} {A B : Nat → Prop} {U : State} {H : Heap} (h : ma_Xt X ad A U H) (hAB : ∀ q, B q → A q) : ma_Xt X ad B U H := by
  obtain ⟨⟨h1, h2⟩, ⟨h3, h4, h8⟩, h5, h6, h7, h9⟩ := h
  exact ⟨⟨vx_Zq.narrow h1 hAB, vx_Zq.narrow h2 hAB⟩, ⟨h3, fun z => h4 (hAB _ z), h8⟩, vk_S.narrow h5 hAB, h6, va_Z.narrow h7 hAB, va_Z.narrow h9 hAB⟩
theorem ma_Xt.ad {X : Nat × (Nat → Int32)} {ad ad₉ : Nat → Nat} {A : Nat → Prop} {U : State} {H : Heap} (h : ma_Xt X ad A U H) (ha : ∀ b, b < 64 → ad₉ b = ad b) : ma_Xt X ad₉ A U H := by
  obtain ⟨⟨h1, h2⟩, ⟨h3, h4, h8⟩, h5, h6, h7, h9⟩ := h
  have hlt : ∀ q ∈ ma_txr, q.2.2.2 < 64 := by decide +kernel
  refine ⟨⟨h1, h2⟩, ⟨by rw [ha 30 (by omega)]; exact h3, by rw [ha 30 (by omega)]; exact h4, by rw [ha 30 (by omega)]; exact h8⟩, ?_, fun q hq => by rw [ha _ (hlt q hq)]; exact h6 q hq, h7, ?_⟩
  rotate_left
  · have : (ma_fm X).map ad₉ = (ma_fm X).map ad := by
      unfold ma_fm
      split
      · rfl
      · show some (ad₉ 29) = some (ad 29); rw [ha 29 (by omega)]
    rw [this]; exact h9
  refine ⟨fun i hi => ?_, fun i j hi hj => ?_⟩
  · have := h5.1 i hi
    simp only [ha i (by omega), ha (32 + i) (by omega)]
    exact this
  · rw [ha i (by omega), ha j (by omega)]; exact h5.2 i j hi hj
/-- a method's start: its arguments, the world, what lies outside -/
def ma_Pc (X : Nat × (Nat → Int32)) (D : va_G) (kA : Nat → ClassId) (ad : Nat → Nat) (S : ma_S) (as : List ma_V) (sz : Nat) : Array Value → State → Prop :=
  va_Pc (ma_ts ad as) (fun U => U.heap.size = sz ∧ va_P D vwCl (ma_wl kA ad S) U.heap ∧ va_K D vwCl (ma_tys kA) U ∧ va_D (fun _ => True) (ma_wl kA ad S) ∧ ma_Nx U ∧ ma_Xt X ad (va_A (ma_wl kA ad S) sz) U U.heap)
/-- the world behind -/
def ma_B (D : va_G) (kA : Nat → ClassId) (ad : Nat → Nat) (S S₉ : ma_S) (st t : State) (ad₉ : Nat → Nat) : Prop :=
  (∀ b, b < mN S → ad₉ b = ad b) ∧ va_P D vwCl (ma_wl kA ad₉ S₉) t.heap ∧ va_D (va_A (ma_wl kA ad S) st.heap.size) (ma_wl kA ad₉ S₉) ∧ va_F (va_A (ma_wl kA ad S) st.heap.size) st t
def ma_Qc (D : va_G) (kA : Nat → ClassId) (ad : Nat → Nat) (S S₉ : ma_S) (v : Option ma_V) : Array Value → State → Outcome → State → Prop := fun _ st oc t =>
  ∃ ad₉ : Nat → Nat, oc = .returned (v.map (ma_tv ad₉)) ∧ ma_B D kA ad S S₉ st t ad₉
def ma_Qx (D : va_G) (kA : Nat → ClassId) (ad : Nat → Nat) (S S₉ : ma_S) (E : String) : String → State → State → Prop := fun E₉ st t => E₉ = E ∧ ∃ ad₉ : Nat → Nat, ma_B D kA ad S S₉ st t ad₉
theorem ma_Pc_blind {X : Nat × (Nat → Int32)} {D : va_G} {kA : Nat → ClassId} {ad : Nat → Nat} {S : ma_S} {as : List ma_V} {sz : Nat} : FrameBlind (ma_Pc X D kA ad S as sz) := by
  intro a U g mk h
  obtain ⟨h1, h2, h3, h4, h5, h6, h7⟩ := h
  exact ⟨h1, h2, h3, va_K.moved (u := U) (U := U.calling g mk a) (Vm.Alike.refl U.vm) h4, h5, h6.calling g mk a, h7.calling g mk a⟩
section MA6
variable {p : Program} {l : Launch} {e : Env} {R : Room} {s : State} {m : MethodId} {args : Array Value} {below : List Frame} {meth : Method} {c : Code} {H H0 : Heap} {locs : List Loc} {cells slots : Nat} {Q : State → Prop} {pc : Nat} {ls : Array Slot} {rest st0 : List Value} {mc ms : Nat} {a : Array Value} {free : Addr → Prop} {A : Nat → Prop} {X : Nat × (Nat → Int32)} {D : va_G} {kA : Nat → ClassId} {ad : Nat → Nat} {S S₉ : ma_S} {v : Option ma_V}
theorem ma_free (hD : va_D A (ma_wl kA ad S)) (hS : va_S A H0 H locs) (hA : ∀ q, H0.size ≤ q → A q) : ∀ q, va_A (ma_wl kA ad S) H.size q → A q := by
  intro q h
  rcases h with ⟨k, e, h⟩ | h
  · exact hD.2 k (q, e) h
  · exact hA q (Nat.le_trans hS.1 h)
theorem ma_behind {st₀ t T₉ : State} {L : List Loc} {ad₉ : Nat → Nat} (h0 : st₀.heap = H) (e1 : T₉.heap = t.heap) (hB : ma_B D kA ad S S₉ st₀ t ad₉) (hS : va_S A H0 H locs) (hF : ∀ q, va_A (ma_wl kA ad S) H.size q → A q) (hL : ∀ q ∈ L, va_A (ma_wl kA ad S) H.size q.base) :
    (∀ b, b < mN S → ad₉ b = ad b) ∧ va_P D vwCl (ma_wl kA ad₉ S₉) T₉.heap ∧ va_D A (ma_wl kA ad₉ S₉) ∧ va_S A H0 T₉.heap (locs ++ L) := by
  obtain ⟨b1, b2, b3, b4, b5⟩ := hB
  rw [h0] at b3 b4 b5
  refine ⟨b1, by rw [e1]; exact b2, b3.weaken (fun k q _ h => hF q.1 h), Nat.le_trans hS.1 (by rw [e1]; exact b4), fun q h1 h2 => ?_, fun q hq => ?_⟩
  · rw [e1, b5 q (Nat.lt_of_lt_of_le h1 hS.1) (fun z => h2 (hF q z))]
    exact hS.2.1 q h1 h2
  · rcases List.mem_append.mp hq with h | h
    · exact hS.2.2 q h
    · exact hF _ (hL q h)
/-- behind a call that comes back -/
theorem ma_called (hr : va_Run p l e R s m args below meth c H locs cells slots mc ms (F0 m pc ls st0) rest (ma_Qc D kA ad S S₉ v a) (va_A (ma_wl kA ad S) H.size)) (hD : va_D A (ma_wl kA ad S)) (hS : va_S A H0 H locs) (hA : ∀ q, H0.size ≤ q → A q)
    (kk : ∀ (ad₉ : Nat → Nat) (H1 : Heap) (locs1 : List Loc), (∀ b, b < mN S → ad₉ b = ad b) → va_P D vwCl (ma_wl kA ad₉ S₉) H1 → va_D A (ma_wl kA ad₉ S₉) → va_S A H0 H1 locs1 → W p l e R s m args below meth c H1 locs1 (cells + mc) (slots + ms) Q (F0 m (pc + 3) ls ((v.map (ma_tv ad₉)).toList ++ rest))) : W p l e R s m args below meth c H locs cells slots Q (F0 m pc ls st0) := by
  intro T hT X₉
  obtain ⟨w, st₀, t, T₉, L, h0, X₉, hL, e1, e2, ⟨ad₉, hv, hB⟩, st⟩ := hr T hT X₉
  cases hv
  obtain ⟨b1, b2, b3, b4⟩ := ma_behind h0 e1 hB hS (ma_free hD hS hA) hL
  obtain ⟨t2, a1, a2⟩ := kk ad₉ T₉.heap (locs ++ L) b1 b2 b3 b4 T₉ rfl X₉
  exact ⟨t2, st t2 a1, a2⟩
/-- behind a call that throws -/
theorem ma_threw {E : String} (hr : vx_Run p l e R s m args below meth c H locs cells slots mc ms (F0 m pc ls st0) rest (fun _ _ _ => False) (ma_Qx D kA ad S S₉ E) (va_A (ma_wl kA ad S) H.size)) (hD : va_D A (ma_wl kA ad S)) (hS : va_S A H0 H locs) (hA : ∀ q, H0.size ≤ q → A q)
    (kk : ∀ (ad₉ : Nat → Nat) (H1 : Heap) (locs1 : List Loc) (q : Addr) (ce : Cell), (∀ b, b < mN S → ad₉ b = ad b) → va_P D vwCl (ma_wl kA ad₉ S₉) H1 → va_D A (ma_wl kA ad₉ S₉) → va_S A H0 H1 locs1 → H1[q]? = some ce → ce.vm = .none → s.vm.findClass E = some ce.cls → vx_W p l e R s m args below meth c H1 locs1 (cells + mc) (slots + ms) Q (F0 m pc ls rest) q) : W p l e R s m args below meth c H locs cells slots Q (F0 m pc ls st0) := by
  intro T hT X₉
  rcases hr T hT X₉ with ⟨_, _, _, _, _, _, _, _, _, _, hf, _⟩ | ⟨q, st₀, t, T₉, L, E₉, ce, h0, X₉, hL, e1, e2, ⟨rfl, ad₉, hB⟩, hce, hcv, hcl, st⟩
  · exact hf.elim
  · obtain ⟨b1, b2, b3, b4⟩ := ma_behind h0 e1 hB hS (ma_free hD hS hA) hL
    obtain ⟨t2, a1, a2⟩ := kk ad₉ T₉.heap (locs ++ L) q ce b1 b2 b3 b4 (by rw [e1]; exact hce) hcv hcl T₉ rfl X₉
    exact ⟨t2, st.trans a1, a2⟩
end MA6

/-! from 52.text -/
/-! THE SMALL MACHINE, part 6b: constant texts, as the library's own methods read them -/
def ma_txi (o i : Nat) : Option Nat := if o = 11 then (ma_txr.find? (fun q => q.2.1 == i)).map (fun q => q.2.2.2) else none
theorem ma_txr_own : ∀ q ∈ ma_txr, q.1 = "CollectorHouse" ∧ q.2.2.2 < 19 := by decide +kernel
theorem ma_tw0 : Cond.fieldLink "java/lang/String" 9 "java/lang/String" "value" "[B" ∈ ma_TB := ma_T10 (i := 14) (by decide +kernel) (by decide +kernel)
theorem ma_tw1 : Cond.fieldLink "java/lang/String" 15 "java/lang/String" "coder" "B" ∈ ma_TB := ma_T10 (i := 15) (by decide +kernel) (by decide +kernel)
theorem ma_tw2 : Cond.fieldLink "java/lang/String" 38 "java/lang/String" "COMPACT_STRINGS" "Z" ∈ ma_TB := ma_T2 (i := 149) (by decide +kernel) (by decide +kernel)
theorem ma_tw3 : Cond.fieldLink "java/lang/String" 1053 "jdk/internal/util/Preconditions" "SIOOBE_FORMATTER" "Ljava/util/function/BiFunction;" ∈ ma_TB := ma_T2 (i := 165) (by decide +kernel) (by decide +kernel)
def ma_tx (X : Nat × (Nat → Int32)) (o : Nat) (i : Instr) (n : Nat) (st : List ma_V) : Option (List ma_V) := match i, n, st with
  | .ldc_w x, 3, r => (ma_txi o x).map (fun t => .inr (.inr (some t)) :: r)
  | .getfield x, 3, .inr (.inr (some c)) :: r => if o = 17 ∧ c < 19 then (if x = 9 then some (.inr (.inr (some (32 + c))) :: r) else if x = 15 then some (.inl 0 :: r) else none) else none
  | .getstatic x, 3, r => if o = 17 ∧ x = 38 then some (.inl 1 :: r) else if o = 17 ∧ x = 1053 then some (.inr (.inr (ma_fm X)) :: r) else none
  | .arraylength, 1, .inr (.inr (some c)) :: r => if 32 ≤ c ∧ c < 32 + 19 then some (.inl (Int32.ofNat (ma_txl.getD (c - 32) 0)) :: r) else none
  | .baload, 1, .inl j :: .inr (.inr (some c)) :: r => if 32 ≤ c ∧ c < 32 + 19 ∧ 0 ≤ j ∧ j.toNatClampNeg < ma_txl.getD (c - 32) 0 then some (.inl ((ma_txb.getD (c - 32) []).getD j.toNatClampNeg 0) :: r) else none
  | _, _, _ => none
theorem ma_tx_cs {X : Nat × (Nat → Int32)} {N o n : Nat} {i : Instr} {st st₉ : List ma_V} (hN : 64 ≤ N) (hc : ma_cs N st) (h : ma_tx X o i n st = some st₉) : ma_cs N st₉ := by
  unfold ma_tx at h
  split at h
  · next r x =>
    cases ht : ma_txi o x with
    | none => rw [ht] at h; cases h
    | some t =>
      rw [ht] at h
      cases h
      unfold ma_txi at ht
      split at ht
      · cases hf : ma_txr.find? (fun q => q.2.1 == x) with
        | none => rw [hf] at ht; cases ht
        | some q =>
          rw [hf] at ht
          have hk : q.2.2.2 = t := Option.some.inj ht
          have := (ma_txr_own q (List.mem_of_find?_eq_some hf)).2
          exact ma_cs_cons (fun b hb => by cases hb; omega) hc
      · cases ht
  · split at h
    · next hcc =>
      split at h
      · cases h; exact ma_cs_cons (fun b hb => by cases hb; omega) (ma_cs_tl hc)
      · split at h
        · cases h; exact ma_cs_cons ma_cv_i (ma_cs_tl hc)
        · cases h
    · cases h
  · split at h
    · cases h; exact ma_cs_cons ma_cv_i hc
    · split at h
      · cases h
        refine ma_cs_cons (fun b hb => ?_) hc
        have hb : ma_fm X = some b := Sum.inr.inj (Sum.inr.inj hb)
        unfold ma_fm at hb
        split at hb
        · cases hb
        · cases hb; omega
      · cases h
  · split at h
    · cases h; exact ma_cs_cons ma_cv_i (ma_cs_tl hc)
    · cases h
  · split at h
    · cases h; exact ma_cs_cons ma_cv_i (ma_cs_tl (ma_cs_tl hc))
    · cases h
  · cases h
section MA6b
variable {p : Program} {l : Launch} {e : Env} {R : Room} {s : State} {m : MethodId} {args : Array Value} {below : List Frame} {meth : Method} {c : Code} {H : Heap} {locs : List Loc} {cells slots : Nat} {Q : State → Prop} {cc : ByteArray} {pc : Nat} {ls : Array Slot} {ad : Nat → Nat} {A : Nat → Prop}
theorem ma_tx_ok (hx : p.tables.exec = Jvm.exec) (hb : c.code = cc) {X : Nat × (Nat → Int32)} {o n : Nat} {i : Instr} {st st₉ : List ma_V} (hown : s.vm.findClass (ma_cn o) = some m.cls) (hts : ∀ w ∈ ma_TB, w.before args s = true)
    (hT : vk_S 19 ma_txl ma_txb ad (fun i => ad (32 + i)) A s s.heap ∧ (∀ q ∈ ma_txr, vk_R q.1 q.2.1 q.2.2.1 (ad q.2.2.2) s) ∧ va_Z "java/lang/String" "COMPACT_STRINGS" "Z" (.int 1) A s s.heap ∧ va_Z "jdk/internal/util/Preconditions" "SIOOBE_FORMATTER" "Ljava/util/function/BiFunction;" (va_rf ((ma_fm X).map ad)) A s s.heap) (hS : va_S A s.heap H locs) (hd : decode cc pc = .ok (i, n)) (h : ma_tx X o i n st = some st₉)
    (k : W p l e R s m args below meth c H locs cells slots Q (F0 m (pc + n) ls (ma_ts ad st₉))) : W p l e R s m args below meth c H locs cells slots Q (F0 m pc ls (ma_ts ad st)) := by
  obtain ⟨hT1, hT2, hT3, hT4⟩ := hT
  unfold ma_tx at h
  split at h
  · next r x =>
    cases ht : ma_txi o x with
    | none => rw [ht] at h; cases h
    | some t =>
      rw [ht] at h
      cases h
      unfold ma_txi at ht
      split at ht
      · next ho =>
        cases hf : ma_txr.find? (fun q => q.2.1 == x) with
        | none => rw [hf] at ht; cases ht
        | some q =>
          rw [hf] at ht
          have hk : q.2.2.2 = t := Option.some.inj ht
          have hq := List.mem_of_find?_eq_some hf
          have hxi : q.2.1 = x := by have := List.find?_some hf; simpa using this
          have hR := hT2 q hq
          rw [(ma_txr_own q hq).1, hxi, hk] at hR
          subst ho
          intro T hTh X₉
          obtain ⟨t2, a1, b1⟩ := k T hTh X₉
          exact ⟨t2, Jvm.RoadKit.ldcWS X₉ hx (own := "CollectorHouse") hown (text := q.2.2.1) (a := ad t) hR.1 hR.2 (g := F0 m pc ls (ma_ts ad st)) rfl (by rw [hb]; exact hd) t2 a1, b1⟩
      · cases ht
  · next x cx r =>
    split at h
    · next hcc =>
      obtain ⟨ho, hcx⟩ := hcc
      subst ho
      obtain ⟨g1, g2, g3, g4⟩ := hT1.1 cx hcx
      split at h
      · next hxx =>
        subst hxx
        cases h
        exact vk_getf hx hb g3 hS hown (hts _ ma_tw0) (fun _ z => z) hd k
      · split at h
        · next hxx =>
          subst hxx
          cases h
          exact vk_getf hx hb g2 hS hown (hts _ ma_tw1) (fun _ z => z) hd k
        · cases h
    · cases h
  · next r x =>
    split at h
    · next hcc =>
      obtain ⟨ho, hxx⟩ := hcc
      subst ho
      subst hxx
      cases h
      exact va_gets hx hb hT3 hS hown (hts _ ma_tw2) (fun _ z => z) hd k
    · split at h
      · next hcc =>
        obtain ⟨ho, hxx⟩ := hcc
        subst ho
        subst hxx
        cases h
        exact va_gets hx hb hT4 hS hown (hts _ ma_tw3) (fun _ z => z) hd k
      · cases h
  · next cx r =>
    split at h
    · next hcc =>
      cases h
      obtain ⟨g1, g2, g3, g4⟩ := hT1.1 (cx - 32) (by omega)
      have e1 : 32 + (cx - 32) = cx := by omega
      simp only [e1] at g4
      exact va_tlen hx hb g4 hS rfl hd k
    · cases h
  · next j cx r =>
    split at h
    · next hcc =>
      cases h
      obtain ⟨g1, g2, g3, g4⟩ := hT1.1 (cx - 32) (by omega)
      have e1 : 32 + (cx - 32) = cx := by omega
      simp only [e1] at g4
      exact va_tb hx hb g4 hS (fun q => by rcases q with q | q; exact absurd hcc.2.2.1 (Int32.not_le.mpr q); omega) rfl hd k
    · cases h
  · cases h
end MA6b

/-! from 55.one -/
/-! THE SMALL MACHINE, part 7: the script, the library's own few, and one step of any kind but a call -/
def ma_sz (st : List ma_V) : Nat := (st.map (fun v => if ma_2 v then 2 else 1)).sum
theorem ma_sz_ts (ad : Nat → Nat) (st : List ma_V) : ((ma_ts ad st).map fun v => v.category).sum = ma_sz st := by
  unfold ma_ts ma_sz
  rw [List.map_map]
  congr 1
  apply List.map_congr_left
  intro v _
  exact ma_cat ad v
def ma_sc (X : Nat × (Nat → Int32)) (i : Instr) (n : Nat) (st : List ma_V) : Option (List ma_V) := match i, n, st with
  | .iaload, 1, .inl j :: .inr (.inr (some 30)) :: r => if decide (0 ≤ j) && decide (j.toNatClampNeg < X.1) then some (.inl (X.2 j.toNatClampNeg) :: r) else none
  | .arraylength, 1, .inr (.inr (some 30)) :: r => some (.inl (Int32.ofNat X.1) :: r)
  | _, _, _ => none
/-- pool entries that name Object's constructor (0), Math.max (1), Math.min (2), System.arraycopy (3) -/
def ma_prh : List ((Nat × Nat × Nat) × Nat) := [((11, 3, 0), 35), ((11, 335, 2), 452), ((13, 3, 0), 144), ((4, 22, 2), 492), ((7, 3, 0), 43), ((7, 116, 1), 761), ((7, 122, 3), 764), ((9, 1, 0), 1016), ((10, 3, 0), 110), ((12, 7, 0), 1512)]
def ma_prn (k : Nat) : MethodName := match k with
  | 0 => Lib.objectInit
  | 1 => Lib.Math.max.name
  | 2 => Lib.Math.min.name
  | _ => arraycopyName
theorem ma_prh_ok : ∀ q ∈ ma_prh, ma_w q.2 (.methodLink (ma_cn q.1.1) q.1.2.1 (ma_prn q.1.2.2)) = true := List.all_eq_true.mp (by decide +kernel)
def ma_prt (o i : Nat) : Option Nat := (ma_prh.find? (fun q => q.1.1 == o && q.1.2.1 == i)).map (fun q => q.1.2.2)
theorem ma_prt_spec {o i k : Nat} (h : ma_prt o i = some k) : Cond.methodLink (ma_cn o) i (ma_prn k) ∈ ma_TB := by
  unfold ma_prt at h
  cases hf : ma_prh.find? (fun q => q.1.1 == o && q.1.2.1 == i) with
  | none => rw [hf] at h; cases h
  | some q =>
    rw [hf] at h
    have hk : q.1.2.2 = k := Option.some.inj h
    have h1 := List.find?_some hf
    simp only [Bool.and_eq_true, beq_iff_eq] at h1
    have h2 := ma_prh_ok q (List.mem_of_find?_eq_some hf)
    rw [hk, h1.1, h1.2] at h2
    exact ma_w_in h2
theorem ma_pw0 : Cond.instanceMethod Lib.objectInit ∈ ma_TB := ma_T1 (i := 36) (by decide +kernel) (by decide +kernel)
theorem ma_pw1 : Cond.code Lib.objectInit ⟨#[0xb1]⟩ 1 none ∈ ma_TB := ma_T1 (i := 37) rfl rfl
theorem ma_pw2 : Cond.native arraycopyName ∈ ma_TB := ma_T4 (i := 46) (by decide +kernel) (by decide +kernel)
theorem ma_pw3 : Cond.static arraycopyName ∈ ma_TB := ma_T4 (i := 45) (by decide +kernel) (by decide +kernel)
theorem ma_pw4 : Cond.initialized "java/lang/System" ∈ ma_TB := ma_T1 (i := 25) (by decide +kernel) (by decide +kernel)
theorem ma_pw5 : Cond.static Lib.Math.max.name ∈ ma_TB := ma_T4 (i := 42) (by decide +kernel) (by decide +kernel)
theorem ma_pw6 : Cond.initialized "java/lang/Math" ∈ ma_TB := ma_T1 (i := 23) (by decide +kernel) (by decide +kernel)
theorem ma_pw7 : Cond.code Lib.Math.max.name Lib.Math.max.code 2 (some .int) ∈ ma_TB := ma_T4 (i := 43) rfl rfl
theorem ma_pw8 : Cond.static Lib.Math.min.name ∈ ma_TB := ma_T2 (i := 213) (by decide +kernel) (by decide +kernel)
theorem ma_pw9 : Cond.code Lib.Math.min.name Lib.Math.min.code 2 (some .int) ∈ ma_TB := ma_T2 (i := 214) rfl rfl
def ma_cp (S : ma_S) (c : Nat) (f : Nat → Int32) : ma_S := (S.1, S.2.1, S.2.2.1, S.2.2.2.1, ma_uc (mI S) c f, mL S, mR S)
def ma_pr (o d w : Nat) (i : Instr) (n : Nat) (st : List ma_V) (S : ma_S) : Option (List ma_V × ma_S) := match i, n, st with
  | .invokespecial x, 3, .inr (.inr (some c)) :: r => if decide (ma_prt o x = some 0) && decide (1 ≤ d) && decide (ma_sz r + 12 ≤ w) then some (r, S) else none
  | .invokestatic x, 3, .inl z :: .inl y :: .inr (.inr (some c)) :: .inl a :: .inr (.inr (some c0)) :: r => if decide (ma_prt o x = some 3) && decide (1 ≤ d) && decide (ma_sz r + (nativeFrameWords "java/lang/System" "arraycopy" 5 + 11) ≤ w) && ma_is S c && ma_is S c0 && decide ((mH S c).1 = 20) && decide ((mH S c0).1 = 20) && decide (0 ≤ a) && decide (0 ≤ y) && decide (0 ≤ z) && decide (a.toNatClampNeg + z.toNatClampNeg ≤ (mH S c0).2) && decide (y.toNatClampNeg + z.toNatClampNeg ≤ (mH S c).2) then some (r, ma_cp S c (va_cpy (mI S c0) (mI S c) a.toNatClampNeg y.toNatClampNeg z.toNatClampNeg)) else none
  | .invokestatic x, 3, .inl y :: .inl a :: r => if decide (1 ≤ d) && decide (ma_sz r + 13 ≤ w) then (match ma_prt o x with
    | some 1 => some (.inl (if a < y then y else a) :: r, S)
    | some 2 => some (.inl (if y < a then y else a) :: r, S)
    | _ => none) else none
  | _, _, _ => none
theorem ma_cp_o {kA : Nat → ClassId} {ad : Nat → Nat} {S : ma_S} {c : Nat} {f : Nat → Int32} {c₉ : Nat} (h : c₉ ≠ c) : ma_E kA ad (ma_cp S c f) c₉ = ma_E kA ad S c₉ := ma_E_congr rfl (if_neg h) rfl rfl
theorem ma_pr_c {o d w n : Nat} {i : Instr} {st st₉ : List ma_V} {S S₉ : ma_S} (hh : ma_ch S) (hc : ma_cs (mN S) st) (h : ma_pr o d w i n st S = some (st₉, S₉)) : ma_ch S₉ ∧ ma_cs (mN S₉) st₉ ∧ mN S₉ = mN S ∧ mC S₉ = mC S ∧ mZ S₉ = mZ S := by
  unfold ma_pr at h
  split at h
  · split at h
    · cases h; exact ⟨hh, ma_cs_tl hc, rfl, rfl, rfl⟩
    · cases h
  · split at h
    · cases h; exact ⟨hh, ma_cs_tl (ma_cs_tl (ma_cs_tl (ma_cs_tl (ma_cs_tl hc)))), rfl, rfl, rfl⟩
    · cases h
  · split at h
    · split at h
      · cases h; exact ⟨hh, ma_cs_cons ma_cv_i (ma_cs_tl (ma_cs_tl hc)), rfl, rfl, rfl⟩
      · cases h; exact ⟨hh, ma_cs_cons ma_cv_i (ma_cs_tl (ma_cs_tl hc)), rfl, rfl, rfl⟩
      · cases h
    · cases h
  · cases h
section MA7
variable {p : Program} {l : Launch} {e : Env} {R : Room} {s : State} {m : MethodId} {args : Array Value} {below : List Frame} {meth : Method} {c : Code} {H H0 : Heap} {locs : List Loc} {cells slots : Nat} {Q : State → Prop} {cc : ByteArray} {pc : Nat} {ls : Array Slot} {ad : Nat → Nat} {kA : Nat → ClassId} {D : va_G} {A : Nat → Prop}
theorem ma_sc_ok (hx : p.tables.exec = Jvm.exec) (hb : c.code = cc) {X : Nat × (Nat → Int32)} {n : Nat} {i : Instr} {st st₉ : List ma_V} (hX : va_X (ad 30) X.1 X.2 s H0 ∧ ¬ A (ad 30) ∧ ad 30 < H0.size) (hS : va_S A H0 H locs) (hd : decode cc pc = .ok (i, n)) (h : ma_sc X i n st = some st₉)
    (k : W p l e R s m args below meth c H locs cells slots Q (F0 m (pc + n) ls (ma_ts ad st₉))) : W p l e R s m args below meth c H locs cells slots Q (F0 m pc ls (ma_ts ad st)) := by
  unfold ma_sc at h
  split at h
  · next j r =>
    split at h
    · next hj =>
      simp only [Bool.and_eq_true, decide_eq_true_eq] at hj
      cases h
      exact va_sld hx hb hX.1 hX.2.2 hX.2.1 hS (fun q => by rcases q with q | q; exact absurd hj.1 (Int32.not_le.mpr q); omega) hd k
    · cases h
  · cases h
    exact va_slen hx hb hX.1 hX.2.2 hX.2.1 hS hd k
  · cases h
theorem ma_sc_cs {X : Nat × (Nat → Int32)} {N n : Nat} {i : Instr} {st st₉ : List ma_V} (hc : ma_cs N st) (h : ma_sc X i n st = some st₉) : ma_cs N st₉ := by
  unfold ma_sc at h
  split at h
  · split at h
    · cases h; exact ma_cs_cons ma_cv_i (ma_cs_tl (ma_cs_tl hc))
    · cases h
  · cases h; exact ma_cs_cons ma_cv_i (ma_cs_tl hc)
  · cases h
theorem ma_pr_ok (hx : p.tables.exec = Jvm.exec) (hb : c.code = cc) {o d w n : Nat} {i : Instr} {st st₉ : List ma_V} {S S₉ : ma_S} (hml : c.maxLocals = ls.size) (hown : s.vm.findClass (ma_cn o) = some m.cls) (hts : ∀ w ∈ ma_TB, w.before args s = true) (hK : va_K D vwCl (ma_tys kA) s)
    (hR1 : d ≤ R.frames) (hR2 : w ≤ R.locals) (hR3 : cells ≤ R.cells) (hR4 : slots ≤ R.slots) (hP : va_P D vwCl (ma_wl kA ad S) H) (hD : va_D A (ma_wl kA ad S)) (hS : va_S A H0 H locs) (hd : decode cc pc = .ok (i, n)) (h : ma_pr o d w i n st S = some (st₉, S₉))
    (k : ∀ (H1 : Heap) (locs1 : List Loc), va_P D vwCl (ma_wl kA ad S₉) H1 → va_D A (ma_wl kA ad S₉) → va_S A H0 H1 locs1 → W p l e R s m args below meth c H1 locs1 cells slots Q (F0 m (pc + n) ls (ma_ts ad st₉))) : W p l e R s m args below meth c H locs cells slots Q (F0 m pc ls (ma_ts ad st)) := by
  have is2 : ∀ {c : Nat}, ma_is S c = true → 64 ≤ c ∧ c < mN S := fun hh => by simpa [ma_is] using hh
  unfold ma_pr at h
  split at h
  · next x cx r =>
    split at h
    · next hc =>
      simp only [Bool.and_eq_true, decide_eq_true_eq] at hc
      obtain ⟨⟨g1, g2⟩, g3⟩ := hc
      cases h
      refine W.objInit (g := F0 m pc ls (ma_ts ad (.inr (.inr (some cx)) :: st₉))) (a := ad cx) (rest := ma_ts ad st₉) hx hb hown (hts _ (ma_prt_spec g1)) (hts _ ma_pw0) (hts _ ma_pw1) rfl hml.symm rfl hd (by omega) ?_ (k H locs hP hD hS)
      show 2 * 0 + ((ma_ts ad st₉).map fun v => v.category).sum + 12 ≤ R.locals
      rw [ma_sz_ts]; omega
    · cases h
  · next x z y cx a c0 r =>
    split at h
    · next hc =>
      simp only [Bool.and_eq_true, decide_eq_true_eq] at hc
      obtain ⟨⟨⟨⟨⟨⟨⟨⟨⟨⟨⟨g1, g2⟩, g3⟩, g4⟩, g5⟩, g6⟩, g7⟩, g8⟩, g9⟩, g10⟩, g11⟩, g12⟩ := hc
      obtain ⟨i1, i2⟩ := is2 g4
      obtain ⟨j1, j2⟩ := is2 g5
      cases h
      have hset : (ma_wl kA ad S).set (cx - 64) (ad cx, .inl (kA 20, (mH S cx).2, .inl (va_cpy (mI S c0) (mI S cx) a.toNatClampNeg y.toNatClampNeg z.toNatClampNeg))) = ma_wl kA ad (ma_cp S cx (va_cpy (mI S c0) (mI S cx) a.toNatClampNeg y.toNatClampNeg z.toNatClampNeg)) := by
        refine ma_wl_set i1 i2 rfl ?_ (fun c₉ hc₉ => ma_cp_o hc₉)
        rw [ma_E_int (S := ma_cp S cx _) (t := 20) g6 (by omega) (by omega)]
        show Sum.inl (kA 20, (mH S cx).2, Sum.inl (ma_uc (mI S) cx _ cx)) = _
        rw [show ∀ f : Nat → Int32, ma_uc (mI S) cx f cx = f from fun f => if_pos rfl]
      have np : ∀ {q : Int32}, 0 ≤ q → ¬ q < 0 := fun hq z => absurd hq (Int32.not_le.mpr z)
      refine va_copyi (ty := .int) hx hb hml hown (hts _ (ma_prt_spec g1)) (hts _ ma_pw2) (hts _ ma_pw3) (hts _ ma_pw4) hK hP hD hS (c0 - 64) (cx - 64) 0 0 ((ma_wl_at j1 j2).trans (by rw [ma_E_int g7 (by omega) (by omega)])) ((ma_wl_at i1 i2).trans (by rw [ma_E_int g6 (by omega) (by omega)])) rfl rfl rfl (np g8) (np g9) (np g10) g11 g12 (fun _ _ => rfl) (by omega) ?_ hd (fun H1 locs1 a1 a2 a3 => k H1 locs1 (hset ▸ a1) (hset ▸ a2) a3)
      have := ma_sz_ts ad st₉
      unfold ma_ts at this
      rw [this]; omega
    · cases h
  · next x y a r _ =>
    split at h
    · next hc =>
      simp only [Bool.and_eq_true, decide_eq_true_eq] at hc
      have hsz := ma_sz_ts ad r
      unfold ma_ts at hsz
      split at h
      · next g1 =>
        cases h
        exact va_mmax hx hb hml hown (hts _ (ma_prt_spec g1)) (hts _ ma_pw5) (hts _ ma_pw6) (hts _ ma_pw7) (by omega) (by rw [hsz]; omega) hR3 hR4 hd (k H locs hP hD hS)
      · next g1 =>
        cases h
        exact va_mmin hx hb hml hown (hts _ (ma_prt_spec g1)) (hts _ ma_pw8) (hts _ ma_pw6) (hts _ ma_pw9) (by omega) (by rw [hsz]; omega) hR3 hR4 hd (k H locs hP hD hS)
      · cases h
    · cases h
  · cases h
end MA7

/-! from 57.throw -/
/-! THE SMALL MACHINE, part 8: a new exception that is thrown at once; answers -/
def ma_xn (e : Nat) : String := match e with
  | 1 => "java/lang/IndexOutOfBoundsException"
  | 2 => "java/lang/IllegalArgumentException"
  | 3 => "java/lang/IllegalStateException"
  | 4 => "java/util/NoSuchElementException"
  | 5 => "java/lang/ClassCastException"
  | 6 => "java/lang/UnsupportedOperationException"
  | _ => ""
def ma_xs : List String := ["java/lang/RuntimeException", "java/lang/Exception"]
/-- pool entries of the class and of its constructor, in the outer class (11), to the exception's number -/
def ma_xh : List ((Nat × Nat × Nat × Nat) × Nat × Nat) := [((11, 72, 74, 1), 530, 16), ((11, 79, 81, 2), 608, 17), ((11, 85, 87, 3), 631, 18), ((11, 364, 366, 4), 1198, 27), ((11, 135, 137, 5), 1215, 28), ((11, 192, 194, 6), 1323, 29)]
def ma_xc (q : (Nat × Nat × Nat × Nat) × Nat × Nat) : Bool :=
  ma_w q.2.1 (.classLink (ma_cn q.1.1) q.1.2.1 (ma_xn q.1.2.2.2)) && ma_w q.2.2 (.initialized (ma_xn q.1.2.2.2)) && Bundle.fit (ma_xn q.1.2.2.2) &&
  (vx_at0 (ma_cn q.1.1) q.1.2.2.1 (ma_xn q.1.2.2.2) ma_xs).all (fun w => ((decide (w ∈ tables_1) && goodWord w) || (decide (w ∈ ma_nw) && w.onTables)) && vx_ot w)
set_option maxRecDepth 20000 in
theorem ma_xh_ok : ∀ q ∈ ma_xh, ma_xc q = true := List.all_eq_true.mp (by decide +kernel)
theorem ma_xs_fit : ∀ n ∈ ma_xs, Bundle.fit n = true := by decide +kernel
def ma_xt (o ik ic : Nat) : Option Nat := (ma_xh.find? (fun q => q.1.1 == o && q.1.2.1 == ik && q.1.2.2.1 == ic)).map (fun q => q.1.2.2.2)
theorem ma_xt_spec {o ik ic x : Nat} (h : ma_xt o ik ic = some x) : Cond.classLink (ma_cn o) ik (ma_xn x) ∈ ma_TB ∧ Cond.initialized (ma_xn x) ∈ ma_TB ∧ Bundle.fit (ma_xn x) = true ∧ ∀ w ∈ vx_at0 (ma_cn o) ic (ma_xn x) ma_xs, (w ∈ ma_TB ∨ (w ∈ ma_nw ∧ w.onTables = true)) ∧ vx_ot w = true := by
  unfold ma_xt at h
  cases hf : ma_xh.find? (fun q => q.1.1 == o && q.1.2.1 == ik && q.1.2.2.1 == ic) with
  | none => rw [hf] at h; cases h
  | some q =>
    rw [hf] at h
    have hk : q.1.2.2.2 = x := Option.some.inj h
    have h1 := List.find?_some hf
    simp only [Bool.and_eq_true, beq_iff_eq] at h1
    have h2 := ma_xh_ok q (List.mem_of_find?_eq_some hf)
    unfold ma_xc at h2
    rw [hk, h1.1.1, h1.1.2, h1.2] at h2
    simp only [Bool.and_eq_true] at h2
    refine ⟨ma_w_in h2.1.1.1, ma_w_in h2.1.1.2, h2.1.2, fun w hw => ?_⟩
    have h3 := List.all_eq_true.mp h2.2 w hw
    simp only [Bool.and_eq_true, Bool.or_eq_true, decide_eq_true_eq] at h3
    refine ⟨h3.1.imp (fun z => List.mem_filter.mpr ⟨List.mem_append_right _ (List.mem_append_right _ z.1), z.2⟩) (fun z => z), h3.2⟩
/-- new, dup, its constructor, athrow: which exception -/
def ma_thr (o : Nat) (cc : ByteArray) (pc : Nat) : Option Nat := match decode cc pc, decode cc (pc + 3), decode cc (pc + 4), decode cc (pc + 7) with
  | .ok (.new ik, 3), .ok (.dup, 1), .ok (.invokespecial ic, 3), .ok (.athrow, 1) => ma_xt o ik ic
  | _, _, _, _ => none
def ma_bump (S : ma_S) : ma_S := (S.1, S.2.1 + 1, S.2.2.1 + 6, S.2.2.2)
def ma_ret (ret : Option FieldType) (i : Instr) (n : Nat) (st : List ma_V) : Option (Option ma_V) := match i, n, st with
  | .ireturn, 1, [.inl x] => match ret with
    | some ty => if narrow ty (.int x) = .int x then some (some (.inl x)) else none
    | none => none
  | .areturn, 1, [.inr (.inr r)] => match ret with
    | some (.object _) => some (some (.inr (.inr r)))
    | some (.array _) => some (some (.inr (.inr r)))
    | _ => none
  | .return_, 1, [] => match ret with
    | none => some none
    | some _ => none
  | _, _, _ => none
section MA8
variable {p : Program} {l : Launch} {e : Env} {R : Room} {s : State} {m : MethodId} {args : Array Value} {below : List Frame} {meth : Method} {c : Code} {H : Heap} {locs : List Loc} {cells slots : Nat} {cc : ByteArray} {pc : Nat} {ls : Array Slot} {ad : Nat → Nat} {free : Addr → Prop} {Qc : Array Value → State → Outcome → State → Prop}
theorem ma_ret_ok (hx : p.tables.exec = Jvm.exec) (hb : c.code = cc) (hlocks : meth.locks = false) {ret : Option FieldType} (hr : meth.sig.returnType = ret) {i : Instr} {n : Nat} {st : List ma_V} {v : Option ma_V} (hd : decode cc pc = .ok (i, n)) (h : ma_ret ret i n st = some v)
    (hq : ∀ t : State, t.heap = H → s.WarmedH t.vm → Qc args s (.returned (v.map (ma_tv ad))) t) (hf : ∀ q ∈ locs, free q.base) : W p l e R s m args below meth c H locs cells slots (MQ below Qc args s cells slots free) (F0 m pc ls (ma_ts ad st)) := by
  unfold ma_ret at h
  split at h
  · split at h
    · next ty =>
      split at h
      · next hn =>
        cases h
        exact W.zret hx hb hr hn hq hf hd hlocks
      · cases h
    · cases h
  · next r =>
    have hv : ma_tv ad (.inr (.inr r)) = .null ∨ ∃ a, ma_tv ad (.inr (.inr r)) = .ref a := by
      cases r with
      | none => exact Or.inl rfl
      | some b => exact Or.inr ⟨_, rfl⟩
    split at h
    · cases h; exact W.aret hx hb hr (Or.inl ⟨_, rfl⟩) hv hq hf hd hlocks
    · cases h; exact W.aret hx hb hr (Or.inr ⟨_, rfl⟩) hv hq hf hd hlocks
    · cases h
  · split at h
    · cases h; exact W.vret hx hb hr hq hf hd hlocks
    · cases h
  · cases h
theorem ma_ret_cv {N n : Nat} {ret : Option FieldType} {i : Instr} {st : List ma_V} {v : Option ma_V} (hc : ma_cs N st) (h : ma_ret ret i n st = some v) : ∀ u, v = some u → ma_cv N u := by
  unfold ma_ret at h
  split at h
  · split at h
    · split at h
      · cases h; intro u hu; cases hu; exact ma_cv_i
      · cases h
    · cases h
  · split at h
    · cases h; intro u hu; cases hu; exact ma_cs_hd hc
    · cases h; intro u hu; cases hu; exact ma_cs_hd hc
    · cases h
  · split at h
    · cases h; intro u hu; cases hu
    · cases h
  · cases h
/-- it is thrown, and leaves -/
theorem ma_thr_ok (hx : p.tables.exec = Jvm.exec) (hb : c.code = cc) (hlt : l.stackTraces = false) {o x : Nat} {A : Nat → Prop} {XC : String → State → State → Prop} {mc ms : Nat} {rest : List Value} (hown : s.vm.findClass (ma_cn o) = some m.cls) (hts : ∀ w ∈ ma_TB, w.before args s = true) (hN : ma_Nx s)
    (hU : vx_Zq Bundle.tN "UNASSIGNED_STACK" Bundle.steD A s s.heap) (hZ : vx_Zq Bundle.tN "SUPPRESSED_SENTINEL" Bundle.listD A s s.heap) (hS : va_S A s.heap H locs) (hsize : ls.size = c.maxLocals) (hlocks : meth.locks = false) (hout : ∀ x ∈ c.exceptionTable.toList, False) (h : ma_thr o cc pc = some x)
    (hR1 : 6 ≤ R.frames) (hR2 : (rest.map fun v => v.category).sum + 81 ≤ R.locals) (hR3 : cells + 1 ≤ R.cells) (hR4 : slots + 6 ≤ R.slots)
    (hxc : ∀ t : State, s.vm.Alike t.vm → H.size ≤ t.heap.size → (∀ q : Nat, q < H.size → t.heap[q]? = H[q]?) → XC (ma_xn x) s t) (hf : ∀ z ∈ locs, free z.base) (hc : cells + 1 ≤ mc) (hs : slots + 6 ≤ ms) :
    W p l e R s m args below meth c H locs cells slots (vx_MQ below Qc XC args s mc ms free) (F0 m pc ls rest) := by
  unfold ma_thr at h
  split at h
  · next ik ic d0 d3 d4 d7 =>
    obtain ⟨w1, w2, w3, w4⟩ := ma_xt_spec h
    have hw : ∀ w ∈ vx_at0 (ma_cn o) ic (ma_xn x) ma_xs, w.before args s = true := by
      intro w hw
      rcases (w4 w hw).1 with g | ⟨g1, g2⟩
      · exact hts w g
      · exact va_Nw.use g2 (hN.1 w g1)
    refine vx_throw0 hx hb hlt hown w3 ma_xs_fit (hts _ w1) (hts _ w2) hw (fun w hw => ?_) hU hZ hS hsize d0 d3 d4 d7 (fun x hx => (hout x hx).elim) (by show 2 + 3 < R.frames; omega) (by show _ + (13 * (2 + 1) + 42) ≤ R.locals; omega) hR3 hR4 hlocks hxc hf hc hs
    rcases List.mem_cons.mp hw with e1 | hw
    · rw [e1]; rfl
    · rcases List.mem_cons.mp hw with e1 | hw
      · rw [e1]; rfl
      · exact (w4 w hw).2
  · cases h
end MA8

/-! from 58.step -/
/-! THE SMALL MACHINE, part 9: one step that is no call -/
/-- are two references the same -/
def ma_ac (i : Instr) (n pc : Nat) (st : List ma_V) : Option (Nat × List ma_V) := match i, n, st with
  | .if_acmp .eq o, 3, .inr (.inr y) :: .inr (.inr x) :: r => if x.all (fun b => decide (64 ≤ b)) && y.all (fun b => decide (64 ≤ b)) then (ma_to pc o).map (fun t => (if x = y then t else pc + 3, r)) else none
  | _, _, _ => none
theorem ma_ac_cs {N n pc t : Nat} {i : Instr} {st st₉ : List ma_V} (hc : ma_cs N st) (h : ma_ac i n pc st = some (t, st₉)) : ma_cs N st₉ := by
  unfold ma_ac at h
  split at h
  · next o y x r =>
    split at h
    · cases ht : ma_to pc o with
      | none => rw [ht] at h; cases h
      | some t₉ => rw [ht] at h; cases h; exact ma_cs_tl (ma_cs_tl hc)
    · cases h
  · cases h
theorem ma_wl_num {kA : Nat → ClassId} {ad : Nat → Nat} {S : ma_S} {b : Nat} (h1 : 64 ≤ b) (h2 : b < mN S) : (ma_wl kA ad S)[b - 64]? = some (ad b, ma_E kA ad S b) := by
  unfold ma_wl
  rw [List.getElem?_map, List.getElem?_range (by omega)]
  show some (ad (b - 64 + 64), ma_E kA ad S (b - 64 + 64)) = _
  rw [Nat.sub_add_cancel h1]
theorem ma_ad_inj {kA : Nat → ClassId} {ad : Nat → Nat} {S : ma_S} {A : Nat → Prop} (hD : va_D A (ma_wl kA ad S)) {x y : Option Nat} (hx : ∀ b, x = some b → 64 ≤ b ∧ b < mN S) (hy : ∀ b, y = some b → 64 ≤ b ∧ b < mN S) (h : x.map ad = y.map ad) : x = y := by
  cases x with
  | none => cases y with
    | none => rfl
    | some b => cases h
  | some a => cases y with
    | none => cases h
    | some b =>
      have e : ad a = ad b := Option.some.inj h
      have h1 := hx a rfl
      have h2 := hy b rfl
      have := hD.1 _ _ _ _ (ma_wl_num (kA := kA) (ad := ad) h1.1 h1.2) (ma_wl_num (kA := kA) (ad := ad) h2.1 h2.2) e
      have e2 : a = b := by omega
      rw [e2]
def ma_one (X : Nat × (Nat → Int32)) (o : Nat) (ini : Bool) (nL d w : Nat) (i : Instr) (n pc : Nat) (L : ma_L) (st : List ma_V) (S : ma_S) : Option (Nat × ma_L × List ma_V × ma_S) :=
  match ma_push i n L with
  | some v => some (pc + n, L, v :: st, S)
  | none => match ma_stk i n st with
    | some st₉ => some (pc + n, L, st₉, S)
    | none => match ma_sto i n nL L st with
      | some (L₉, st₉) => some (pc + n, L₉, st₉, S)
      | none => match ma_jmp i n pc st with
        | some (t, st₉) => some (t, L, st₉, S)
        | none => match ma_hp o ini i n st S with
          | some (st₉, S₉) => some (pc + n, L, st₉, S₉)
          | none => match ma_sc X i n st with
            | some st₉ => some (pc + n, L, st₉, S)
            | none => match ma_ex o i n st S with
              | some (st₉, S₉) => some (pc + n, L, st₉, S₉)
              | none => match ma_al o i n st S with
                | some (st₉, S₉) => some (pc + n, L, st₉, S₉)
                | none => match ma_pr o d w i n st S with
                  | some (st₉, S₉) => some (pc + n, L, st₉, S₉)
                  | none => match ma_tx X o i n st with
                    | some st₉ => some (pc + n, L, st₉, S)
                    | none => match ma_ac i n pc st with
                      | some (t, st₉) => some (t, L, st₉, S)
                      | none => none
theorem ma_cL.mono {n n₉ : Nat} {L : ma_L} (h : ma_cL n L) (hn : n ≤ n₉) : ma_cL n₉ L := fun q hq => (h q hq).mono hn
theorem ma_cs.mono {n n₉ : Nat} {st : List ma_V} (h : ma_cs n st) (hn : n ≤ n₉) : ma_cs n₉ st := fun q hq => (h q hq).mono hn
/-- in bounds behind a new cell, without the machine -/
theorem ma_al_c {o n : Nat} {i : Instr} {st st₉ : List ma_V} {S S₉ : ma_S} (hh : ma_ch S) (hc : ma_cs (mN S) st) (h : ma_al o i n st S = some (st₉, S₉)) : ma_ch S₉ ∧ ma_cs (mN S₉) st₉ ∧ mN S₉ = mN S + 1 ∧ mC S₉ = mC S + 1 ∧ mZ S ≤ mZ S₉ := by
  have fin : ∀ (t N : Nat) (r : List ma_V), ma_cs (mN S) r → ma_ch (ma_new S t N) ∧ ma_cs (mN (ma_new S t N)) (.inr (.inr (some (mN S))) :: r) ∧ mN (ma_new S t N) = mN S + 1 ∧ mC (ma_new S t N) = mC S + 1 ∧ mZ S ≤ mZ (ma_new S t N) := by
    intro t N r hr
    exact ⟨ma_new_ch hh t N, ma_cs_cons (fun b hb => by cases hb; exact Nat.lt_succ_self _) (fun v hv => (hr v hv).mono (Nat.le_succ _)), rfl, rfl, Nat.le_add_right _ _⟩
  unfold ma_al at h
  split at h
  · next r x =>
    cases ht : ma_nwt o x with
    | none => rw [ht] at h; cases h
    | some t => rw [ht] at h; cases h; exact fin _ _ _ hc
  · next a kx r =>
    split at h
    · cases ht : ma_at a with
      | none => rw [ht] at h; cases h
      | some t => rw [ht] at h; cases h; exact fin _ _ _ (ma_cs_tl hc)
    · cases h
  · next x kx r =>
    split at h
    · cases ht : ma_ant o x with
      | none => rw [ht] at h; cases h
      | some t => rw [ht] at h; cases h; exact fin _ _ _ (ma_cs_tl hc)
    · cases h
  · cases h
theorem ma_one_c {X : Nat × (Nat → Int32)} {o nL d w n pc pc₉ : Nat} {ini : Bool} {i : Instr} {L L₉ : ma_L} {st st₉ : List ma_V} {S S₉ : ma_S} (hh : ma_ch S) (hL : ma_cL (mN S) L) (hc : ma_cs (mN S) st) (h : ma_one X o ini nL d w i n pc L st S = some (pc₉, L₉, st₉, S₉)) :
    ma_ch S₉ ∧ ma_cL (mN S₉) L₉ ∧ ma_cs (mN S₉) st₉ ∧ mN S ≤ mN S₉ ∧ mC S ≤ mC S₉ ∧ mZ S ≤ mZ S₉ := by
  have kept : ∀ {S1 : ma_S} {s1 : List ma_V}, (ma_ch S1 ∧ ma_cs (mN S1) s1 ∧ mN S1 = mN S ∧ mC S1 = mC S ∧ mZ S1 = mZ S) → ma_ch S1 ∧ ma_cL (mN S1) L ∧ ma_cs (mN S1) s1 ∧ mN S ≤ mN S1 ∧ mC S ≤ mC S1 ∧ mZ S ≤ mZ S1 := by
    intro S1 s1 ⟨a1, a2, a3, a4, a5⟩
    exact ⟨a1, by rw [a3]; exact hL, a2, by omega, by omega, by omega⟩
  unfold ma_one at h
  split at h
  · next v hv => cases h; exact ⟨hh, hL, ma_cs_cons (ma_push_cv hL hv) hc, Nat.le_refl _, Nat.le_refl _, Nat.le_refl _⟩
  · split at h
    · next s1 hv => cases h; exact ⟨hh, hL, ma_stk_cs hc hv, Nat.le_refl _, Nat.le_refl _, Nat.le_refl _⟩
    · split at h
      · next L1 s1 hv => cases h; exact ⟨hh, (ma_sto_c hL hc hv).1, (ma_sto_c hL hc hv).2, Nat.le_refl _, Nat.le_refl _, Nat.le_refl _⟩
      · split at h
        · next t1 s1 hv => cases h; exact ⟨hh, hL, ma_jmp_cs hc hv, Nat.le_refl _, Nat.le_refl _, Nat.le_refl _⟩
        · split at h
          · next s1 S1 hv => cases h; exact kept (ma_hp_c hh hc hv)
          · split at h
            · next s1 hv => cases h; exact ⟨hh, hL, ma_sc_cs hc hv, Nat.le_refl _, Nat.le_refl _, Nat.le_refl _⟩
            · split at h
              · next s1 S1 hv => cases h; exact kept (ma_ex_c hh hc hv)
              · split at h
                · next s1 S1 hv =>
                  cases h
                  obtain ⟨a1, a2, a3, a4, a5⟩ := ma_al_c hh hc hv
                  exact ⟨a1, hL.mono (by omega), a2, by omega, by omega, a5⟩
                · split at h
                  · next s1 S1 hv => cases h; exact kept (ma_pr_c hh hc hv)
                  · split at h
                    · next s1 hv => cases h; exact ⟨hh, hL, ma_tx_cs hh.2 hc hv, Nat.le_refl _, Nat.le_refl _, Nat.le_refl _⟩
                    · split at h
                      · next t1 s1 hv => cases h; exact ⟨hh, hL, ma_ac_cs hc hv, Nat.le_refl _, Nat.le_refl _, Nat.le_refl _⟩
                      · cases h
section MA9
variable {p : Program} {l : Launch} {e : Env} {R : Room} {s : State} {m : MethodId} {args : Array Value} {below : List Frame} {meth : Method} {c : Code} {H : Heap} {locs : List Loc} {cells slots : Nat} {Q : State → Prop} {cc : ByteArray} {pc : Nat} {ls : Array Slot} {ad : Nat → Nat} {kA : Nat → ClassId} {D : va_G} {A : Nat → Prop}
theorem ma_ac_ok (hx : p.tables.exec = Jvm.exec) (hb : c.code = cc) {i : Instr} {n t : Nat} {st st₉ : List ma_V} {S : ma_S} (hc : ma_cs (mN S) st) (hD : va_D A (ma_wl kA ad S)) (hd : decode cc pc = .ok (i, n)) (h : ma_ac i n pc st = some (t, st₉))
    (k : W p l e R s m args below meth c H locs cells slots Q (F0 m t ls (ma_ts ad st₉))) : W p l e R s m args below meth c H locs cells slots Q (F0 m pc ls (ma_ts ad st)) := by
  unfold ma_ac at h
  split at h
  · next o y x r =>
    split at h
    · next hg =>
      rw [Bool.and_eq_true] at hg
      have gx : ∀ b, x = some b → 64 ≤ b ∧ b < mN S := fun b hb₉ => by
        subst hb₉
        exact ⟨of_decide_eq_true hg.1, hc (.inr (.inr (some b))) (List.mem_cons_of_mem _ List.mem_cons_self) b rfl⟩
      have gy : ∀ b, y = some b → 64 ≤ b ∧ b < mN S := fun b hb₉ => by
        subst hb₉
        exact ⟨of_decide_eq_true hg.2, hc (.inr (.inr (some b))) List.mem_cons_self b rfl⟩
      cases ht : ma_to pc o with
      | none => rw [ht] at h; cases h
      | some t₉ =>
        rw [ht] at h
        have h2 : (if x = y then t₉ else pc + 3) = t ∧ r = st₉ := by
          have := Option.some.inj h
          exact ⟨congrArg Prod.fst this, congrArg Prod.snd this⟩
        obtain ⟨h3, rfl⟩ := h2
        refine lv_acmp_eq (rx := x.map ad) (ry := y.map ad) hx hb hd (ma_to_eq ht) (fun q => ?_) (fun q => ?_)
        · rw [if_pos (ma_ad_inj hD gx gy q)] at h3
          rw [h3]
          exact k
        · rw [if_neg (fun z => q (by rw [z]))] at h3
          rw [h3]
          exact k
    · cases h
  · cases h
/-- what holds of the frame all along: the machine, the code, the class, the tables, the world's kinds, the room -/
def ma_Cx (X : Nat × (Nat → Int32)) (p : Program) (R : Room) (s : State) (m : MethodId) (args : Array Value) (meth : Method) (c : Code) (cc : ByteArray) (o : Nat) (ini : Bool) (nL d w : Nat) (D : va_G) (kA : Nat → ClassId) (A : Nat → Prop) : Prop :=
  p.tables.exec = Jvm.exec ∧ c.code = cc ∧ c.maxLocals = nL ∧ s.vm.findClass (ma_cn o) = some m.cls ∧ (∀ w ∈ ma_TB, w.before args s = true) ∧ va_K D vwCl (ma_tys kA) s ∧ ma_Nx s ∧ (ini = true → meth.name = "<init>") ∧ d ≤ R.frames ∧ w ≤ R.locals ∧ (∀ q, s.heap.size ≤ q → A q)
/-- the world and the frame's own values -/
def ma_Wd (X : Nat × (Nat → Int32)) (s : State) (nL : Nat) (D : va_G) (kA : Nat → ClassId) (A : Nat → Prop) (ad : Nat → Nat) (L : ma_L) (st : List ma_V) (S : ma_S) (H : Heap) (locs : List Loc) (ls : Array Slot) : Prop :=
  lv_has ls nL (ma_tl ad L) ∧ ma_ch S ∧ ma_cL (mN S) L ∧ ma_cs (mN S) st ∧ va_P D vwCl (ma_wl kA ad S) H ∧ va_D A (ma_wl kA ad S) ∧ va_S A s.heap H locs ∧ ma_Xt X ad A s s.heap
theorem ma_one_ok {X : Nat × (Nat → Int32)} {o nL d w n pc₉ : Nat} {ini : Bool} {i : Instr} {L L₉ : ma_L} {st st₉ : List ma_V} {S S₉ : ma_S} (C : ma_Cx X p R s m args meth c cc o ini nL d w D kA A) (Wd : ma_Wd X s nL D kA A ad L st S H locs ls) (hd : decode cc pc = .ok (i, n)) (h : ma_one X o ini nL d w i n pc L st S = some (pc₉, L₉, st₉, S₉))
    (hr1 : cells + (mC S₉ - mC S) ≤ R.cells) (hr2 : slots + (mZ S₉ - mZ S) ≤ R.slots)
    (k : ∀ (ad₉ : Nat → Nat) (H1 : Heap) (locs1 : List Loc) (ls1 : Array Slot), (∀ b, b < mN S → ad₉ b = ad b) → ma_Wd X s nL D kA A ad₉ L₉ st₉ S₉ H1 locs1 ls1 → W p l e R s m args below meth c H1 locs1 (cells + (mC S₉ - mC S)) (slots + (mZ S₉ - mZ S)) Q (F0 m pc₉ ls1 (ma_ts ad₉ st₉))) :
    W p l e R s m args below meth c H locs cells slots Q (F0 m pc ls (ma_ts ad st)) := by
  obtain ⟨hx, hb, hml, hown, hts, hK, hN, hini, hR1, hR2, hA⟩ := C
  obtain ⟨hl, hh, hL, hc, hP, hD, hS, hX⟩ := Wd
  have cl := ma_one_c hh hL hc h
  unfold ma_one at h
  split at h
  · next v hv =>
    cases h
    simp only [Nat.sub_self, Nat.add_zero] at k
    exact ma_push_ok hx hb hl hd hv (k ad H locs ls (fun _ _ => rfl) ⟨hl, hh, hL, cl.2.2.1, hP, hD, hS, hX⟩)
  · split at h
    · next s1 hv =>
      cases h
      simp only [Nat.sub_self, Nat.add_zero] at k
      exact ma_stk_ok hx hb hd hv (k ad H locs ls (fun _ _ => rfl) ⟨hl, hh, hL, cl.2.2.1, hP, hD, hS, hX⟩)
    · split at h
      · next L1 s1 hv =>
        cases h
        simp only [Nat.sub_self, Nat.add_zero] at k
        exact ma_sto_ok hx hb hl hd hv (fun ls₉ hl₉ => k ad H locs ls₉ (fun _ _ => rfl) ⟨hl₉, hh, cl.2.1, cl.2.2.1, hP, hD, hS, hX⟩)
      · split at h
        · next t1 s1 hv =>
          cases h
          simp only [Nat.sub_self, Nat.add_zero] at k
          exact ma_jmp_ok hx hb hd hv (k ad H locs ls (fun _ _ => rfl) ⟨hl, hh, hL, cl.2.2.1, hP, hD, hS, hX⟩)
        · split at h
          · next s1 S1 hv =>
            cases h
            obtain ⟨a1, a2, a3, a4, a5⟩ := ma_hp_c hh hc hv
            rw [a4, a5] at k
            simp only [Nat.sub_self, Nat.add_zero] at k
            exact ma_hp_ok hx hb hown hts hK hini hP hD hS hd hv (fun H1 locs1 b1 b2 b3 => k ad H1 locs1 ls (fun _ _ => rfl) ⟨hl, a1, cl.2.1, a2, b1, b2, b3, hX⟩)
          · split at h
            · next s1 hv =>
              cases h
              simp only [Nat.sub_self, Nat.add_zero] at k
              exact ma_sc_ok hx hb hX.2.1 hS hd hv (k ad H locs ls (fun _ _ => rfl) ⟨hl, hh, hL, cl.2.2.1, hP, hD, hS, hX⟩)
            · split at h
              · next s1 S1 hv =>
                cases h
                obtain ⟨a1, a2, a3, a4, a5⟩ := ma_ex_c hh hc hv
                rw [a4, a5] at k
                simp only [Nat.sub_self, Nat.add_zero] at k
                exact ma_ex_ok hx hb hown hts hK hN hP hD hS hd hv (fun H1 locs1 b1 b2 b3 => k ad H1 locs1 ls (fun _ _ => rfl) ⟨hl, a1, cl.2.1, a2, b1, b2, b3, hX⟩)
              · split at h
                · next s1 S1 hv =>
                  cases h
                  refine (ma_al_ok hx hb hown hts hK hN.2.1 hA hh hc hP hD hS hd hv hr1 hr2 (fun q H1 b1 b2 b3 => ?_)).1
                  have ha : ∀ b, b < mN S → va_up ad (mN S) q b = ad b := fun b hb => va_up_ne ad q (by omega)
                  exact k (va_up ad (mN S) q) H1 locs ls ha ⟨by rw [ma_tl_ad hL ha]; exact hl, cl.1, cl.2.1, cl.2.2.1, b1, b2, b3, hX.ad (fun b hb => ha b (Nat.lt_of_lt_of_le hb hh.2))⟩
                · split at h
                  · next s1 S1 hv =>
                    cases h
                    obtain ⟨a1, a2, a3, a4, a5⟩ := ma_pr_c hh hc hv
                    rw [a4, a5] at k
                    simp only [Nat.sub_self, Nat.add_zero] at k
                    exact ma_pr_ok hx hb (hml.trans hl.1.symm) hown hts hK hR1 hR2 (by omega) (by omega) hP hD hS hd hv (fun H1 locs1 b1 b2 b3 => k ad H1 locs1 ls (fun _ _ => rfl) ⟨hl, a1, cl.2.1, a2, b1, b2, b3, hX⟩)
                  · split at h
                    · next s1 hv =>
                      cases h
                      simp only [Nat.sub_self, Nat.add_zero] at k
                      exact ma_tx_ok hx hb hown hts hX.2.2 hS hd hv (k ad H locs ls (fun _ _ => rfl) ⟨hl, hh, hL, cl.2.2.1, hP, hD, hS, hX⟩)
                    · split at h
                      · next t1 s1 hv =>
                        cases h
                        simp only [Nat.sub_self, Nat.add_zero] at k
                        exact ma_ac_ok hx hb hc hD hd hv (k ad H locs ls (fun _ _ => rfl) ⟨hl, hh, hL, cl.2.2.1, hP, hD, hS, hX⟩)
                      · cases h
end MA9

/-! from 60.call -/
/-! THE SMALL MACHINE, part 10: calls -/
def ma_args (k : Nat) (as : List ma_V) : ma_L := match as with
  | [] => []
  | v :: r => (k, v) :: ma_args (if ma_2 v then k + 2 else k + 1) r
theorem ma_args_tl (ad : Nat → Nat) : ∀ (as : List ma_V) (k : Nat), ma_tl ad (ma_args k as) = lv_args k (ma_ts ad as) := by
  intro as
  induction as with
  | nil => intro k; rfl
  | cons v r ih =>
    intro k
    show (k, ma_tv ad v) :: ma_tl ad (ma_args (if ma_2 v then k + 2 else k + 1) r) = (k, ma_tv ad v) :: lv_args (if (ma_tv ad v).category = 2 then k + 2 else k + 1) (ma_ts ad r)
    rw [ih, ma_cat]
    cases ma_2 v <;> rfl
theorem ma_args_len (ad : Nat → Nat) : ∀ (as : List ma_V), (lg_sl (ma_ts ad as)).length = ma_sz as := by
  intro as
  induction as with
  | nil => rfl
  | cons v r ih =>
    show ((if (ma_tv ad v).category = 2 then [Slot.val (ma_tv ad v), .second] else [.val (ma_tv ad v)]) ++ lg_sl (ma_ts ad r)).length = (if ma_2 v then 2 else 1) + ma_sz r
    rw [List.length_append, ih, ma_cat]
    cases ma_2 v <;> rfl
theorem ma_args_cL {n : Nat} : ∀ (as : List ma_V) (k : Nat), ma_cs n as → ma_cL n (ma_args k as) := by
  intro as
  induction as with
  | nil => intro k _ q hq; cases hq
  | cons v r ih =>
    intro k h q hq
    rcases List.mem_cons.mp hq with e | e
    · rw [e]; exact ma_cs_hd h
    · exact ih _ (ma_cs_tl h) q e
def ma_fd (o x t : Nat) (any : Bool) (lo hi : Nat) : Option ((Nat × Nat × Nat) × (Nat × Nat × Nat) × (Nat × Nat) × List Nat) := (kh_cs o x ma_clk).find? (fun q => q.1.1 == o && q.1.2.1 == x && (any || q.1.2.2 == t) && decide (lo ≤ q.2.1.1) && decide (q.2.1.1 ≤ hi))
theorem ma_fd_spec {o x t lo hi : Nat} {any : Bool} {q : (Nat × Nat × Nat) × (Nat × Nat × Nat) × (Nat × Nat) × List Nat} (h : ma_fd o x t any lo hi = some q) : ma_clc q = true ∧ q.1.1 = o ∧ q.1.2.1 = x ∧ (any = true ∨ q.1.2.2 = t) ∧ lo ≤ q.2.1.1 ∧ q.2.1.1 ≤ hi := by
  have h1 := List.find?_some h
  simp only [Bool.and_eq_true, Bool.or_eq_true, beq_iff_eq, decide_eq_true_eq] at h1
  exact ⟨ma_clh_ok q (List.mem_of_find?_eq_some h), h1.1.1.1.1, h1.1.1.1.2, h1.1.1.2, h1.1.2, h1.2⟩
/-- the class, by number, of what is called: a text, or a cell -/
def ma_rt (S : ma_S) (b : Nat) : Option Nat := if b < 19 then some 17 else if ma_is S b && decide (1 ≤ (mH S b).1) && decide ((mH S b).1 ≤ 12) then some (mH S b).1 else none
/-- a call's kind, the method, its arguments, the stack below -/
def ma_cl (o : Nat) (i : Instr) (n : Nat) (st : List ma_V) (S : ma_S) : Option ((Nat × Nat) × List ma_V × List ma_V) := match i, n with
  | .invokevirtual x, 3 => match ma_fd o x 0 true 0 4 with
    | none => none
    | some q0 => match st.drop q0.2.1.2.2 with
      | .inr (.inr (some b)) :: rest => match ma_rt S b with
        | none => none
        | some t => match ma_fd o x t false 0 4 with
          | some q => if q.2.1.2.2 = q0.2.1.2.2 then some ((q.2.1.1, q.2.1.2.1), .inr (.inr (some b)) :: (st.take q0.2.1.2.2).reverse, rest) else none
          | none => none
      | _ => none
  | .invokestatic x, 3 => match ma_fd o x 0 true 5 8 with
    | none => none
    | some q => if q.2.1.1 ≠ 6 ∧ q.2.1.1 ≠ 7 ∧ q.2.1.2.2 ≤ st.length then some ((q.2.1.1, q.2.1.2.1), (st.take q.2.1.2.2).reverse, st.drop q.2.1.2.2) else none
  | .invokespecial x, 3 => match ma_fd o x 0 true 6 9 with
    | none => none
    | some q => match st.drop q.2.1.2.2 with
      | .inr (.inr (some b)) :: rest => if q.2.1.1 ≠ 8 ∧ ma_is S b ∧ 1 ≤ (mH S b).1 ∧ (mH S b).1 ≤ 12 ∧ (q.2.1.1 = 7 ∨ (ma_md q.2.1.2.1).bind (fun z => z.2.2.2.2) = none) then some ((q.2.1.1, q.2.1.2.1), .inr (.inr (some b)) :: (st.take q.2.1.2.2).reverse, rest) else none
      | _ => none
  | _, _ => none
theorem ma_cl_c {o n N : Nat} {i : Instr} {st as rest : List ma_V} {S : ma_S} {k : Nat × Nat} (hc : ma_cs N st) (h : ma_cl o i n st S = some (k, as, rest)) : ma_cs N as ∧ ma_cs N rest ∧ n = 3 := by
  have tk : ∀ j, ma_cs N (st.take j).reverse := fun j v hv => hc v (List.mem_of_mem_take (List.mem_reverse.mp hv))
  have dr : ∀ j, ma_cs N (st.drop j) := fun j v hv => hc v (List.mem_of_mem_drop hv)
  unfold ma_cl at h
  split at h
  · split at h
    · cases h
    · next q0 _ =>
      split at h
      · next b r hdr =>
        have := dr q0.2.1.2.2
        rw [hdr] at this
        split at h
        · cases h
        · split at h
          · split at h
            · cases h; exact ⟨ma_cs_cons (ma_cs_hd this) (tk _), ma_cs_tl this, rfl⟩
            · cases h
          · cases h
      · cases h
  · split at h
    · cases h
    · split at h
      · cases h; exact ⟨tk _, dr _, rfl⟩
      · cases h
  · split at h
    · cases h
    · next q _ =>
      split at h
      · next b r hdr =>
        have := dr q.2.1.2.2
        rw [hdr] at this
        split at h
        · cases h; exact ⟨ma_cs_cons (ma_cs_hd this) (tk _), ma_cs_tl this, rfl⟩
        · cases h
      · cases h
  · cases h
theorem ma_cn_mh (k : Nat) : ma_cn k ≠ "java/lang/invoke/MethodHandle" ∧ ma_cn k ≠ "java/lang/invoke/VarHandle" := by
  unfold ma_cn
  split <;> exact ⟨by decide, by decide⟩
/-- classes by number have their names in ma_cn -/
theorem ma_cn_cl {t : Nat} (h1 : 1 ≤ t) (h2 : t ≤ 12) {C : String} {T : u_T} {N : Nat} (h : vwCl[t]? = some (C, T, N)) : C = ma_cn t := by
  have hh : t = 1 ∨ t = 2 ∨ t = 3 ∨ t = 4 ∨ t = 5 ∨ t = 6 ∨ t = 7 ∨ t = 8 ∨ t = 9 ∨ t = 10 ∨ t = 11 ∨ t = 12 := by omega
  rcases hh with rfl | rfl | rfl | rfl | rfl | rfl | rfl | rfl | rfl | rfl | rfl | rfl <;> (cases h; rfl)
section MA10
variable {p : Program} {l : Launch} {e : Env} {R : Room} {s : State} {m : MethodId} {args : Array Value} {below : List Frame} {meth : Method} {c : Code} {H : Heap} {locs : List Loc} {cells slots : Nat} {Q : State → Prop} {cc : ByteArray} {pc : Nat} {ls : Array Slot} {ad : Nat → Nat} {kA : Nat → ClassId} {D : va_G} {A : Nat → Prop}
theorem ma_pre {X : Nat × (Nat → Int32)} {o nL d w : Nat} {ini : Bool} {L : ma_L} {st as : List ma_V} {S : ma_S} (C : ma_Cx X p R s m args meth c cc o ini nL d w D kA A) (Wd : ma_Wd X s nL D kA A ad L st S H locs ls) (U : State) (hU : U.heap = H) (hW : s.WarmedH U.vm) : ma_Pc X D kA ad S as H.size (ma_ts ad as).toArray U := by
  obtain ⟨hx, hb, hml, hown, hts, hK, hN, hini, hR1, hR2, hA⟩ := C
  obtain ⟨hl, hh, hL, hc, hP, hD, hS, hX⟩ := Wd
  refine ⟨rfl, by rw [hU], by rw [hU]; exact hP, va_K.moved hW.alike hK, hD.weaken (fun _ _ _ _ => trivial), hN.warm hW, ?_⟩
  rw [hU]
  exact ((hX.kept hS.1 (fun a h1 h2 => hS.2.1 a h1 h2)).narrow (ma_free hD hS hA)).warm hW
/-- the words that every callee has: its code, and the tables -/
def ma_ws (y : MethodName) (cc : ByteArray) (nL : Nat) (ret : Option FieldType) : List Cond := Cond.code y cc nL ret :: ma_TB
theorem ma_ws_ok (hts : ∀ w ∈ ma_TB, w.before args s = true) {y : MethodName} {cc : ByteArray} {nL : Nat} {ret : Option FieldType} (hc : Cond.code y cc nL ret ∈ ma_TB) : ∀ w ∈ ma_ws y cc nL ret, ∀ (a₉ : Array Value) (U : State), s.WarmedH U.vm → w.before a₉ U = true := by
  intro w hw a₉ U hW
  have hm : w ∈ ma_TB := by
    rcases List.mem_cons.mp hw with e1 | e1
    · rw [e1]; exact hc
    · exact e1
  exact word_at hW (good_of_word (List.mem_filter.mp hm).2) (hts w hm)
/-- the callee's room -/
abbrev ma_rm (d w mc ms : Nat) : Room := { frames := d, cells := mc, slots := ms, locals := w }
theorem ma_cl_run {X : Nat × (Nat → Int32)} {o nL d w n kd M o₉ nL₉ mc ms : Nat} {ini : Bool} {i : Instr} {L : ma_L} {st as rest : List ma_V} {S S₉ : ma_S} {y : MethodName} {cc₉ : ByteArray} {ret₉ : Option FieldType} {v : Option ma_V}
    (C : ma_Cx X p R s m args meth c cc o ini nL d w D kA A) (Wd : ma_Wd X s nL D kA A ad L st S H locs ls) (hd : decode cc pc = .ok (i, n)) (h : ma_cl o i n st S = some ((kd, M), as, rest)) (hmd : ma_md M = some (o₉, y, cc₉, nL₉, ret₉)) (h1 : 1 ≤ d) (h2 : 19 + nL₉ ≤ w) (h3 : ma_sz rest ≤ 8)
    (hM : Met l y (ma_ws y cc₉ nL₉ ret₉) (ma_rm (d - 1) (w - (19 + nL₉)) mc ms) (ma_Pc X D kA ad S as H.size) (ma_Qc D kA ad S S₉ v) mc ms (va_A (ma_wl kA ad S) H.size)) (hf : cells + mc ≤ R.cells ∧ slots + ms ≤ R.slots) :
    va_Run p l e R s m args below meth c H locs cells slots mc ms (F0 m pc ls (ma_ts ad st)) (ma_ts ad rest) (ma_Qc D kA ad S S₉ v (ma_ts ad as).toArray) (va_A (ma_wl kA ad S) H.size) := by
  have hpre := fun U hU hW => ma_pre (as := as) C Wd U hU hW
  obtain ⟨hx, hb, hml, hown, hts, hK, hN, hini, hR1, hR2, hA⟩ := C
  obtain ⟨hl, hh, hL, hc, hP, hD, hS, hX⟩ := Wd
  obtain ⟨m1, m2, m3, m4, m5, m6⟩ := ma_md_spec hmd
  have hws := ma_ws_ok hts m1
  have hfr : (ma_rm (d - 1) (w - (19 + nL₉)) mc ms).frames + 1 ≤ R.frames := by show d - 1 + 1 ≤ _; omega
  have hlo : 8 + (nL₉ + 11) + (ma_rm (d - 1) (w - (19 + nL₉)) mc ms).locals ≤ R.locals := by show 8 + (nL₉ + 11) + (w - (19 + nL₉)) ≤ _; omega
  have hcode : Cond.code y cc₉ nL₉ ret₉ ∈ ma_ws y cc₉ nL₉ ret₉ := List.mem_cons_self
  have hW8 : 2 * (F0 m pc ls (ma_ts ad st)).monitorRoom + ((ma_ts ad rest).map fun v => v.category).sum ≤ 8 := lv_room (by rw [ma_sz_ts]; exact h3)
  have recv : ∀ b, ma_is S b = true → 1 ≤ (mH S b).1 → (mH S b).1 ≤ 12 → (∃ cellB : Cell, H[ad b]? = some cellB ∧ cellB.vm.isStatics = false ∧ s.vm.findClass (ma_cn (mH S b).1) = some cellB.cls) ∧ ∃ cC, ClassAt s (ma_cn (mH S b).1) cC := by
    intro b hb1 t1 t2
    simp only [ma_is, Bool.and_eq_true, decide_eq_true_eq] at hb1
    obtain ⟨C, T, hcl, -, -, -⟩ := ma_clok_all t1 t2
    have hC := ma_cn_cl t1 t2 hcl
    subst hC
    exact ⟨va_recv (a := ad b) (fs := ma_fs ad S b (mH S b).1) hK hP hcl ((ma_wl_at hb1.1 hb1.2).trans (by rw [ma_E_obj (by omega)])), _, (hK.1 _ _ hcl).2⟩
  have rcv : ∀ b t, ma_rt S b = some t → ∃ cellB : Cell, H[ad b]? = some cellB ∧ cellB.vm.isStatics = false ∧ s.vm.findClass (ma_cn t) = some cellB.cls := by
    intro b t hrt
    unfold ma_rt at hrt
    split at hrt
    · next hlt =>
      cases hrt
      exact vk_recv hX.2.2.1 hlt hS
    · split at hrt
      · next hbb =>
        simp only [Bool.and_eq_true, decide_eq_true_eq] at hbb
        cases hrt
        exact (recv b hbb.1.1 hbb.1.2 hbb.2).1
      · cases hrt
  have stk : ∀ (j b : Nat) (r : List ma_V), st.drop j = .inr (.inr (some b)) :: r → ma_ts ad st = (ma_ts ad (st.take j).reverse).reverse ++ Value.ref (ad b) :: ma_ts ad r ∧ (ma_ts ad (st.take j).reverse).length = j := by
    intro j b r hdr
    constructor
    · have h0 : ma_ts ad st = ma_ts ad (st.take j ++ st.drop j) := by rw [List.take_append_drop]
      rw [h0, hdr]
      unfold ma_ts
      rw [List.map_append, List.map_reverse, List.reverse_reverse]
      rfl
    · have hj : j < st.length := by
        rcases Nat.lt_or_ge j st.length with z | z
        · exact z
        · rw [List.drop_eq_nil_of_le z] at hdr; cases hdr
      unfold ma_ts
      rw [List.length_map, List.length_reverse, List.length_take]
      omega
  have lenOf : ∀ {nn : Nat}, (parseMethodDescriptor y.desc).map (fun d => d.parameters.length) = some nn → ∀ sig, parseMethodDescriptor y.desc = some sig → nn = sig.parameters.length := by
    intro nn hp sig hs
    rw [hs] at hp
    exact (Option.some.inj hp).symm
  unfold ma_cl at h
  split at h
  · next x =>
    split at h
    · cases h
    · next q0 hq0 =>
      split at h
      · next b r hdr =>
        split at h
        · cases h
        · next t hrt =>
          split at h
          · next q hq =>
            split at h
            · next hn =>
              cases h
              obtain ⟨w1, w2, w3, w4, w5, w6⟩ := ma_fd_spec hq
              have w4 : q.1.2.2 = t := w4.resolve_left (by simp)
              obtain ⟨s1, s2⟩ := stk _ _ _ hdr
              have rc := rcv b t hrt
              have hp : PreV s H (ma_cn t) (ad b) (ma_Pc X D kA ad S (.inr (.inr (some b)) :: (st.take q0.2.1.2.2).reverse) H.size) (ma_ts ad (st.take q0.2.1.2.2).reverse) := ⟨ma_Pc_blind, rc, hpre⟩
              unfold ma_clc at w1
              rw [hmd] at w1
              simp only [w2, w3, w4, Bool.and_eq_true] at w1
              have hlen := lenOf (of_decide_eq_true w1.1)
              rw [hn] at hlen
              have w1 := w1.2
              split at w1
              · simp only [Bool.and_eq_true] at w1
                exact va_runV ⟨hx, hb, hml, hown, hts⟩ hM ⟨⟨rfl, rfl, hfr, hlo, hws, hcode, hts _ m1, hts _ m2, ⟨m5, m6⟩, hlen, hts _ (ma_w_in w1.1.1)⟩, hts _ (ma_w_in w1.1.2), hts _ (ma_w_in w1.2)⟩ hp rfl s2 hl.1 s1 hW8 hd hf
              · simp only [Bool.and_eq_true] at w1
                exact va_runV ⟨hx, hb, hml, hown, hts⟩ hM ⟨⟨rfl, rfl, hfr, hlo, hws, hcode, hts _ m1, hts _ m2, ⟨m5, m6⟩, hlen, hts _ (ma_w_in w1.1.1.1)⟩, hts _ (ma_w_in w1.1.1.2), hts _ (ma_TB_p w1.1.2 w1.2)⟩ hp rfl s2 hl.1 s1 hW8 hd hf
              · simp only [Bool.and_eq_true] at w1
                have hy : y = ⟨ma_cn q.2.2.1.2, y.name, y.desc⟩ := by rw [← of_decide_eq_true w1.2]
                exact va_runU (x := ⟨ma_cn q.2.2.1.1, y.name, y.desc⟩) (owner := ma_cn q.2.2.1.2) ⟨hx, hb, hml, hown, hts⟩ hM ⟨⟨rfl, rfl, hfr, hlo, hws, hcode⟩, hts _ m1, hts _ m2, ma_cn_mh _, hlen, hts _ (ma_w_in w1.1.1.1.1), hts _ (ma_w_in w1.1.1.1.2), hy ▸ va_Decl.of (hts _ (ma_w_in w1.1.2)) (hts _ m1), hts _ (ma_w_in w1.1.1.2), hts _ (ma_w_in w1.1.2)⟩ hp rfl s2 hl.1 s1 hW8 hd hf
              · simp only [Bool.and_eq_true] at w1
                have w9 := w1.2
                split at w9
                · next y0 _ _ _ hm0 =>
                  simp only [Bool.and_eq_true] at w9
                  have hy0 := of_decide_eq_true w9.1
                  have hde : va_Decl s ⟨ma_cn q.2.2.1.2, y.name, y.desc⟩ := by
                    rw [← hy0]
                    exact va_Decl.of (hts _ (ma_w_in w9.2)) (hts _ (ma_md_spec hm0).1)
                  exact va_runU (x := ⟨ma_cn q.2.2.1.1, y.name, y.desc⟩) (owner := ma_cn q.2.2.1.2) ⟨hx, hb, hml, hown, hts⟩ hM ⟨⟨rfl, rfl, hfr, hlo, hws, hcode⟩, hts _ m1, hts _ m2, ma_cn_mh _, hlen, hts _ (ma_w_in w1.1.1.1.1), hts _ (ma_w_in w1.1.1.1.2), hde, hts _ (ma_w_in w1.1.1.2), hts _ (ma_w_in w1.1.2)⟩ hp rfl s2 hl.1 s1 hW8 hd hf
                · cases w9
              · simp only [Bool.and_eq_true] at w1
                exact va_runU (x := ⟨ma_cn q.2.2.1.1, y.name, y.desc⟩) (owner := ma_cn q.2.2.1.2) ⟨hx, hb, hml, hown, hts⟩ hM ⟨⟨rfl, rfl, hfr, hlo, hws, hcode⟩, hts _ m1, hts _ m2, ma_cn_mh _, hlen, hts _ (ma_w_in w1.1.1.1.1), hts _ (ma_w_in w1.1.1.1.2), va_Decl.abs (hN.1 _ (of_decide_eq_true w1.2)), hts _ (ma_w_in w1.1.1.2), hts _ (ma_w_in w1.1.2)⟩ hp rfl s2 hl.1 s1 hW8 hd hf
              all_goals first | omega | (rename_i hk; omega) | cases w1
            · cases h
          · cases h
      · cases h
  · next x =>
    split at h
    · cases h
    · next q hq =>
      split at h
      · next hk =>
        cases h
        obtain ⟨w1, w2, w3, w4, w5, w6⟩ := ma_fd_spec hq
        have s2 : (ma_ts ad (st.take q.2.1.2.2).reverse).length = q.2.1.2.2 := by
          unfold ma_ts
          rw [List.length_map, List.length_reverse, List.length_take]
          omega
        have s1 : ma_ts ad st = (ma_ts ad (st.take q.2.1.2.2).reverse).reverse ++ ma_ts ad (st.drop q.2.1.2.2) := by
          have h0 : ma_ts ad st = ma_ts ad (st.take q.2.1.2.2 ++ st.drop q.2.1.2.2) := by rw [List.take_append_drop]
          rw [h0]
          unfold ma_ts
          rw [List.map_append, List.map_reverse, List.reverse_reverse]
        have hp : PreS s H (ma_Pc X D kA ad S (st.take q.2.1.2.2).reverse H.size) (ma_ts ad (st.take q.2.1.2.2).reverse) := ⟨ma_Pc_blind, hpre⟩
        unfold ma_clc at w1
        rw [hmd] at w1
        simp only [w2, w3, Bool.and_eq_true] at w1
        have hlen := lenOf (of_decide_eq_true w1.1)
        have w1 := w1.2
        split at w1
        all_goals first | omega | (rename_i hk9; omega) | skip
        · simp only [Bool.and_eq_true] at w1
          exact va_runS ⟨hx, hb, hml, hown, hts⟩ hM ⟨⟨rfl, rfl, hfr, hlo, hws, hcode, hts _ m1, hts _ m2, ⟨m5, m6⟩, hlen, hts _ (ma_w_in w1.1)⟩, hts _ (ma_w_in w1.2)⟩ hp rfl s2 hl.1 s1 hW8 hd hf
        · simp only [Bool.and_eq_true] at w1
          exact va_runSN ⟨hx, hb, hml, hown, hts⟩ hM ⟨⟨⟨rfl, rfl, hfr, hlo, hws, hcode⟩, hts _ m1, hts _ m2, ⟨m5, m6⟩, hlen, va_Nw.use rfl (hN.1 _ (of_decide_eq_true w1.1))⟩, hts _ (ma_w_in w1.2), trivial⟩ hp rfl s2 hl.1 s1 hW8 hd hf
        all_goals cases w1
      · cases h
  · next x =>
    split at h
    · cases h
    · next q hq =>
      split at h
      · next b r hdr =>
        split at h
        · next hk =>
          cases h
          obtain ⟨k8, b1, b2, b3, b4⟩ := hk
          have hret : q.2.1.1 = 7 ∨ ret₉ = none := b4.imp id (fun z => by rw [hmd] at z; exact z)
          obtain ⟨w1, w2, w3, w4, w5, w6⟩ := ma_fd_spec hq
          obtain ⟨s1, s2⟩ := stk _ _ _ hdr
          obtain ⟨rc, cC, hat⟩ := recv b b1 b2 b3
          have hpv : PreV s H (ma_cn (mH S b).1) (ad b) (ma_Pc X D kA ad S (.inr (.inr (some b)) :: (st.take q.2.1.2.2).reverse) H.size) (ma_ts ad (st.take q.2.1.2.2).reverse) := ⟨ma_Pc_blind, rc, hpre⟩
          have hps : PreS s H (ma_Pc X D kA ad S (.inr (.inr (some b)) :: (st.take q.2.1.2.2).reverse) H.size) (.ref (ad b) :: ma_ts ad (st.take q.2.1.2.2).reverse) := ⟨ma_Pc_blind, hpre⟩
          unfold ma_clc at w1
          rw [hmd] at w1
          simp only [w2, w3, Bool.and_eq_true] at w1
          have hlen := lenOf (of_decide_eq_true w1.1)
          have w1 := w1.2
          split at w1
          all_goals first | omega | (rename_i hk9; omega) | skip
          · simp only [Bool.and_eq_true] at w1
            have hret : ret₉ = none := hret.resolve_left (by omega)
            subst hret
            exact va_runI ⟨hx, hb, hml, hown, hts⟩ hM ⟨⟨rfl, rfl, hfr, hlo, hws, hcode, hts _ m1, hts _ m2, ⟨m5, m6⟩, hlen, hts _ (ma_w_in w1.1.1)⟩, of_decide_eq_true w1.2, hts _ (ma_w_in w1.1.2)⟩ hps rfl s2 hl.1 s1 hW8 hd hf
          · simp only [Bool.and_eq_true] at w1
            exact va_runSU hat ⟨hx, hb, hml, hown, hts⟩ hM ⟨⟨rfl, rfl, hfr, hlo, hws, hcode⟩, hts _ (ma_w_in w1.1.1.1.1), hts _ (ma_w_in w1.1.1.1.2), hts _ (ma_w_in w1.1.1.2), hts _ (ma_w_in w1.1.2), hts _ m2, hts _ m1, of_decide_eq_true w1.2, hlen⟩ hpv rfl s2 hl.1 s1 hW8 hd hf
          · simp only [Bool.and_eq_true] at w1
            have hret : ret₉ = none := hret.resolve_left (by omega)
            subst hret
            exact va_runIN ⟨hx, hb, hml, hown, hts⟩ hM ⟨⟨⟨rfl, rfl, hfr, hlo, hws, hcode⟩, hts _ m1, hts _ m2, ⟨m5, m6⟩, hlen, va_Nw.use rfl (hN.1 _ (of_decide_eq_true w1.1.1))⟩, of_decide_eq_true w1.2, hts _ (ma_w_in w1.1.2)⟩ hps rfl s2 hl.1 s1 hW8 hd hf
          all_goals cases w1
        · cases h
      · cases h
  · cases h
end MA10

/-! from 65.run -/
/-! THE SMALL MACHINE, part 11: its run, and that the machine does as it says -/
def ma_run (X : Nat × (Nat → Int32)) : Nat → Nat → Nat → Nat → Nat → ma_L → List ma_V → ma_S → Option ((Option ma_V ⊕ (Nat × Nat)) × ma_S)
  | 0, _, _, _, _, _, _, _ => none
  | f + 1, d, w, M, pc, L, st, S => match ma_md M with
    | none => none
    | some (o, y, cc, nL, ret) => match decode cc pc with
      | .error _ => none
      | .ok (i, n) => match ma_one X o (decide (y.name = "<init>")) nL d w i n pc L st S with
        | some (pc₉, L₉, st₉, S₉) => ma_run X f d w M pc₉ L₉ st₉ S₉
        | none => match ma_ret ret i n st with
          | some v => some (.inl v, S)
          | none => match ma_thr o cc pc with
            | some x => if 6 ≤ d ∧ ma_sz st + 81 ≤ w then some (.inr (x, pc), ma_bump S) else none
            | none => match ma_cl o i n st S with
              | none => none
              | some ((k, M₉), as, rest) => match ma_md M₉ with
                | none => none
                | some (_, _, _, nL₉, _) => if 1 ≤ d ∧ 19 + nL₉ ≤ w ∧ ma_sz as ≤ nL₉ ∧ ma_sz rest ≤ 8 then (match ma_run X f (d - 1) (w - (19 + nL₉)) M₉ 0 (ma_args 0 as) [] S with
                  | some (.inl v, S₉) => ma_run X f d w M (pc + 3) L (v.toList ++ rest) S₉
                  | some (.inr (x, _), S₉) => if k ≤ 1 then some (.inr (x, pc), S₉) else none
                  | none => none) else none
theorem ma_nil_cL {n : Nat} : ma_cL n [] := fun _ h => by cases h
theorem ma_nil_cs {n : Nat} : ma_cs n [] := fun _ h => by cases h
theorem ma_opt_cs {n : Nat} {v : Option ma_V} {r : List ma_V} (h : ∀ u, v = some u → ma_cv n u) (hr : ma_cs n r) : ma_cs n (v.toList ++ r) := by
  cases v with
  | none => exact hr
  | some u => exact ma_cs_cons (h u rfl) hr
theorem ma_run_c {X : Nat × (Nat → Int32)} : ∀ (f d w M pc : Nat) (L : ma_L) (st : List ma_V) (S : ma_S) (out : Option ma_V ⊕ (Nat × Nat)) (S₉ : ma_S), ma_run X f d w M pc L st S = some (out, S₉) → ma_ch S → ma_cL (mN S) L → ma_cs (mN S) st →
    ma_ch S₉ ∧ mN S ≤ mN S₉ ∧ mC S ≤ mC S₉ ∧ mZ S ≤ mZ S₉ ∧ ∀ u, out = .inl (some u) → ma_cv (mN S₉) u := by
  intro f
  induction f with
  | zero => intro d w M pc L st S out S₉ h; cases h
  | succ f ih =>
    intro d w M pc L st S out S₉ h hh hL hc
    unfold ma_run at h
    split at h
    · cases h
    · split at h
      · cases h
      · split at h
        · next pc1 L1 st1 S1 h1 =>
          obtain ⟨a1, a2, a3, a4, a5, a6⟩ := ma_one_c hh hL hc h1
          obtain ⟨b1, b2, b3, b4, b5⟩ := ih _ _ _ _ _ _ _ _ _ h a1 a2 a3
          exact ⟨b1, by omega, by omega, by omega, b5⟩
        · split at h
          · next v hv =>
            cases h
            exact ⟨hh, Nat.le_refl _, Nat.le_refl _, Nat.le_refl _, fun u hu => ma_ret_cv hc hv u (Sum.inl.inj hu)⟩
          · split at h
            · split at h
              · cases h
                exact ⟨hh, Nat.le_refl _, Nat.le_succ _, Nat.le_add_right _ _, fun u hu => by cases hu⟩
              · cases h
            · split at h
              · cases h
              · next k M₉ as rest hcl =>
                obtain ⟨g1, g2, g3⟩ := ma_cl_c hc hcl
                split at h
                · cases h
                · split at h
                  · split at h
                    · next v S1 hr =>
                      obtain ⟨b1, b2, b3, b4, b5⟩ := ih _ _ _ _ _ _ _ _ _ hr hh (ma_args_cL as 0 g1) ma_nil_cs
                      obtain ⟨c1, c2, c3, c4, c5⟩ := ih _ _ _ _ _ _ _ _ _ h b1 (hL.mono b2) (ma_opt_cs (fun u hu => b5 u (by rw [hu])) (g2.mono b2))
                      exact ⟨c1, by omega, by omega, by omega, c5⟩
                    · next x px S1 hr =>
                      obtain ⟨b1, b2, b3, b4, b5⟩ := ih _ _ _ _ _ _ _ _ _ hr hh (ma_args_cL as 0 g1) ma_nil_cs
                      split at h
                      · cases h
                        exact ⟨b1, b2, b3, b4, fun u hu => by cases hu⟩
                      · cases h
                    · cases h
                  · cases h
/-- THE MACHINE FOLLOWS THE RUN: from any frame that stands for the run's, to where it answers or throws -/
def ma_OK (X : Nat × (Nat → Int32)) (l : Launch) (f : Nat) : Prop := ∀ (d w M pc : Nat) (L : ma_L) (st : List ma_V) (S : ma_S) (out : Option ma_V ⊕ (Nat × Nat)) (S₉ : ma_S), ma_run X f d w M pc L st S = some (out, S₉) →
  ∀ (o : Nat) (y : MethodName) (cc : ByteArray) (nL : Nat) (ret : Option FieldType), ma_md M = some (o, y, cc, nL, ret) →
  ∀ (p : Program) (e : Env) (R : Room) (s : State) (m : MethodId) (args : Array Value) (below : List Frame) (meth : Method) (c : Code) (H : Heap) (locs : List Loc) (cells slots : Nat) (Q : State → Prop) (ls : Array Slot) (ad : Nat → Nat) (kA : Nat → ClassId) (D : va_G) (A : Nat → Prop),
  ma_Cx X p R s m args meth c cc o (decide (y.name = "<init>")) nL d w D kA A → ma_Wd X s nL D kA A ad L st S H locs ls → cells + (mC S₉ - mC S) ≤ R.cells → slots + (mZ S₉ - mZ S) ≤ R.slots →
  (∀ v, out = .inl v → ∀ (ad₉ : Nat → Nat) (H1 : Heap) (locs1 : List Loc) (ls1 : Array Slot) (pc1 n1 : Nat) (i1 : Instr) (st1 : List ma_V), (∀ b, b < mN S → ad₉ b = ad b) → ma_Wd X s nL D kA A ad₉ [] st1 S₉ H1 locs1 ls1 → decode cc pc1 = .ok (i1, n1) → ma_ret ret i1 n1 st1 = some v → W p l e R s m args below meth c H1 locs1 (cells + (mC S₉ - mC S)) (slots + (mZ S₉ - mZ S)) Q (F0 m pc1 ls1 (ma_ts ad₉ st1))) →
  (∀ x px, out = .inr (x, px) → (∀ (ad₉ : Nat → Nat) (H1 : Heap) (locs1 : List Loc) (ls1 : Array Slot) (st1 : List ma_V) (S1 : ma_S), (∀ b, b < mN S → ad₉ b = ad b) → ma_Wd X s nL D kA A ad₉ [] st1 S1 H1 locs1 ls1 → S₉ = ma_bump S1 → mC S ≤ mC S1 → mZ S ≤ mZ S1 → ma_thr o cc px = some x → 6 ≤ d → ma_sz st1 + 81 ≤ w → W p l e R s m args below meth c H1 locs1 (cells + (mC S1 - mC S)) (slots + (mZ S1 - mZ S)) Q (F0 m px ls1 (ma_ts ad₉ st1))) ∧
    (∀ (ad₉ : Nat → Nat) (H1 : Heap) (locs1 : List Loc) (ls1 : Array Slot) (r1 : List ma_V) (q : Addr) (ce : Cell), (∀ b, b < mN S → ad₉ b = ad b) → ma_Wd X s nL D kA A ad₉ [] r1 S₉ H1 locs1 ls1 → H1[q]? = some ce → ce.vm = .none → s.vm.findClass (ma_xn x) = some ce.cls → vx_W p l e R s m args below meth c H1 locs1 (cells + (mC S₉ - mC S)) (slots + (mZ S₉ - mZ S)) Q (F0 m px ls1 (ma_ts ad₉ r1)) q)) →
  W p l e R s m args below meth c H locs cells slots Q (F0 m pc ls (ma_ts ad st))
section MA11
variable {X : Nat × (Nat → Int32)} {l : Launch} {f d w M o nL : Nat} {y : MethodName} {cc : ByteArray} {ret : Option FieldType} {as : List ma_V} {S S₉ : ma_S}
theorem ma_entry {p : Program} {e : Env} {s s₁ : State} {m : MethodId} {args : Array Value} {below : List Frame} {meth : Method} {c : Code} {rm : Room} {D : va_G} {kA : Nat → ClassId} {ad : Nat → Nat} {sz : Nat} (hmd : ma_md M = some (o, y, cc, nL, ret)) (hh : ma_ch S) (has : ma_cs (mN S) as) (hsz : ma_sz as ≤ nL)
    (B : BodyLoose p l y (headSpec (ma_ws y cc nL ret) rm) cc nL ret e s m args below meth c s₁) (hml : c.maxLocals = nL) (hv : ma_Pc X D kA ad S as sz args s) :
    ma_Cx X p rm s m args meth c cc o (decide (y.name = "<init>")) nL rm.frames rm.locals D kA (va_A (ma_wl kA ad S) sz) ∧ args = (ma_ts ad as).toArray ∧ s.heap.size = sz ∧
      ∃ ls : Array Slot, entryFrame m args nL = F0 m 0 ls [] ∧ ma_Wd X s nL D kA (va_A (ma_wl kA ad S) sz) ad (ma_args 0 as) [] S s.heap [] ls := by
  obtain ⟨rfl, rfl, hP, hK, hD0, hN, hX⟩ := hv
  obtain ⟨m1, m2, m3, m4, m5, m6⟩ := ma_md_spec hmd
  have hts := atoms_spec (ws := ma_ws y cc nL ret) B.pre
  have hown : s.vm.findClass y.cls = some m.cls := findClass_of_methodNamed B.named
  have hin : meth.name = y.name := (name_of_methodNamed B.named B.method).1
  have hl := lv_entry (ma_ts ad as) (n := nL) (by rw [ma_args_len]; exact hsz)
  refine ⟨⟨B.exec, B.bytes, hml, m3 ▸ hown, fun w hw => hts w (List.mem_cons_of_mem _ hw), hK, hN, fun h => hin.trans (of_decide_eq_true h), Nat.le_refl _, Nat.le_refl _, fun q h => Or.inr h⟩, rfl, rfl, _, lg_entry_eq m (ma_ts ad as) nL, ?_⟩
  rw [← ma_args_tl] at hl
  exact ⟨hl, hh, ma_args_cL as 0 has, ma_nil_cs, hP, hD0.self, va_S.rf, hX⟩
theorem ma_met (IH : ma_OK X l f) (hmd : ma_md M = some (o, y, cc, nL, ret)) (hh : ma_ch S) (has : ma_cs (mN S) as) (hsz : ma_sz as ≤ nL) {v : Option ma_V} (hrun : ma_run X f d w M 0 (ma_args 0 as) [] S = some (.inl v, S₉)) (D : va_G) (kA : Nat → ClassId) (ad : Nat → Nat) (sz : Nat) :
    Met l y (ma_ws y cc nL ret) (ma_rm d w (mC S₉ - mC S) (mZ S₉ - mZ S)) (ma_Pc X D kA ad S as sz) (ma_Qc D kA ad S S₉ v) (mC S₉ - mC S) (mZ S₉ - mZ S) (va_A (ma_wl kA ad S) sz) := by
  refine Met.ofW (cc := cc) (maxL := nL) (ret := ret) (ma_md_spec hmd).2.2.2.1 rfl ?_
  intro p e s m args below meth c s₁ B hml hv
  obtain ⟨C, ha, hz, ls, hfr, Wd⟩ := ma_entry hmd hh has hsz B hml hv
  rw [hfr]
  refine IH d w M 0 (ma_args 0 as) [] S (.inl v) S₉ hrun o y cc nL ret hmd p e _ s m args below meth c s.heap [] 0 0 _ ls ad kA D _ C Wd (by show 0 + _ ≤ mC S₉ - mC S; omega) (by show 0 + _ ≤ mZ S₉ - mZ S; omega) ?_ (fun x px h => by cases h)
  intro v1 hv1 ad₉ H1 locs1 ls1 pc1 n1 i1 st1 hag Wd1 hd1 hr1
  cases hv1
  obtain ⟨hl, hh1, hL1, hc1, hP1, hD1, hS1, hX1⟩ := Wd1
  rw [Nat.zero_add, Nat.zero_add]
  refine ma_ret_ok C.1 C.2.1 B.notSynchronized B.returns hd1 hr1 (fun t ht hW => ⟨ad₉, rfl, hag, by rw [ht]; exact hP1, ?_, ?_⟩) hS1.2.2
  · rw [hz]; exact hD1
  · rw [hz]; exact hS1.F ht
theorem ma_metx (IH : ma_OK X l f) (hlt : l.stackTraces = false) (hmd : ma_md M = some (o, y, cc, nL, ret)) (hh : ma_ch S) (has : ma_cs (mN S) as) (hsz : ma_sz as ≤ nL) {x px : Nat} (hrun : ma_run X f d w M 0 (ma_args 0 as) [] S = some (.inr (x, px), S₉)) (D : va_G) (kA : Nat → ClassId) (ad : Nat → Nat) (sz : Nat) :
    vx_Met l y (ma_ws y cc nL ret) (ma_rm d w (mC S₉ - mC S) (mZ S₉ - mZ S)) (ma_Pc X D kA ad S as sz) (fun _ _ _ _ => False) (ma_Qx D kA ad S S₉ (ma_xn x)) (mC S₉ - mC S) (mZ S₉ - mZ S) (va_A (ma_wl kA ad S) sz) := by
  refine vx_ofW (cc := cc) (maxL := nL) (ret := ret) (ma_md_spec hmd).2.2.2.1 rfl ?_
  intro p e s m args below meth c s₁ B hml htb hv
  obtain ⟨C, ha, hz, ls, hfr, Wd⟩ := ma_entry hmd hh has hsz B hml hv
  rw [hfr]
  have hcnt := ma_run_c _ _ _ _ _ _ _ _ _ _ hrun hh (ma_args_cL as 0 has) ma_nil_cs
  refine IH d w M 0 (ma_args 0 as) [] S (.inr (x, px)) S₉ hrun o y cc nL ret hmd p e _ s m args below meth c s.heap [] 0 0 _ ls ad kA D _ C Wd (by show 0 + _ ≤ mC S₉ - mC S; omega) (by show 0 + _ ≤ mZ S₉ - mZ S; omega) (fun v h => by cases h) ?_
  intro x1 px1 hx1
  cases hx1
  refine ⟨fun ad₉ H1 locs1 ls1 st1 S1 hag Wd1 hS₉ hm1 hm2 hth h6 hw => ?_, fun ad₉ H1 locs1 ls1 r1 q ce hag Wd1 hce hcv hcl => ?_⟩
  · obtain ⟨hl, hh1, hL1, hc1, hP1, hD1, hS1, hX1⟩ := Wd1
    subst hS₉
    have e1 : mC (ma_bump S1) = mC S1 + 1 := rfl
    have e2 : mZ (ma_bump S1) = mZ S1 + 6 := rfl
    refine ma_thr_ok C.1 C.2.1 hlt C.2.2.2.1 C.2.2.2.2.1 C.2.2.2.2.2.2.1 hX1.1.1 hX1.1.2 hS1 (hl.1.trans hml.symm) B.notSynchronized htb hth (by show 6 ≤ d; exact h6) (by rw [ma_sz_ts]; show _ ≤ w; exact hw) (by show _ ≤ mC (ma_bump S1) - mC S; omega) (by show _ ≤ mZ (ma_bump S1) - mZ S; omega) (fun t hvm hz1 hk1 => ?_) hS1.2.2 (by omega) (by omega)
    refine ⟨rfl, ad₉, hag, ?_, ?_, ?_⟩
    · exact va_P.kept hP1 (fun k q hk => hk1 q.1 (hP1 k q hk).lt)
    · rw [hz]; exact hD1
    · rw [hz]
      exact ⟨Nat.le_trans hS1.1 hz1, fun q h1 h2 => by rw [hk1 q (Nat.lt_of_lt_of_le h1 hS1.1)]; exact hS1.2.1 q h1 h2⟩
  · obtain ⟨hl, hh1, hL1, hc1, hP1, hD1, hS1, hX1⟩ := Wd1
    refine vx_out (fun x hx => (htb x hx).elim) B.notSynchronized hce hcv hcl (fun t ht hvm => ⟨rfl, ad₉, hag, by rw [ht]; exact hP1, ?_, ?_⟩) hS1.2.2 (by omega) (by omega)
    · rw [hz]; exact hD1
    · rw [hz]; exact hS1.F ht
end MA11

/-! from 68.follow -/
/-! THE SMALL MACHINE, part 12: the machine follows every run -/
section MA12
variable {p : Program} {l : Launch} {e : Env} {R : Room} {s : State} {m : MethodId} {args : Array Value} {below : List Frame} {meth : Method} {c : Code} {H : Heap} {locs : List Loc} {cells slots : Nat} {Q : State → Prop} {cc : ByteArray} {pc : Nat} {ls : Array Slot} {ad : Nat → Nat} {kA : Nat → ClassId} {D : va_G} {A : Nat → Prop}
theorem ma_cl_thr {X : Nat × (Nat → Int32)} {o nL d w n kd M o₉ nL₉ mc ms : Nat} {ini : Bool} {i : Instr} {L : ma_L} {st as rest : List ma_V} {S S₉ : ma_S} {y : MethodName} {cc₉ : ByteArray} {ret₉ : Option FieldType} {E : String}
    (C : ma_Cx X p R s m args meth c cc o ini nL d w D kA A) (Wd : ma_Wd X s nL D kA A ad L st S H locs ls) (hd : decode cc pc = .ok (i, n)) (h : ma_cl o i n st S = some ((kd, M), as, rest)) (hkd : kd ≤ 1) (hmd : ma_md M = some (o₉, y, cc₉, nL₉, ret₉)) (h1 : 1 ≤ d) (h2 : 19 + nL₉ ≤ w) (h3 : ma_sz rest ≤ 8)
    (hM : vx_Met l y (ma_ws y cc₉ nL₉ ret₉) (ma_rm (d - 1) (w - (19 + nL₉)) mc ms) (ma_Pc X D kA ad S as H.size) (fun _ _ _ _ => False) (ma_Qx D kA ad S S₉ E) mc ms (va_A (ma_wl kA ad S) H.size)) (hf : cells + mc ≤ R.cells ∧ slots + ms ≤ R.slots) :
    vx_Run p l e R s m args below meth c H locs cells slots mc ms (F0 m pc ls (ma_ts ad st)) (ma_ts ad rest) (fun _ _ _ => False) (ma_Qx D kA ad S S₉ E) (va_A (ma_wl kA ad S) H.size) := by
  have hpre := fun U hU hW => ma_pre (as := as) C Wd U hU hW
  obtain ⟨hx, hb, hml, hown, hts, hK, hN, hini, hR1, hR2, hA⟩ := C
  obtain ⟨hl, hh, hL, hc, hP, hD, hS, hX⟩ := Wd
  obtain ⟨m1, m2, m3, m4, m5, m6⟩ := ma_md_spec hmd
  have hws := ma_ws_ok hts m1
  have hfr : (ma_rm (d - 1) (w - (19 + nL₉)) mc ms).frames + 1 ≤ R.frames := by show d - 1 + 1 ≤ _; omega
  have hlo : 8 + (nL₉ + 11) + (ma_rm (d - 1) (w - (19 + nL₉)) mc ms).locals ≤ R.locals := by show 8 + (nL₉ + 11) + (w - (19 + nL₉)) ≤ _; omega
  have hcode : Cond.code y cc₉ nL₉ ret₉ ∈ ma_ws y cc₉ nL₉ ret₉ := List.mem_cons_self
  have hW8 : 2 * (F0 m pc ls (ma_ts ad st)).monitorRoom + ((ma_ts ad rest).map fun v => v.category).sum ≤ 8 := lv_room (by rw [ma_sz_ts]; exact h3)
  have recv : ∀ b, ma_is S b = true → 1 ≤ (mH S b).1 → (mH S b).1 ≤ 12 → ∃ cellB : Cell, H[ad b]? = some cellB ∧ cellB.vm.isStatics = false ∧ s.vm.findClass (ma_cn (mH S b).1) = some cellB.cls := by
    intro b hb1 t1 t2
    simp only [ma_is, Bool.and_eq_true, decide_eq_true_eq] at hb1
    obtain ⟨C, T, hcl, -, -, -⟩ := ma_clok_all t1 t2
    have hC := ma_cn_cl t1 t2 hcl
    subst hC
    exact va_recv (a := ad b) (fs := ma_fs ad S b (mH S b).1) hK hP hcl ((ma_wl_at hb1.1 hb1.2).trans (by rw [ma_E_obj (by omega)]))
  have rcv : ∀ b t, ma_rt S b = some t → ∃ cellB : Cell, H[ad b]? = some cellB ∧ cellB.vm.isStatics = false ∧ s.vm.findClass (ma_cn t) = some cellB.cls := by
    intro b t hrt
    unfold ma_rt at hrt
    split at hrt
    · next hlt =>
      cases hrt
      exact vk_recv hX.2.2.1 hlt hS
    · split at hrt
      · next hbb =>
        simp only [Bool.and_eq_true, decide_eq_true_eq] at hbb
        cases hrt
        exact recv b hbb.1.1 hbb.1.2 hbb.2
      · cases hrt
  have stk : ∀ (j b : Nat) (r : List ma_V), st.drop j = .inr (.inr (some b)) :: r → ma_ts ad st = (ma_ts ad (st.take j).reverse).reverse ++ Value.ref (ad b) :: ma_ts ad r ∧ (ma_ts ad (st.take j).reverse).length = j := by
    intro j b r hdr
    constructor
    · have h0 : ma_ts ad st = ma_ts ad (st.take j ++ st.drop j) := by rw [List.take_append_drop]
      rw [h0, hdr]
      unfold ma_ts
      rw [List.map_append, List.map_reverse, List.reverse_reverse]
      rfl
    · have hj : j < st.length := by
        rcases Nat.lt_or_ge j st.length with z | z
        · exact z
        · rw [List.drop_eq_nil_of_le z] at hdr; cases hdr
      unfold ma_ts
      rw [List.length_map, List.length_reverse, List.length_take]
      omega
  have lenOf : ∀ {nn : Nat}, (parseMethodDescriptor y.desc).map (fun d => d.parameters.length) = some nn → ∀ sig, parseMethodDescriptor y.desc = some sig → nn = sig.parameters.length := by
    intro nn hp sig hs
    rw [hs] at hp
    exact (Option.some.inj hp).symm
  unfold ma_cl at h
  split at h
  · next x =>
    split at h
    · cases h
    · next q0 hq0 =>
      split at h
      · next b r hdr =>
        split at h
        · cases h
        · next t hrt =>
          split at h
          · next q hq =>
            split at h
            · next hn =>
              cases h
              obtain ⟨w1, w2, w3, w4, w5, w6⟩ := ma_fd_spec hq
              have w4 : q.1.2.2 = t := w4.resolve_left (by simp)
              obtain ⟨s1, s2⟩ := stk _ _ _ hdr
              have rc := rcv b t hrt
              have hp : PreV s H (ma_cn t) (ad b) (ma_Pc X D kA ad S (.inr (.inr (some b)) :: (st.take q0.2.1.2.2).reverse) H.size) (ma_ts ad (st.take q0.2.1.2.2).reverse) := ⟨ma_Pc_blind, rc, hpre⟩
              unfold ma_clc at w1
              rw [hmd] at w1
              simp only [w2, w3, w4, Bool.and_eq_true] at w1
              have hlen := lenOf (of_decide_eq_true w1.1)
              rw [hn] at hlen
              have w1 := w1.2
              split at w1
              all_goals first | omega | (rename_i hk9; omega) | skip
              · simp only [Bool.and_eq_true] at w1
                exact vx_runV ⟨hx, hb, hml, hown, hts⟩ hM ⟨⟨rfl, rfl, hfr, hlo, hws, hcode, hts _ m1, hts _ m2, ⟨m5, m6⟩, hlen, hts _ (ma_w_in w1.1.1)⟩, hts _ (ma_w_in w1.1.2), hts _ (ma_w_in w1.2)⟩ hp rfl s2 hl.1 s1 hW8 hd hf
              · simp only [Bool.and_eq_true] at w1
                exact vx_runV ⟨hx, hb, hml, hown, hts⟩ hM ⟨⟨rfl, rfl, hfr, hlo, hws, hcode, hts _ m1, hts _ m2, ⟨m5, m6⟩, hlen, hts _ (ma_w_in w1.1.1.1)⟩, hts _ (ma_w_in w1.1.1.2), hts _ (ma_TB_p w1.1.2 w1.2)⟩ hp rfl s2 hl.1 s1 hW8 hd hf
              all_goals cases w1
            · cases h
          · cases h
      · cases h
  · next x =>
    split at h
    · cases h
    · next q hq =>
      split at h
      · next hk =>
        cases h
        have := (ma_fd_spec hq).2.2.2.2.1
        omega
      · cases h
  · next x =>
    split at h
    · cases h
    · next q hq =>
      split at h
      · split at h
        · cases h
          have := (ma_fd_spec hq).2.2.2.2.1
          omega
        · cases h
      · cases h
  · cases h
end MA12
theorem ma_ts_app (ad : Nat → Nat) (v : Option ma_V) (r : List ma_V) : (v.map (ma_tv ad)).toList ++ ma_ts ad r = ma_ts ad (v.toList ++ r) := by
  cases v <;> rfl
theorem ma_ok_all (X : Nat × (Nat → Int32)) (l : Launch) (hlt : l.stackTraces = false) : ∀ f, ma_OK X l f := by
  intro f
  induction f with
  | zero => intro d w M pc L st S out S₉ h; cases h
  | succ f ih =>
    intro d w M pc L st S out S₉ h o y cc nL ret hmd p e R s m args below meth c H locs cells slots Q ls ad kA D A C Wd hr1 hr2 kr kt
    have hcnt := ma_run_c _ _ _ _ _ _ _ _ _ _ h Wd.2.1 Wd.2.2.1 Wd.2.2.2.1
    unfold ma_run at h
    rw [hmd] at h
    simp only at h
    split at h
    · cases h
    · next i n hd =>
      split at h
      · next pc1 L1 st1 S1 h1 =>
        have cl := ma_one_c Wd.2.1 Wd.2.2.1 Wd.2.2.2.1 h1
        have cnt1 := ma_run_c _ _ _ _ _ _ _ _ _ _ h cl.1 cl.2.1 cl.2.2.1
        have ec : mC S₉ - mC S = (mC S1 - mC S) + (mC S₉ - mC S1) := by omega
        have ez : mZ S₉ - mZ S = (mZ S1 - mZ S) + (mZ S₉ - mZ S1) := by omega
        refine ma_one_ok C Wd hd h1 (by omega) (by omega) (fun ad1 H1 locs1 ls1 hag Wd1 => ?_)
        refine ih d w M pc1 L1 st1 S1 out S₉ h o y cc nL ret hmd p e R s m args below meth c H1 locs1 _ _ Q ls1 ad1 kA D A C Wd1 (by omega) (by omega) ?_ ?_
        · intro v hv ad2 H2 locs2 ls2 pc2 n2 i2 st2 hag2 Wd2 hd2 hret
          have := kr v hv ad2 H2 locs2 ls2 pc2 n2 i2 st2 (fun b hb => (hag2 b (by omega)).trans (hag b hb)) Wd2 hd2 hret
          rw [ec, ez, ← Nat.add_assoc, ← Nat.add_assoc] at this
          exact this
        · intro x px hx
          obtain ⟨k1, k2⟩ := kt x px hx
          refine ⟨fun ad2 H2 locs2 ls2 st2 S2 hag2 Wd2 hb2 hm1 hm2 hth h6 hw => ?_, fun ad2 H2 locs2 ls2 r2 q ce hag2 Wd2 hce hcv hcl => ?_⟩
          · have := k1 ad2 H2 locs2 ls2 st2 S2 (fun b hb => (hag2 b (by omega)).trans (hag b hb)) Wd2 hb2 (by omega) (by omega) hth h6 hw
            rw [show mC S2 - mC S = (mC S1 - mC S) + (mC S2 - mC S1) by omega, show mZ S2 - mZ S = (mZ S1 - mZ S) + (mZ S2 - mZ S1) by omega, ← Nat.add_assoc, ← Nat.add_assoc] at this
            exact this
          · have := k2 ad2 H2 locs2 ls2 r2 q ce (fun b hb => (hag2 b (by omega)).trans (hag b hb)) Wd2 hce hcv hcl
            rw [ec, ez, ← Nat.add_assoc, ← Nat.add_assoc] at this
            exact this
      · split at h
        · next v hv =>
          cases h
          have hWd := Wd
          obtain ⟨hl, hh, hL, hc, hP, hD, hS, hX⟩ := Wd
          have := kr v rfl ad H locs ls pc n i st (fun _ _ => rfl) ⟨⟨hl.1, hl.2.1, fun q hq => by cases hq⟩, hh, ma_nil_cL, hc, hP, hD, hS, hX⟩ hd hv
          simp only [Nat.sub_self, Nat.add_zero] at this
          exact this
        · split at h
          · next x hth =>
            split at h
            · next hroom =>
              cases h
              obtain ⟨hl, hh, hL, hc, hP, hD, hS, hX⟩ := Wd
              have := (kt x pc rfl).1 ad H locs ls st S (fun _ _ => rfl) ⟨⟨hl.1, hl.2.1, fun q hq => by cases hq⟩, hh, ma_nil_cL, hc, hP, hD, hS, hX⟩ rfl (Nat.le_refl _) (Nat.le_refl _) hth hroom.1 hroom.2
              simp only [Nat.sub_self, Nat.add_zero] at this
              exact this
            · cases h
          · split at h
            · cases h
            · next k M₉ as rest hcl =>
              obtain ⟨g1, g2, g3⟩ := ma_cl_c Wd.2.2.2.1 hcl
              split at h
              · cases h
              · next o₉ y₉ cc₉ nL₉ ret₉ hmd₉ =>
                split at h
                · next hroom =>
                  obtain ⟨r1, r2, r3, r4⟩ := hroom
                  split at h
                  · next v S1 hrun =>
                    have cnt1 := ma_run_c _ _ _ _ _ _ _ _ _ _ hrun Wd.2.1 (ma_args_cL as 0 g1) ma_nil_cs
                    have cs1 : ma_cs (mN S1) (v.toList ++ rest) := ma_opt_cs (fun u hu => cnt1.2.2.2.2 u (by rw [hu])) (g2.mono cnt1.2.1)
                    have cnt2 := ma_run_c _ _ _ _ _ _ _ _ _ _ h cnt1.1 (Wd.2.2.1.mono cnt1.2.1) cs1
                    have ec : mC S₉ - mC S = (mC S1 - mC S) + (mC S₉ - mC S1) := by omega
                    have ez : mZ S₉ - mZ S = (mZ S1 - mZ S) + (mZ S₉ - mZ S1) := by omega
                    have hmet := ma_met ih hmd₉ Wd.2.1 g1 r3 hrun D kA ad H.size
                    have hrn := ma_cl_run (l := l) (e := e) (below := below) (cells := cells) (slots := slots) C Wd hd hcl hmd₉ r1 r2 r4 hmet ⟨by omega, by omega⟩
                    have hA := C.2.2.2.2.2.2.2.2.2.2
                    have hl := Wd.1
                    refine ma_called hrn Wd.2.2.2.2.2.1 Wd.2.2.2.2.2.2.1 hA (fun ad1 H1 locs1 hag hP1 hD1 hS1 => ?_)
                    have hrest : ma_ts ad1 rest = ma_ts ad rest := ma_ts_ad g2 hag
                    rw [← hrest, ma_ts_app]
                    have Wd1 : ma_Wd X s nL D kA A ad1 L (v.toList ++ rest) S1 H1 locs1 ls := ⟨by rw [ma_tl_ad Wd.2.2.1 hag]; exact hl, cnt1.1, Wd.2.2.1.mono cnt1.2.1, cs1, hP1, hD1, hS1, Wd.2.2.2.2.2.2.2.ad (fun b hb => hag b (Nat.lt_of_lt_of_le hb Wd.2.1.2))⟩
                    refine ih d w M (pc + 3) L (v.toList ++ rest) S1 out S₉ h o y cc nL ret hmd p e R s m args below meth c H1 locs1 _ _ Q ls ad1 kA D A C Wd1 (by omega) (by omega) ?_ ?_
                    · intro v2 hv ad2 H2 locs2 ls2 pc2 n2 i2 st2 hag2 Wd2 hd2 hret
                      have := kr v2 hv ad2 H2 locs2 ls2 pc2 n2 i2 st2 (fun b hb => (hag2 b (by omega)).trans (hag b hb)) Wd2 hd2 hret
                      rw [ec, ez, ← Nat.add_assoc, ← Nat.add_assoc] at this
                      exact this
                    · intro x px hx
                      obtain ⟨k1, k2⟩ := kt x px hx
                      refine ⟨fun ad2 H2 locs2 ls2 st2 S2 hag2 Wd2 hb2 hm1 hm2 hth h6 hw => ?_, fun ad2 H2 locs2 ls2 r2 q ce hag2 Wd2 hce hcv hcl => ?_⟩
                      · have := k1 ad2 H2 locs2 ls2 st2 S2 (fun b hb => (hag2 b (by omega)).trans (hag b hb)) Wd2 hb2 (by omega) (by omega) hth h6 hw
                        rw [show mC S2 - mC S = (mC S1 - mC S) + (mC S2 - mC S1) by omega, show mZ S2 - mZ S = (mZ S1 - mZ S) + (mZ S2 - mZ S1) by omega, ← Nat.add_assoc, ← Nat.add_assoc] at this
                        exact this
                      · have := k2 ad2 H2 locs2 ls2 r2 q ce (fun b hb => (hag2 b (by omega)).trans (hag b hb)) Wd2 hce hcv hcl
                        rw [ec, ez, ← Nat.add_assoc, ← Nat.add_assoc] at this
                        exact this
                  · next x px S1 hrun =>
                    split at h
                    · next hk =>
                      cases h
                      have cnt1 := ma_run_c _ _ _ _ _ _ _ _ _ _ hrun Wd.2.1 (ma_args_cL as 0 g1) ma_nil_cs
                      have hmet := ma_metx ih hlt hmd₉ Wd.2.1 g1 r3 hrun D kA ad H.size
                      have hrn := ma_cl_thr (l := l) (e := e) (below := below) (cells := cells) (slots := slots) C Wd hd hcl hk hmd₉ r1 r2 r4 hmet ⟨by omega, by omega⟩
                      have hA := C.2.2.2.2.2.2.2.2.2.2
                      have hl := Wd.1
                      refine ma_threw hrn Wd.2.2.2.2.2.1 Wd.2.2.2.2.2.2.1 hA (fun ad1 H1 locs1 q ce hag hP1 hD1 hS1 hce hcv hcl => ?_)
                      have hrest : ma_ts ad1 rest = ma_ts ad rest := ma_ts_ad g2 hag
                      rw [← hrest]
                      exact (kt x pc rfl).2 ad1 H1 locs1 ls rest q ce hag ⟨⟨hl.1, hl.2.1, fun q hq => by cases hq⟩, cnt1.1, ma_nil_cL, g2.mono cnt1.2.1, hP1, hD1, hS1, Wd.2.2.2.2.2.2.2.ad (fun b hb => hag b (Nat.lt_of_lt_of_le hb Wd.2.1.2))⟩ hce hcv hcl
                    · cases h
                  · cases h
                · cases h

/-! from 70.catch -/
section MA13
variable {p : Program} {l : Launch} {e : Env} {R : Room} {s : State} {m : MethodId} {args : Array Value} {below : List Frame} {meth : Method} {c : Code} {H : Heap} {locs : List Loc} {cells slots : Nat} {Q : State → Prop}
variable {mc ms : Nat} {free : Addr → Prop} {A0 A1 : Nat → Prop} {H0 : Heap} {a : Array Value} {pc : Nat} {ls : Array Slot} {st0 rest : List Value}
theorem vx_catch {own name : String} {E : String} {ce : Cell} {q : Addr} (hown : s.vm.findClass own = some m.cls) (pre : List ExceptionTableEntry) (x : ExceptionTableEntry) (suf : List ExceptionTableEntry) (hsplit : c.exceptionTable.toList = pre ++ x :: suf)
    (hpass : ∀ z ∈ pre, covers z pc = false ∨ (z.catchType ≠ 0 ∧ ∃ nm : String, (Cond.classLink own z.catchType nm).before args s = true ∧ va_Nc E nm s)) (hx : covers x pc = true) (h0 : x.catchType ≠ 0)
    (hlink : (Cond.classLink own x.catchType name).before args s = true) (hcast : (Cond.castable E name).before args s = true) (hcell : H[q]? = some ce) (hv : ce.vm = .none) (hcl : s.vm.findClass E = some ce.cls)
    (kk : W p l e R s m args below meth c H locs cells slots Q (F0 m x.handlerPc ls [.ref q])) : vx_W p l e R s m args below meth c H locs cells slots Q (F0 m pc ls rest) q := by
  intro T hT X
  have hpl : e.platform.magicAccessors = ({} : Platform).magicAccessors := by rw [X.admits.platform]
  obtain ⟨c3, c4, hc3, hc4, hasg⟩ := Cond.castable_spec hcast
  cases Option.some.inj (hc3.symm.trans hcl)
  obtain ⟨c5, hc5, hcl5⟩ := Cond.classLink_spec hown hlink e.platform hpl
  cases Option.some.inj (hc4.symm.trans hc5)
  obtain ⟨vm₉, X₉, st⟩ := Stand.thenCaughtThrough X q (g := F0 m pc ls rest) rfl (Steps.refl _) (by rw [hT]; exact hcell) (by rw [hv]; rfl) (by obtain ⟨k9, h9, -⟩ := Vm.findClass_spec hcl; exact ⟨k9, h9⟩) pre x suf hsplit
    (fun z hz => by
      rcases hpass z hz with h | ⟨hz0, nm, hl1, hn1⟩
      · exact Or.inl h
      · obtain ⟨c6, hc6, hcl6⟩ := Cond.classLink_spec hown hl1 e.platform hpl
        obtain ⟨a8, b8, h1, h2, h3⟩ := hn1
        cases Option.some.inj (h1.symm.trans hcl)
        cases Option.some.inj (h2.symm.trans hc6)
        exact Or.inr ⟨hz0, _, hcl6, h3⟩) hx (Or.inr ⟨h0, c4, hcl5, hasg⟩)
  obtain ⟨t, a1, b1⟩ := kk (T.setVm vm₉) hT X₉
  exact ⟨t, st.trans a1, b1⟩
end MA13

/-! from 72.frames -/
/-! THE SMALL MACHINE, part 13: the law's own frame and its methods that catch -/
/-- the frames of the law: 0 the law itself, the others its methods with a table: code, locals, answer, table -/
def ma_fi (k : Nat) : Option (ByteArray × Nat × Option FieldType × List (Nat × Nat × Nat × Nat)) := match k with
  | 0 => some (code, 7, some .boolean, [])
  | 1 => some (method_3_code, 8, some .int, [(0, 16, 19, 13)])
  | 2 => some (method_4_code, 4, some .int, [(0, 9, 12, 19)])
  | 3 => some (method_5_code, 5, some .int, [(0, 10, 13, 19), (0, 10, 17, 25)])
  | 4 => some (method_6_code, 5, some .int, [(0, 10, 13, 19), (0, 10, 17, 25)])
  | 5 => some (method_7_code, 6, some .int, [(0, 12, 15, 19), (0, 12, 19, 25)])
  | 6 => some (method_8_code, 6, some .int, [(0, 12, 15, 25), (0, 12, 19, 38), (0, 12, 23, 13), (0, 12, 27, 40)])
  | 7 => some (method_9_code, 6, some .int, [(0, 12, 15, 25), (0, 12, 19, 38), (0, 12, 23, 13), (0, 12, 27, 40)])
  | 8 => some (method_10_code, 5, some .int, [(0, 10, 13, 25), (0, 10, 17, 38), (0, 10, 21, 13)])
  | 9 => some (method_11_code, 5, some .int, [(0, 10, 13, 19), (0, 10, 17, 25), (0, 10, 21, 38)])
  | 10 => some (method_12_code, 5, some .int, [(0, 10, 13, 19), (0, 10, 17, 25), (0, 10, 21, 38)])
  | 11 => some (method_13_code, 5, some .int, [(0, 10, 13, 19), (0, 10, 17, 25)])
  | 12 => some (method_14_code, 5, some .int, [(0, 10, 13, 25), (0, 10, 17, 38), (0, 10, 21, 61)])
  | 13 => some (method_15_code, 4, some .int, [(0, 9, 12, 25), (0, 9, 15, 38)])
  | 14 => some (method_16_code, 4, some .int, [(0, 9, 12, 19), (0, 9, 15, 25)])
  | 15 => some (method_17_code, 3, some .int, [(0, 8, 11, 25)])
  | 16 => some (method_18_code, 4, some .int, [(0, 9, 12, 19), (0, 9, 15, 25), (0, 9, 18, 61)])
  | 17 => some (method_19_code, 5, some .int, [(0, 10, 13, 19), (0, 10, 17, 25), (0, 10, 21, 38)])
  | 18 => some (method_20_code, 5, some .int, [(0, 10, 13, 19), (0, 10, 17, 25), (0, 10, 21, 61), (0, 10, 25, 13)])
  | 19 => some (method_21_code, 4, some .int, [(0, 9, 12, 19), (0, 9, 15, 25)])
  | _ => none
def ma_fy (k : Nat) : MethodName := match k with
  | 1 => ⟨"CollectorHouseLaw", "feed", "(LCollectorHouse;IIIII[J)I"⟩
  | 2 => ⟨"CollectorHouseLaw", "end", "(LCollectorHouse;I[J)I"⟩
  | 3 => ⟨"CollectorHouseLaw", "kind", "(LCollectorHouse;II[J)I"⟩
  | 4 => ⟨"CollectorHouseLaw", "make", "(LCollectorHouse;II[J)I"⟩
  | 5 => ⟨"CollectorHouseLaw", "row", "(LCollectorHouse;ZII[J)I"⟩
  | 6 => ⟨"CollectorHouseLaw", "put", "(LCollectorHouse;III[J)I"⟩
  | 7 => ⟨"CollectorHouseLaw", "link", "(LCollectorHouse;III[J)I"⟩
  | 8 => ⟨"CollectorHouseLaw", "get", "(LCollectorHouse;II[J)I"⟩
  | 9 => ⟨"CollectorHouseLaw", "root", "(LCollectorHouse;II[J)I"⟩
  | 10 => ⟨"CollectorHouseLaw", "weak", "(LCollectorHouse;II[J)I"⟩
  | 11 => ⟨"CollectorHouseLaw", "strong", "(LCollectorHouse;II[J)I"⟩
  | 12 => ⟨"CollectorHouseLaw", "hold", "(LCollectorHouse;IZ[J)I"⟩
  | 13 => ⟨"CollectorHouseLaw", "wish", "(LCollectorHouse;I[J)I"⟩
  | 14 => ⟨"CollectorHouseLaw", "granted", "(LCollectorHouse;I[J)I"⟩
  | 15 => ⟨"CollectorHouseLaw", "clean", "(LCollectorHouse;[J)I"⟩
  | 16 => ⟨"CollectorHouseLaw", "step", "(LCollectorHouse;I[J)I"⟩
  | 17 => ⟨"CollectorHouseLaw", "about", "(LCollectorHouse;II[J)I"⟩
  | 18 => ⟨"CollectorHouseLaw", "block", "(LCollectorHouse;II[J)I"⟩
  | 19 => ⟨"CollectorHouseLaw", "count", "(LCollectorHouse;I[J)I"⟩
  | _ => ⟨"", "", ""⟩
theorem ma_fw1 : Cond.codeWith (ma_fy 1) method_3_code 8 (some .int) [(0, 16, 19, 13)] ∈ ma_TB ∧ Cond.static (ma_fy 1) ∈ ma_TB ∧ (ma_fy 1).cls = "CollectorHouseLaw" := ⟨ma_T3 (i := 44) rfl rfl, ma_T3 (i := 43) (by decide +kernel) (by decide +kernel), rfl⟩
theorem ma_fw2 : Cond.codeWith (ma_fy 2) method_4_code 4 (some .int) [(0, 9, 12, 19)] ∈ ma_TB ∧ Cond.static (ma_fy 2) ∈ ma_TB ∧ (ma_fy 2).cls = "CollectorHouseLaw" := ⟨ma_T3 (i := 122) rfl rfl, ma_T3 (i := 121) (by decide +kernel) (by decide +kernel), rfl⟩
theorem ma_fw3 : Cond.codeWith (ma_fy 3) method_5_code 5 (some .int) [(0, 10, 13, 19), (0, 10, 17, 25)] ∈ ma_TB ∧ Cond.static (ma_fy 3) ∈ ma_TB ∧ (ma_fy 3).cls = "CollectorHouseLaw" := ⟨ma_T3 (i := 145) rfl rfl, ma_T3 (i := 144) (by decide +kernel) (by decide +kernel), rfl⟩
theorem ma_fw4 : Cond.codeWith (ma_fy 4) method_6_code 5 (some .int) [(0, 10, 13, 19), (0, 10, 17, 25)] ∈ ma_TB ∧ Cond.static (ma_fy 4) ∈ ma_TB ∧ (ma_fy 4).cls = "CollectorHouseLaw" := ⟨ma_T3 (i := 168) rfl rfl, ma_T3 (i := 167) (by decide +kernel) (by decide +kernel), rfl⟩
theorem ma_fw5 : Cond.codeWith (ma_fy 5) method_7_code 6 (some .int) [(0, 12, 15, 19), (0, 12, 19, 25)] ∈ ma_TB ∧ Cond.static (ma_fy 5) ∈ ma_TB ∧ (ma_fy 5).cls = "CollectorHouseLaw" := ⟨ma_T5 (i := 216) rfl rfl, ma_T5 (i := 215) (by decide +kernel) (by decide +kernel), rfl⟩
theorem ma_fw6 : Cond.codeWith (ma_fy 6) method_8_code 6 (some .int) [(0, 12, 15, 25), (0, 12, 19, 38), (0, 12, 23, 13), (0, 12, 27, 40)] ∈ ma_TB ∧ Cond.static (ma_fy 6) ∈ ma_TB ∧ (ma_fy 6).cls = "CollectorHouseLaw" := ⟨ma_T5 (i := 224) rfl rfl, ma_T5 (i := 223) (by decide +kernel) (by decide +kernel), rfl⟩
theorem ma_fw7 : Cond.codeWith (ma_fy 7) method_9_code 6 (some .int) [(0, 12, 15, 25), (0, 12, 19, 38), (0, 12, 23, 13), (0, 12, 27, 40)] ∈ ma_TB ∧ Cond.static (ma_fy 7) ∈ ma_TB ∧ (ma_fy 7).cls = "CollectorHouseLaw" := ⟨ma_T6 (i := 33) rfl rfl, ma_T6 (i := 32) (by decide +kernel) (by decide +kernel), rfl⟩
theorem ma_fw8 : Cond.codeWith (ma_fy 8) method_10_code 5 (some .int) [(0, 10, 13, 25), (0, 10, 17, 38), (0, 10, 21, 13)] ∈ ma_TB ∧ Cond.static (ma_fy 8) ∈ ma_TB ∧ (ma_fy 8).cls = "CollectorHouseLaw" := ⟨ma_T6 (i := 57) rfl rfl, ma_T6 (i := 56) (by decide +kernel) (by decide +kernel), rfl⟩
theorem ma_fw9 : Cond.codeWith (ma_fy 9) method_11_code 5 (some .int) [(0, 10, 13, 19), (0, 10, 17, 25), (0, 10, 21, 38)] ∈ ma_TB ∧ Cond.static (ma_fy 9) ∈ ma_TB ∧ (ma_fy 9).cls = "CollectorHouseLaw" := ⟨ma_T6 (i := 68) rfl rfl, ma_T6 (i := 67) (by decide +kernel) (by decide +kernel), rfl⟩
theorem ma_fw10 : Cond.codeWith (ma_fy 10) method_12_code 5 (some .int) [(0, 10, 13, 19), (0, 10, 17, 25), (0, 10, 21, 38)] ∈ ma_TB ∧ Cond.static (ma_fy 10) ∈ ma_TB ∧ (ma_fy 10).cls = "CollectorHouseLaw" := ⟨ma_T6 (i := 75) rfl rfl, ma_T6 (i := 74) (by decide +kernel) (by decide +kernel), rfl⟩
theorem ma_fw11 : Cond.codeWith (ma_fy 11) method_13_code 5 (some .int) [(0, 10, 13, 19), (0, 10, 17, 25)] ∈ ma_TB ∧ Cond.static (ma_fy 11) ∈ ma_TB ∧ (ma_fy 11).cls = "CollectorHouseLaw" := ⟨ma_T6 (i := 82) rfl rfl, ma_T6 (i := 81) (by decide +kernel) (by decide +kernel), rfl⟩
theorem ma_fw12 : Cond.codeWith (ma_fy 12) method_14_code 5 (some .int) [(0, 10, 13, 25), (0, 10, 17, 38), (0, 10, 21, 61)] ∈ ma_TB ∧ Cond.static (ma_fy 12) ∈ ma_TB ∧ (ma_fy 12).cls = "CollectorHouseLaw" := ⟨ma_T6 (i := 102) rfl rfl, ma_T6 (i := 101) (by decide +kernel) (by decide +kernel), rfl⟩
theorem ma_fw13 : Cond.codeWith (ma_fy 13) method_15_code 4 (some .int) [(0, 9, 12, 25), (0, 9, 15, 38)] ∈ ma_TB ∧ Cond.static (ma_fy 13) ∈ ma_TB ∧ (ma_fy 13).cls = "CollectorHouseLaw" := ⟨ma_T6 (i := 144) rfl rfl, ma_T6 (i := 143) (by decide +kernel) (by decide +kernel), rfl⟩
theorem ma_fw14 : Cond.codeWith (ma_fy 14) method_16_code 4 (some .int) [(0, 9, 12, 19), (0, 9, 15, 25)] ∈ ma_TB ∧ Cond.static (ma_fy 14) ∈ ma_TB ∧ (ma_fy 14).cls = "CollectorHouseLaw" := ⟨ma_T6 (i := 151) rfl rfl, ma_T6 (i := 150) (by decide +kernel) (by decide +kernel), rfl⟩
theorem ma_fw15 : Cond.codeWith (ma_fy 15) method_17_code 3 (some .int) [(0, 8, 11, 25)] ∈ ma_TB ∧ Cond.static (ma_fy 15) ∈ ma_TB ∧ (ma_fy 15).cls = "CollectorHouseLaw" := ⟨ma_T6 (i := 162) rfl rfl, ma_T6 (i := 161) (by decide +kernel) (by decide +kernel), rfl⟩
theorem ma_fw16 : Cond.codeWith (ma_fy 16) method_18_code 4 (some .int) [(0, 9, 12, 19), (0, 9, 15, 25), (0, 9, 18, 61)] ∈ ma_TB ∧ Cond.static (ma_fy 16) ∈ ma_TB ∧ (ma_fy 16).cls = "CollectorHouseLaw" := ⟨ma_T6 (i := 181) rfl rfl, ma_T6 (i := 180) (by decide +kernel) (by decide +kernel), rfl⟩
theorem ma_fw17 : Cond.codeWith (ma_fy 17) method_19_code 5 (some .int) [(0, 10, 13, 19), (0, 10, 17, 25), (0, 10, 21, 38)] ∈ ma_TB ∧ Cond.static (ma_fy 17) ∈ ma_TB ∧ (ma_fy 17).cls = "CollectorHouseLaw" := ⟨ma_T6 (i := 189) rfl rfl, ma_T6 (i := 188) (by decide +kernel) (by decide +kernel), rfl⟩
theorem ma_fw18 : Cond.codeWith (ma_fy 18) method_20_code 5 (some .int) [(0, 10, 13, 19), (0, 10, 17, 25), (0, 10, 21, 61), (0, 10, 25, 13)] ∈ ma_TB ∧ Cond.static (ma_fy 18) ∈ ma_TB ∧ (ma_fy 18).cls = "CollectorHouseLaw" := ⟨ma_T6 (i := 223) rfl rfl, ma_T6 (i := 222) (by decide +kernel) (by decide +kernel), rfl⟩
theorem ma_fw19 : Cond.codeWith (ma_fy 19) method_21_code 4 (some .int) [(0, 9, 12, 19), (0, 9, 15, 25)] ∈ ma_TB ∧ Cond.static (ma_fy 19) ∈ ma_TB ∧ (ma_fy 19).cls = "CollectorHouseLaw" := ⟨ma_T6 (i := 238) rfl rfl, ma_T6 (i := 237) (by decide +kernel) (by decide +kernel), rfl⟩
theorem ma_fw {k nL : Nat} {cc : ByteArray} {ret : Option FieldType} {hh : List (Nat × Nat × Nat × Nat)} (hk : 1 ≤ k) (h : ma_fi k = some (cc, nL, ret, hh)) : Cond.codeWith (ma_fy k) cc nL ret hh ∈ ma_TB ∧ Cond.static (ma_fy k) ∈ ma_TB ∧ (ma_fy k).cls = "CollectorHouseLaw" := by
  unfold ma_fi at h
  split at h
  · omega
  · cases h; exact ma_fw1
  · cases h; exact ma_fw2
  · cases h; exact ma_fw3
  · cases h; exact ma_fw4
  · cases h; exact ma_fw5
  · cases h; exact ma_fw6
  · cases h; exact ma_fw7
  · cases h; exact ma_fw8
  · cases h; exact ma_fw9
  · cases h; exact ma_fw10
  · cases h; exact ma_fw11
  · cases h; exact ma_fw12
  · cases h; exact ma_fw13
  · cases h; exact ma_fw14
  · cases h; exact ma_fw15
  · cases h; exact ma_fw16
  · cases h; exact ma_fw17
  · cases h; exact ma_fw18
  · cases h; exact ma_fw19
  · cases h
theorem ma_fwi : Cond.initialized "CollectorHouseLaw" ∈ ma_TB := ma_T1 (i := 0) (by decide +kernel) (by decide +kernel)
/-- calls of those: pool entry, method, how many arguments -/
def ma_cwh : List ((Nat × Nat × Nat) × Nat) := [((89, 1, 7), 522), ((95, 2, 3), 600), ((99, 3, 4), 623), ((107, 4, 4), 646), ((110, 5, 5), 1174), ((114, 6, 5), 1182), ((118, 7, 5), 1231), ((121, 8, 4), 1255), ((127, 9, 4), 1266), ((130, 10, 4), 1273), ((133, 11, 4), 1280), ((136, 12, 4), 1300), ((140, 13, 3), 1342), ((143, 14, 3), 1349), ((146, 15, 2), 1360), ((150, 16, 3), 1379), ((153, 17, 4), 1387), ((156, 18, 4), 1421), ((159, 19, 3), 1436)]
theorem ma_cwh_ok : ∀ q ∈ ma_cwh, (ma_w q.2 (.methodLink "CollectorHouseLaw" q.1.1 (ma_fy q.1.2.1)) && decide ((parseMethodDescriptor (ma_fy q.1.2.1).desc).map (fun d => d.parameters.length) = some q.1.2.2) && decide (1 ≤ q.1.2.1)) = true := List.all_eq_true.mp (by decide +kernel)
def ma_cw (i : Instr) (n : Nat) (st : List ma_V) : Option (Nat × List ma_V × List ma_V) := match i, n with
  | .invokestatic x, 3 => match ma_cwh.find? (fun q => q.1.1 == x) with
    | some q => if q.1.2.2 ≤ st.length then some (q.1.2.1, (st.take q.1.2.2).reverse, st.drop q.1.2.2) else none
    | none => none
  | _, _ => none
/-- the classes that the tables name -/
def ma_cth2 : List ((Nat × Nat) × Nat) := [((13, 1), 525), ((19, 2), 603), ((25, 3), 626), ((38, 4), 1185), ((40, 5), 1186), ((61, 6), 1303)]
theorem ma_cth2_ok : ∀ q ∈ ma_cth2, ma_w q.2 (.classLink "CollectorHouseLaw" q.1.1 (ma_xn q.1.2)) = true := List.all_eq_true.mp (by decide +kernel)
def ma_cx (ct : Nat) : Option Nat := (ma_cth2.find? (fun q => q.1.1 == ct)).map (fun q => q.1.2)
theorem ma_cx_spec {ct x : Nat} (h : ma_cx ct = some x) : Cond.classLink "CollectorHouseLaw" ct (ma_xn x) ∈ ma_TB := by
  unfold ma_cx at h
  cases hf : ma_cth2.find? (fun q => q.1.1 == ct) with
  | none => rw [hf] at h; cases h
  | some q =>
    rw [hf] at h
    have hk : q.1.2 = x := Option.some.inj h
    have h1 := List.find?_some hf
    simp only [beq_iff_eq] at h1
    have h2 := ma_cth2_ok q (List.mem_of_find?_eq_some hf)
    rw [hk, h1] at h2
    exact ma_w_in h2
/-- the answer behind a handler: put it away, a constant, answer -/
def ma_hk (cc : ByteArray) (nL h : Nat) : Option Int32 := match decode cc h with
  | .ok (.astore_n k, 1) => if (k : Nat) < nL then (match decode cc (h + 1), decode cc (h + 1 + 1) with
    | .ok (.iconst c, 1), .ok (.ireturn, 1) => some (Int32.ofInt c)
    | _, _ => none) else none
  | .ok (.astore k, 2) => if k < nL then (match decode cc (h + 2), decode cc (h + 2 + 1) with
    | .ok (.iconst c, 1), .ok (.ireturn, 1) => some (Int32.ofInt c)
    | _, _ => none) else none
  | _ => none
/-- the first row of the table that takes exception x, thrown at pc -/
def ma_hd (cc : ByteArray) (nL x pc : Nat) (hh : List (Nat × Nat × Nat × Nat)) : Option Int32 := match hh with
  | [] => none
  | q :: r => if covers ⟨q.1, q.2.1, q.2.2.1, q.2.2.2⟩ pc && decide (q.2.2.2 ≠ 0) then (match ma_cx q.2.2.2 with
    | some z => if z = x then (if Cond.castable (ma_xn x) (ma_xn x) ∈ ma_nw then ma_hk cc nL q.2.2.1 else none) else if (ma_xn x, ma_xn z) ∈ ma_nc then ma_hd cc nL x pc r else none
    | none => none) else none
def ma_frun (X : Nat × (Nat → Int32)) : Nat → Nat → Nat → Nat → Nat → ma_L → List ma_V → ma_S → Option (Option ma_V × ma_S)
  | 0, _, _, _, _, _, _, _ => none
  | f + 1, k, d, w, pc, L, st, S => match ma_fi k with
    | none => none
    | some (cc, nL, ret, hh) => match decode cc pc with
      | .error _ => none
      | .ok (i, n) => match ma_one X 14 false nL d w i n pc L st S with
        | some (pc₉, L₉, st₉, S₉) => ma_frun X f k d w pc₉ L₉ st₉ S₉
        | none => match ma_ret ret i n st with
          | some v => some (v, S)
          | none => match ma_cl 14 i n st S with
            | some ((kd, M₉), as, rest) => (match ma_md M₉ with
              | none => none
              | some (_, _, _, nL₉, _) => if 1 ≤ d ∧ 19 + nL₉ ≤ w ∧ ma_sz as ≤ nL₉ ∧ ma_sz rest ≤ 8 then (match ma_run X f (d - 1) (w - (19 + nL₉)) M₉ 0 (ma_args 0 as) [] S with
                | some (.inl v, S₉) => ma_frun X f k d w (pc + 3) L (v.toList ++ rest) S₉
                | some (.inr (x, _), S₉) => if kd ≤ 1 ∧ ret = some .int then (ma_hd cc nL x pc hh).map (fun c => (some (.inl c), S₉)) else none
                | none => none) else none)
            | none => match ma_cw i n st with
              | none => none
              | some (k₉, as, rest) => match ma_fi k₉ with
                | none => none
                | some (_, nL₉, _, _) => if 1 ≤ d ∧ 19 + nL₉ ≤ w ∧ ma_sz as ≤ nL₉ ∧ ma_sz rest ≤ 8 then (match ma_frun X f k₉ (d - 1) (w - (19 + nL₉)) 0 (ma_args 0 as) [] S with
                  | some (v, S₉) => ma_frun X f k d w (pc + 3) L (v.toList ++ rest) S₉
                  | none => none) else none
theorem ma_cw_c {N n k : Nat} {i : Instr} {st as rest : List ma_V} (hc : ma_cs N st) (h : ma_cw i n st = some (k, as, rest)) : ma_cs N as ∧ ma_cs N rest := by
  unfold ma_cw at h
  split at h
  · split at h
    · split at h
      · cases h
        exact ⟨fun v hv => hc v (List.mem_of_mem_take (List.mem_reverse.mp hv)), fun v hv => hc v (List.mem_of_mem_drop hv)⟩
      · cases h
    · cases h
  · cases h
theorem ma_frun_c {X : Nat × (Nat → Int32)} : ∀ (f k d w pc : Nat) (L : ma_L) (st : List ma_V) (S : ma_S) (out : Option ma_V) (S₉ : ma_S), ma_frun X f k d w pc L st S = some (out, S₉) → ma_ch S → ma_cL (mN S) L → ma_cs (mN S) st →
    ma_ch S₉ ∧ mN S ≤ mN S₉ ∧ mC S ≤ mC S₉ ∧ mZ S ≤ mZ S₉ ∧ ∀ u, out = some u → ma_cv (mN S₉) u := by
  intro f
  induction f with
  | zero => intro k d w pc L st S out S₉ h; cases h
  | succ f ih =>
    intro k d w pc L st S out S₉ h hh hL hc
    unfold ma_frun at h
    split at h
    · cases h
    · split at h
      · cases h
      · split at h
        · next pc1 L1 st1 S1 h1 =>
          obtain ⟨a1, a2, a3, a4, a5, a6⟩ := ma_one_c hh hL hc h1
          obtain ⟨b1, b2, b3, b4, b5⟩ := ih _ _ _ _ _ _ _ _ _ h a1 a2 a3
          exact ⟨b1, by omega, by omega, by omega, b5⟩
        · split at h
          · next v hv =>
            cases h
            exact ⟨hh, Nat.le_refl _, Nat.le_refl _, Nat.le_refl _, fun u hu => ma_ret_cv hc hv u hu⟩
          · split at h
            · next kd M₉ as rest hcl =>
              obtain ⟨g1, g2, g3⟩ := ma_cl_c hc hcl
              split at h
              · cases h
              · split at h
                · split at h
                  · next v S1 hr =>
                    obtain ⟨b1, b2, b3, b4, b5⟩ := ma_run_c _ _ _ _ _ _ _ _ _ _ hr hh (ma_args_cL as 0 g1) ma_nil_cs
                    obtain ⟨c1, c2, c3, c4, c5⟩ := ih _ _ _ _ _ _ _ _ _ h b1 (hL.mono b2) (ma_opt_cs (fun u hu => b5 u (by rw [hu])) (g2.mono b2))
                    exact ⟨c1, by omega, by omega, by omega, c5⟩
                  · next x px S1 hr =>
                    obtain ⟨b1, b2, b3, b4, b5⟩ := ma_run_c _ _ _ _ _ _ _ _ _ _ hr hh (ma_args_cL as 0 g1) ma_nil_cs
                    split at h
                    · cases hq : ma_hd _ _ x pc _ with
                      | none => rw [hq] at h; cases h
                      | some c9 =>
                        rw [hq] at h
                        cases h
                        exact ⟨b1, b2, b3, b4, fun u hu => by cases hu; exact ma_cv_i⟩
                    · cases h
                  · cases h
                · cases h
            · split at h
              · cases h
              · next k₉ as rest hcw =>
                obtain ⟨g1, g2⟩ := ma_cw_c hc hcw
                split at h
                · cases h
                · split at h
                  · split at h
                    · next v S1 hr =>
                      obtain ⟨b1, b2, b3, b4, b5⟩ := ih _ _ _ _ _ _ _ _ _ hr hh (ma_args_cL as 0 g1) ma_nil_cs
                      obtain ⟨c1, c2, c3, c4, c5⟩ := ih _ _ _ _ _ _ _ _ _ h b1 (hL.mono b2) (ma_opt_cs b5 (g2.mono b2))
                      exact ⟨c1, by omega, by omega, by omega, c5⟩
                    · cases h
                  · cases h

/-! from 74.catches -/
/-! THE SMALL MACHINE, part 14: the machine follows the law's frames too -/
def ma_FOK (X : Nat × (Nat → Int32)) (l : Launch) (f : Nat) : Prop := ∀ (k d w pc : Nat) (L : ma_L) (st : List ma_V) (S : ma_S) (out : Option ma_V) (S₉ : ma_S), ma_frun X f k d w pc L st S = some (out, S₉) →
  ∀ (cc : ByteArray) (nL : Nat) (ret : Option FieldType) (hh : List (Nat × Nat × Nat × Nat)), ma_fi k = some (cc, nL, ret, hh) →
  ∀ (p : Program) (e : Env) (R : Room) (s : State) (m : MethodId) (args : Array Value) (below : List Frame) (meth : Method) (c : Code) (H : Heap) (locs : List Loc) (cells slots : Nat) (Q : State → Prop) (ls : Array Slot) (ad : Nat → Nat) (kA : Nat → ClassId) (D : va_G) (A : Nat → Prop),
  ma_Cx X p R s m args meth c cc 14 false nL d w D kA A → (ret = some .int → c.exceptionTable.toList = tableOf hh) → ma_Wd X s nL D kA A ad L st S H locs ls → cells + (mC S₉ - mC S) ≤ R.cells → slots + (mZ S₉ - mZ S) ≤ R.slots →
  (∀ (ad₉ : Nat → Nat) (H1 : Heap) (locs1 : List Loc) (ls1 : Array Slot) (pc1 n1 : Nat) (i1 : Instr) (st1 : List ma_V), (∀ b, b < mN S → ad₉ b = ad b) → ma_Wd X s nL D kA A ad₉ [] st1 S₉ H1 locs1 ls1 → decode cc pc1 = .ok (i1, n1) → ma_ret ret i1 n1 st1 = some out → W p l e R s m args below meth c H1 locs1 (cells + (mC S₉ - mC S)) (slots + (mZ S₉ - mZ S)) Q (F0 m pc1 ls1 (ma_ts ad₉ st1))) →
  W p l e R s m args below meth c H locs cells slots Q (F0 m pc ls (ma_ts ad st))
section MA14
variable {p : Program} {l : Launch} {e : Env} {R : Room} {s : State} {m : MethodId} {args : Array Value} {below : List Frame} {meth : Method} {c : Code} {H : Heap} {locs : List Loc} {cells slots : Nat} {Q : State → Prop} {cc : ByteArray} {pc : Nat} {ls : Array Slot} {ad : Nat → Nat} {kA : Nat → ClassId} {D : va_G} {A : Nat → Prop}
theorem ma_hk_ok (hx : p.tables.exec = Jvm.exec) (hb : c.code = cc) {nL h : Nat} {c9 : Int32} {q : Addr} (hl : lv_has ls nL []) (hk : ma_hk cc nL h = some c9) (kk : ∀ (ls1 : Array Slot) (pc1 : Nat), lv_has ls1 nL [] → decode cc pc1 = .ok (.ireturn, 1) → W p l e R s m args below meth c H locs cells slots Q (F0 m pc1 ls1 [.int c9])) : W p l e R s m args below meth c H locs cells slots Q (F0 m h ls [.ref q]) := by
  unfold ma_hk at hk
  split at hk
  · next k d0 =>
    split at hk
    · next hlt =>
      split at hk
      · next cst d1 d2 =>
        cases hk
        exact lv_astore_n hx hb d0 rfl hl hlt rfl (fun ls₉ hl₉ => lv_iconst hx hb d1 rfl (kk ls₉ _ ⟨hl₉.1, hl₉.2.1, fun q hq => by cases hq⟩ d2))
      · cases hk
    · cases hk
  · next k d0 =>
    split at hk
    · next hlt =>
      split at hk
      · next cst d1 d2 =>
        cases hk
        exact lv_astore hx hb d0 hl hlt rfl (fun ls₉ hl₉ => lv_iconst hx hb d1 rfl (kk ls₉ _ ⟨hl₉.1, hl₉.2.1, fun q hq => by cases hq⟩ d2))
      · cases hk
    · cases hk
  · cases hk
theorem ma_hd_ok (hx : p.tables.exec = Jvm.exec) (hb : c.code = cc) {nL x : Nat} {c9 : Int32} {q : Addr} {ce : Cell} {rest : List Value} (hown : s.vm.findClass (ma_cn 14) = some m.cls) (hts : ∀ w ∈ ma_TB, w.before args s = true) (hN : ma_Nx s) (hl : lv_has ls nL []) (hce : H[q]? = some ce) (hcv : ce.vm = .none) (hcl : s.vm.findClass (ma_xn x) = some ce.cls)
    (kk : ∀ (ls1 : Array Slot) (pc1 : Nat), lv_has ls1 nL [] → decode cc pc1 = .ok (.ireturn, 1) → W p l e R s m args below meth c H locs cells slots Q (F0 m pc1 ls1 [.int c9])) :
    ∀ (hh : List (Nat × Nat × Nat × Nat)) (pre : List ExceptionTableEntry), c.exceptionTable.toList = pre ++ tableOf hh → (∀ z ∈ pre, covers z pc = false ∨ (z.catchType ≠ 0 ∧ ∃ nm : String, (Cond.classLink (ma_cn 14) z.catchType nm).before args s = true ∧ va_Nc (ma_xn x) nm s)) → ma_hd cc nL x pc hh = some c9 → vx_W p l e R s m args below meth c H locs cells slots Q (F0 m pc ls rest) q := by
  intro hh
  induction hh with
  | nil => intro pre _ _ h; cases h
  | cons a r ih =>
    intro pre hsp hpre h
    unfold ma_hd at h
    split at h
    · next hc0 =>
      rw [Bool.and_eq_true] at hc0
      have hc : covers ⟨a.1, a.2.1, a.2.2.1, a.2.2.2⟩ pc = true ∧ a.2.2.2 ≠ 0 := ⟨hc0.1, of_decide_eq_true hc0.2⟩
      split at h
      · next z hz =>
        have hlk := hts _ (ma_cx_spec hz)
        split at h
        · next hzx =>
          subst hzx
          split at h
          · next hca =>
            exact vx_catch (own := ma_cn 14) (name := ma_xn z) hown pre ⟨a.1, a.2.1, a.2.2.1, a.2.2.2⟩ (tableOf r) hsp hpre hc.1 hc.2 hlk (va_Nw.use rfl (hN.1 _ hca)) hce hcv hcl (ma_hk_ok hx hb hl h kk)
          · cases h
        · split at h
          · next hnc =>
            refine ih (pre ++ [⟨a.1, a.2.1, a.2.2.1, a.2.2.2⟩]) (by rw [hsp, List.append_assoc]; rfl) (fun y hy => ?_) h
            rcases List.mem_append.mp hy with hy | hy
            · exact hpre y hy
            · rw [List.mem_singleton] at hy
              subst hy
              exact Or.inr ⟨hc.2, ma_xn z, hlk, hN.2.2 _ hnc⟩
          · cases h
      · cases h
    · cases h
theorem ma_metw {X : Nat × (Nat → Int32)} {f d w k nL : Nat} {ret : Option FieldType} {hh : List (Nat × Nat × Nat × Nat)} {as : List ma_V} {S S₉ : ma_S} (IH : ma_FOK X l f) (hk : 1 ≤ k) (hfi : ma_fi k = some (cc, nL, ret, hh)) (hch : ma_ch S) (has : ma_cs (mN S) as) (hsz : ma_sz as ≤ nL) {v : Option ma_V} (hrun : ma_frun X f k d w 0 (ma_args 0 as) [] S = some (v, S₉)) (D : va_G) (kA : Nat → ClassId) (ad : Nat → Nat) (sz : Nat) :
    Met l (ma_fy k) (Cond.codeWith (ma_fy k) cc nL ret hh :: ma_TB) (ma_rm d w (mC S₉ - mC S) (mZ S₉ - mZ S)) (ma_Pc X D kA ad S as sz) (ma_Qc D kA ad S S₉ v) (mC S₉ - mC S) (mZ S₉ - mZ S) (va_A (ma_wl kA ad S) sz) := by
  obtain ⟨w1, w2, w3⟩ := ma_fw hk hfi
  refine va_MetW (cc := cc) (maxL := nL) (ret := ret) (hh := hh) (by rw [w3]; decide +kernel) rfl ?_
  intro p e s m args below meth c s₁ B hml hv
  obtain ⟨rfl, rfl, hP, hK, hD0, hN, hX⟩ := hv
  have hts := atoms_spec (ws := Cond.codeWith (ma_fy k) cc nL ret hh :: ma_TB) B.pre
  have hown : s.vm.findClass (ma_fy k).cls = some m.cls := findClass_of_methodNamed B.named
  have hl := lv_entry (ma_ts ad as) (n := nL) (by rw [ma_args_len]; exact hsz)
  rw [lg_entry_eq]
  rw [← ma_args_tl] at hl
  have C : ma_Cx X p (ma_rm d w (mC S₉ - mC S) (mZ S₉ - mZ S)) s m (ma_ts ad as).toArray meth c cc 14 false nL d w D kA (va_A (ma_wl kA ad S) s.heap.size) := ⟨B.exec, B.bytes, hml, (by rw [w3] at hown; exact hown), fun w hw => hts w (List.mem_cons_of_mem _ hw), hK, hN, (fun h => by cases h), Nat.le_refl _, Nat.le_refl _, fun q h => Or.inr h⟩
  refine IH k d w 0 (ma_args 0 as) [] S v S₉ hrun cc nL ret hh hfi p e _ s m _ below meth c s.heap [] 0 0 _ _ ad kA D _ C (fun _ => vx_table (x := ma_fy k) B (hts _ List.mem_cons_self)) ⟨hl, hch, ma_args_cL as 0 has, ma_nil_cs, hP, hD0.self, va_S.rf, hX⟩ (by show 0 + _ ≤ mC S₉ - mC S; omega) (by show 0 + _ ≤ mZ S₉ - mZ S; omega) ?_
  intro ad₉ H1 locs1 ls1 pc1 n1 i1 st1 hag Wd1 hd1 hr1
  obtain ⟨hl, hh1, hL1, hc1, hP1, hD1, hS1, hX1⟩ := Wd1
  rw [Nat.zero_add, Nat.zero_add]
  exact ma_ret_ok B.exec B.bytes B.notSynchronized B.returns hd1 hr1 (fun t ht hW => ⟨ad₉, rfl, hag, by rw [ht]; exact hP1, hD1, hS1.F ht⟩) hS1.2.2
theorem ma_cw_run {X : Nat × (Nat → Int32)} {nL d w n k nL₉ mc ms : Nat} {ini : Bool} {i : Instr} {L : ma_L} {st as rest : List ma_V} {S S₉ : ma_S} {cc₉ : ByteArray} {ret₉ : Option FieldType} {hh₉ : List (Nat × Nat × Nat × Nat)} {v : Option ma_V}
    (C : ma_Cx X p R s m args meth c cc 14 ini nL d w D kA A) (Wd : ma_Wd X s nL D kA A ad L st S H locs ls) (hd : decode cc pc = .ok (i, n)) (h : ma_cw i n st = some (k, as, rest)) (hfi : ma_fi k = some (cc₉, nL₉, ret₉, hh₉)) (h1 : 1 ≤ d) (h2 : 19 + nL₉ ≤ w) (h3 : ma_sz rest ≤ 8)
    (hM : 1 ≤ k → Met l (ma_fy k) (Cond.codeWith (ma_fy k) cc₉ nL₉ ret₉ hh₉ :: ma_TB) (ma_rm (d - 1) (w - (19 + nL₉)) mc ms) (ma_Pc X D kA ad S as H.size) (ma_Qc D kA ad S S₉ v) mc ms (va_A (ma_wl kA ad S) H.size)) (hf : cells + mc ≤ R.cells ∧ slots + ms ≤ R.slots) :
    va_Run p l e R s m args below meth c H locs cells slots mc ms (F0 m pc ls (ma_ts ad st)) (ma_ts ad rest) (ma_Qc D kA ad S S₉ v (ma_ts ad as).toArray) (va_A (ma_wl kA ad S) H.size) := by
  have hpre := fun U hU hW => ma_pre (as := as) C Wd U hU hW
  obtain ⟨hx, hb, hml, hown, hts, hK, hN, hini, hR1, hR2, hA⟩ := C
  obtain ⟨hl, hh, hL, hc, hP, hD, hS, hX⟩ := Wd
  unfold ma_cw at h
  split at h
  · next x =>
    split at h
    · next q hq =>
      split at h
      · next hlen =>
        cases h
        have g1 := List.find?_some hq
        simp only [beq_iff_eq] at g1
        have g2 := ma_cwh_ok q (List.mem_of_find?_eq_some hq)
        simp only [Bool.and_eq_true] at g2
        rw [g1] at g2
        have gk := of_decide_eq_true g2.2
        obtain ⟨w1, w2, w3⟩ := ma_fw gk hfi
        have s2 : (ma_ts ad (st.take q.1.2.2).reverse).length = q.1.2.2 := by
          unfold ma_ts
          rw [List.length_map, List.length_reverse, List.length_take]
          omega
        have s1 : ma_ts ad st = (ma_ts ad (st.take q.1.2.2).reverse).reverse ++ ma_ts ad (st.drop q.1.2.2) := by
          have h0 : ma_ts ad st = ma_ts ad (st.take q.1.2.2 ++ st.drop q.1.2.2) := by rw [List.take_append_drop]
          rw [h0]
          unfold ma_ts
          rw [List.map_append, List.map_reverse, List.reverse_reverse]
        have hws : ∀ w ∈ (Cond.codeWith (ma_fy q.1.2.1) cc₉ nL₉ ret₉ hh₉ :: ma_TB), ∀ (a₉ : Array Value) (U : State), s.WarmedH U.vm → w.before a₉ U = true := by
          intro w hw a₉ U hW
          have hm : w ∈ ma_TB := by
            rcases List.mem_cons.mp hw with e1 | e1
            · rw [e1]; exact w1
            · exact e1
          exact word_at hW (good_of_word (List.mem_filter.mp hm).2) (hts w hm)
        refine vx_runSW (hh := hh₉) ⟨hx, hb, hml, hown, hts⟩ (hM gk) ⟨⟨rfl, rfl, by show d - 1 + 1 ≤ _; omega, by show 8 + (nL₉ + 11) + (w - (19 + nL₉)) ≤ _; omega, hws, List.mem_cons_self⟩, hts _ w1, by rw [w3]; exact hts _ ma_fwi, by rw [w3]; exact ⟨by decide, by decide⟩, ?_, hts _ (ma_w_in g2.1.1), hts _ w2⟩ ⟨ma_Pc_blind, hpre⟩ rfl s2 hl.1 s1 (lv_room (by rw [ma_sz_ts]; exact h3)) hd hf
        intro sig hs
        have := of_decide_eq_true g2.1.2
        rw [hs] at this
        exact (Option.some.inj this).symm
      · cases h
    · cases h
  · cases h
end MA14
theorem ma_fok_all (X : Nat × (Nat → Int32)) (l : Launch) (hlt : l.stackTraces = false) : ∀ f, ma_FOK X l f := by
  intro f
  induction f with
  | zero => intro k d w pc L st S out S₉ h; cases h
  | succ f ih =>
    intro k d w pc L st S out S₉ h cc nL ret hh hfi p e R s m args below meth c H locs cells slots Q ls ad kA D A C htab Wd hr1 hr2 kr
    have hcnt := ma_frun_c _ _ _ _ _ _ _ _ _ _ h Wd.2.1 Wd.2.2.1 Wd.2.2.2.1
    unfold ma_frun at h
    rw [hfi] at h
    simp only at h
    split at h
    · cases h
    · next i n hd =>
      split at h
      · next pc1 L1 st1 S1 h1 =>
        have cl := ma_one_c Wd.2.1 Wd.2.2.1 Wd.2.2.2.1 h1
        have cnt1 := ma_frun_c _ _ _ _ _ _ _ _ _ _ h cl.1 cl.2.1 cl.2.2.1
        have ec : mC S₉ - mC S = (mC S1 - mC S) + (mC S₉ - mC S1) := by omega
        have ez : mZ S₉ - mZ S = (mZ S1 - mZ S) + (mZ S₉ - mZ S1) := by omega
        refine ma_one_ok C Wd hd h1 (by omega) (by omega) (fun ad1 H1 locs1 ls1 hag Wd1 => ?_)
        refine ih k d w pc1 L1 st1 S1 out S₉ h cc nL ret hh hfi p e R s m args below meth c H1 locs1 _ _ Q ls1 ad1 kA D A C htab Wd1 (by omega) (by omega) ?_
        intro ad2 H2 locs2 ls2 pc2 n2 i2 st2 hag2 Wd2 hd2 hret
        have := kr ad2 H2 locs2 ls2 pc2 n2 i2 st2 (fun b hb => (hag2 b (by omega)).trans (hag b hb)) Wd2 hd2 hret
        rw [ec, ez, ← Nat.add_assoc, ← Nat.add_assoc] at this
        exact this
      · split at h
        · next v hv =>
          cases h
          obtain ⟨hl, hch, hL, hc, hP, hD, hS, hX⟩ := Wd
          have := kr ad H locs ls pc n i st (fun _ _ => rfl) ⟨⟨hl.1, hl.2.1, fun q hq => by cases hq⟩, hch, ma_nil_cL, hc, hP, hD, hS, hX⟩ hd hv
          simp only [Nat.sub_self, Nat.add_zero] at this
          exact this
        · split at h
          · next kd M₉ as rest hcl =>
            obtain ⟨g1, g2, g3⟩ := ma_cl_c Wd.2.2.2.1 hcl
            split at h
            · cases h
            · next o₉ y₉ cc₉ nL₉ ret₉ hmd₉ =>
              split at h
              · next hroom =>
                obtain ⟨r1, r2, r3, r4⟩ := hroom
                split at h
                · next v S1 hrun =>
                  have cnt1 := ma_run_c _ _ _ _ _ _ _ _ _ _ hrun Wd.2.1 (ma_args_cL as 0 g1) ma_nil_cs
                  have cs1 : ma_cs (mN S1) (v.toList ++ rest) := ma_opt_cs (fun u hu => cnt1.2.2.2.2 u (by rw [hu])) (g2.mono cnt1.2.1)
                  have cnt2 := ma_frun_c _ _ _ _ _ _ _ _ _ _ h cnt1.1 (Wd.2.2.1.mono cnt1.2.1) cs1
                  have ec : mC S₉ - mC S = (mC S1 - mC S) + (mC S₉ - mC S1) := by omega
                  have ez : mZ S₉ - mZ S = (mZ S1 - mZ S) + (mZ S₉ - mZ S1) := by omega
                  have hmet := ma_met (ma_ok_all X l hlt f) hmd₉ Wd.2.1 g1 r3 hrun D kA ad H.size
                  have hrn := ma_cl_run (l := l) (e := e) (below := below) (cells := cells) (slots := slots) C Wd hd hcl hmd₉ r1 r2 r4 hmet ⟨by omega, by omega⟩
                  have hA := C.2.2.2.2.2.2.2.2.2.2
                  have hl := Wd.1
                  refine ma_called hrn Wd.2.2.2.2.2.1 Wd.2.2.2.2.2.2.1 hA (fun ad1 H1 locs1 hag hP1 hD1 hS1 => ?_)
                  have hrest : ma_ts ad1 rest = ma_ts ad rest := ma_ts_ad g2 hag
                  rw [← hrest, ma_ts_app]
                  have Wd1 : ma_Wd X s nL D kA A ad1 L (v.toList ++ rest) S1 H1 locs1 ls := ⟨by rw [ma_tl_ad Wd.2.2.1 hag]; exact hl, cnt1.1, Wd.2.2.1.mono cnt1.2.1, cs1, hP1, hD1, hS1, Wd.2.2.2.2.2.2.2.ad (fun b hb => hag b (Nat.lt_of_lt_of_le hb Wd.2.1.2))⟩
                  refine ih k d w (pc + 3) L (v.toList ++ rest) S1 out S₉ h cc nL ret hh hfi p e R s m args below meth c H1 locs1 _ _ Q ls ad1 kA D A C htab Wd1 (by omega) (by omega) ?_
                  intro ad2 H2 locs2 ls2 pc2 n2 i2 st2 hag2 Wd2 hd2 hret
                  have := kr ad2 H2 locs2 ls2 pc2 n2 i2 st2 (fun b hb => (hag2 b (by omega)).trans (hag b hb)) Wd2 hd2 hret
                  rw [ec, ez, ← Nat.add_assoc, ← Nat.add_assoc] at this
                  exact this
                · next x px S1 hrun =>
                  split at h
                  · next hk =>
                    cases hq : ma_hd cc nL x pc hh with
                    | none => rw [hq] at h; cases h
                    | some c9 =>
                      rw [hq] at h
                      cases h
                      have cnt1 := ma_run_c _ _ _ _ _ _ _ _ _ _ hrun Wd.2.1 (ma_args_cL as 0 g1) ma_nil_cs
                      have hmet := ma_metx (ma_ok_all X l hlt f) hlt hmd₉ Wd.2.1 g1 r3 hrun D kA ad H.size
                      have hrn := ma_cl_thr (l := l) (e := e) (below := below) (cells := cells) (slots := slots) C Wd hd hcl hk.1 hmd₉ r1 r2 r4 hmet ⟨by omega, by omega⟩
                      have hA := C.2.2.2.2.2.2.2.2.2.2
                      have hl := Wd.1
                      refine ma_threw hrn Wd.2.2.2.2.2.1 Wd.2.2.2.2.2.2.1 hA (fun ad1 H1 locs1 q ce hag hP1 hD1 hS1 hce hcv hcl => ?_)
                      refine ma_hd_ok C.1 C.2.1 C.2.2.2.1 C.2.2.2.2.1 C.2.2.2.2.2.2.1 (nL := nL) ⟨hl.1, hl.2.1, fun q hq => by cases hq⟩ hce hcv hcl ?_ hh [] (htab hk.2) (fun z hz => by cases hz) hq
                      intro ls1 pc1 hl1 hd1
                      have hret : ma_ret ret .ireturn 1 [.inl c9] = some (some (.inl c9)) := by rw [hk.2]; simp [ma_ret, narrow]
                      exact kr ad1 H1 locs1 ls1 pc1 1 .ireturn [.inl c9] hag ⟨hl1, cnt1.1, ma_nil_cL, ma_cs_cons ma_cv_i ma_nil_cs, hP1, hD1, hS1, Wd.2.2.2.2.2.2.2.ad (fun b hb => hag b (Nat.lt_of_lt_of_le hb Wd.2.1.2))⟩ hd1 hret
                  · cases h
                · cases h
              · cases h
          · split at h
            · cases h
            · next k₉ as rest hcw =>
              obtain ⟨g1, g2⟩ := ma_cw_c Wd.2.2.2.1 hcw
              split at h
              · cases h
              · next cc₉ nL₉ ret₉ hh₉ hfi₉ =>
                split at h
                · next hroom =>
                  obtain ⟨r1, r2, r3, r4⟩ := hroom
                  split at h
                  · next v S1 hrun =>
                    have cnt1 := ma_frun_c _ _ _ _ _ _ _ _ _ _ hrun Wd.2.1 (ma_args_cL as 0 g1) ma_nil_cs
                    have cs1 : ma_cs (mN S1) (v.toList ++ rest) := ma_opt_cs cnt1.2.2.2.2 (g2.mono cnt1.2.1)
                    have cnt2 := ma_frun_c _ _ _ _ _ _ _ _ _ _ h cnt1.1 (Wd.2.2.1.mono cnt1.2.1) cs1
                    have ec : mC S₉ - mC S = (mC S1 - mC S) + (mC S₉ - mC S1) := by omega
                    have ez : mZ S₉ - mZ S = (mZ S1 - mZ S) + (mZ S₉ - mZ S1) := by omega
                    have hrn := ma_cw_run (l := l) (e := e) (below := below) (cells := cells) (slots := slots) C Wd hd hcw hfi₉ r1 r2 r4 (fun hk => ma_metw ih hk hfi₉ Wd.2.1 g1 r3 hrun D kA ad H.size) ⟨by omega, by omega⟩
                    have hA := C.2.2.2.2.2.2.2.2.2.2
                    have hl := Wd.1
                    refine ma_called hrn Wd.2.2.2.2.2.1 Wd.2.2.2.2.2.2.1 hA (fun ad1 H1 locs1 hag hP1 hD1 hS1 => ?_)
                    have hrest : ma_ts ad1 rest = ma_ts ad rest := ma_ts_ad g2 hag
                    have hn3 : n = 3 := by
                      unfold ma_cw at hcw
                      split at hcw
                      · rfl
                      · cases hcw
                    rw [← hrest, ma_ts_app]
                    have Wd1 : ma_Wd X s nL D kA A ad1 L (v.toList ++ rest) S1 H1 locs1 ls := ⟨by rw [ma_tl_ad Wd.2.2.1 hag]; exact hl, cnt1.1, Wd.2.2.1.mono cnt1.2.1, cs1, hP1, hD1, hS1, Wd.2.2.2.2.2.2.2.ad (fun b hb => hag b (Nat.lt_of_lt_of_le hb Wd.2.1.2))⟩
                    refine ih k d w (pc + 3) L (v.toList ++ rest) S1 out S₉ h cc nL ret hh hfi p e R s m args below meth c H1 locs1 _ _ Q ls ad1 kA D A C htab Wd1 (by omega) (by omega) ?_
                    intro ad2 H2 locs2 ls2 pc2 n2 i2 st2 hag2 Wd2 hd2 hret
                    have := kr ad2 H2 locs2 ls2 pc2 n2 i2 st2 (fun b hb => (hag2 b (by omega)).trans (hag b hb)) Wd2 hd2 hret
                    rw [ec, ez, ← Nat.add_assoc, ← Nat.add_assoc] at this
                    exact this
                  · cases h
                · cases h

/-! from 79.given -/
/-! THE LAW'S START: what the Statement gives, in the small machine's words; and the claim out of the law's run there -/
def R_law : String := "CollectorHouseLaw"
def lw_P (b : Addr) (xs : List Int32) (args : Array Value) (s : State) : Prop := args = #[.ref b] ∧ s.IntsAt b xs ∧ xs.length ≤ 3072 ∧ (Jvm.Cond.and given_1 narrow_1).before args s = true
def lw_Q (_ : Array Value) (s : State) (o : Outcome) (t : State) : Prop := o = .returned (some (.int 1)) ∧ Framed s o t [] 601024 7293034
def lw_Z (below : List Frame) (a : Array Value) (s : State) : State → Prop := fun t => ∃ o, t.status = .running ∧ Ended t below o ∧ lw_Q a s o t
/-- the law's own end, with 1 on the stack, nothing written that was there before, its room as the claim has it -/
theorem lw_ret {p : Program} {l : Launch} {e : Env} {s : State} {m : MethodId} {below : List Frame} {meth : Method} {c : Code} {b : Nat} (hx : p.tables.exec = Jvm.exec) (hb : c.code = code) (hr : meth.sig.returnType = ret) (hlocks : meth.locks = false) {pc : Nat} {H : Heap} {ls : Array Slot} (hdg : decode code pc = .ok (.ireturn, 1)) : W p l e room_1 s m #[Value.ref b] below meth c H [] 601024 7293034 (lw_Z below #[Value.ref b] s) (F0 m pc ls [.int 1]) := by
  intro T hT X
  obtain ⟨fs, hret, hrun, hended, hW, hframe⟩ := X.leave (v := some (.int 1)) (hlocks := hlocks) (fun h => by rw [hr] at h; cases h)
  have hmeth₉ : T.vm.method? m = some meth := X.method'
  refine ⟨T.setFrames fs, ?_, .returned (some (.int 1)), hrun, hended, rfl, ⟨_, rfl⟩, hW, hframe⟩
  jvm_step X.here [X.here.top, hx, hb, hdg, hmeth₉, hr, ret, narrow_b1]
  (try refine ⟨rfl, ?_⟩); (try refine ⟨rfl, ?_⟩)
  first | (intro acts; rw [hret _ acts rfl rfl rfl]) | rw [hret _ _ rfl rfl rfl]
  exact Steps.refl _
/-- what holds at the law's entry: the machine, the code, the tables' words (any of lw_tbl by 'hts w (by decide +kernel)'), the script of L ints xs at the cell b, what the Statement gives of the start (any of its parts by flat_of_before) -/
def lw_At (p : Program) (s : State) (m : MethodId) (meth : Method) (c : Code) (b L : Nat) (xs : Nat → Int32) : Prop :=
  p.tables.exec = Jvm.exec ∧ c.code = code ∧ meth.sig.returnType = ret ∧ c.maxLocals = 7 ∧ s.vm.findClass R_law = some m.cls ∧ (∀ w ∈ lw_tbl, w.before #[Value.ref b] s = true) ∧ va_X b L xs s s.heap ∧ b < s.heap.size ∧ meth.locks = false ∧ (Jvm.Cond.and given_1 narrow_1).before #[Value.ref b] s = true
theorem ma_sel_below {C : String} {y : MethodName} {s : State} {args : Array Value} {n n₉ : Nat} (hy : y.cls ≠ "java/lang/invoke/MethodHandle" ∧ y.cls ≠ "java/lang/invoke/VarHandle") (hC : (Cond.instantiable C n).before args s = true) (hY : (Cond.instantiable y.cls n₉).before args s = true) (hp : (Cond.privateMethod y).before args s = true) (hi : (Cond.instanceMethod y).before args s = true) : (Cond.selects C y y).before args s = true := by
  obtain ⟨cC, kC, hc, -⟩ := Cond.instantiable_spec hC
  obtain ⟨cY, kY, hcY, hkY, -, hno, -, -⟩ := Cond.instantiable_spec hY
  have hni : kY.isInterface = false := (Bool.or_eq_false_iff.mp hno).1
  obtain ⟨mk, methM, hnamed, hmethM, -, -⟩ := Cond.instanceMethod_spec hi
  have hfound : s.methodFound? y.cls y.name y.desc = some mk := State.methodFound?_of_named hnamed hy
  have hcls : mk.cls = cY := Option.some.inj ((findClass_of_methodNamed hnamed).symm.trans hcY)
  have hsel : selectMethod {} s.vm cC mk = .method mk := selectMethod_private hmethM (Cond.privateMethod_at hp mk methM hnamed hmethM)
  simp only [Cond.before, Cond.holds, Cond.value, hc, hfound, hnamed, hsel, hcls, hkY]
  simp
  exact hni
theorem ma_tb_all {args : Array Value} {s : State} (hts : ∀ w ∈ lw_tbl, w.before args s = true) : ∀ w ∈ ma_TB, w.before args s = true := by
  intro w hw
  rcases List.mem_append.mp (List.mem_filter.mp hw).1 with h | h
  · have t1 : ∀ {w : Cond} (j : Nat), ma_ti j = some w → w.before args s = true := fun j hj => hts _ (List.mem_append_right _ (tb_in hj))
    simp only [ma_sx, List.mem_cons, List.not_mem_nil, or_false] at h
    rcases h with rfl | rfl | rfl | rfl | rfl | rfl
    · exact ma_sel_below (n := 8) (n₉ := 5) ⟨by decide, by decide⟩ (t1 246 (by decide +kernel)) (t1 137 (by decide +kernel)) (t1 834 (by decide +kernel)) (t1 835 (by decide +kernel))
    · exact ma_sel_below (n := 8) (n₉ := 5) ⟨by decide, by decide⟩ (t1 246 (by decide +kernel)) (t1 137 (by decide +kernel)) (t1 853 (by decide +kernel)) (t1 854 (by decide +kernel))
    · exact ma_sel_below (n := 8) (n₉ := 5) ⟨by decide, by decide⟩ (t1 246 (by decide +kernel)) (t1 137 (by decide +kernel)) (t1 857 (by decide +kernel)) (t1 858 (by decide +kernel))
    · exact ma_sel_below (n := 9) (n₉ := 5) ⟨by decide, by decide⟩ (t1 268 (by decide +kernel)) (t1 137 (by decide +kernel)) (t1 834 (by decide +kernel)) (t1 835 (by decide +kernel))
    · exact ma_sel_below (n := 9) (n₉ := 5) ⟨by decide, by decide⟩ (t1 268 (by decide +kernel)) (t1 137 (by decide +kernel)) (t1 853 (by decide +kernel)) (t1 854 (by decide +kernel))
    · exact ma_sel_below (n := 9) (n₉ := 5) ⟨by decide, by decide⟩ (t1 268 (by decide +kernel)) (t1 137 (by decide +kernel)) (t1 857 (by decide +kernel)) (t1 858 (by decide +kernel))
  · exact hts w h
/-- what the Statement gives, by its index; where the words of a text begin -/
def ma_gl : List Cond := flatC (Jvm.Cond.and given_1 narrow_1)
def ma_gb : List Nat := [145, 154, 164, 176, 187, 201, 215, 232, 245, 258, 275, 293, 311, 327, 349, 371, 394, 419, 447]
theorem gl_in {w : Cond} {k : Nat} (h : ma_gl[k]? = some w) : w ∈ flatC (Jvm.Cond.and given_1 narrow_1) := List.mem_of_getElem? h
theorem tb_all : ∀ (l : List Cond) (ks : List Nat), (l.length == ks.length && (l.zip ks).all (fun q => decide (ma_ti q.2 = some q.1) && q.1.onTables)) = true → ∀ w ∈ l, (decide (w ∈ tables_1) && w.onTables) = true
  | [], _, _, w, hw => absurd hw (by simp)
  | _ :: _, [], h, _, _ => absurd h (by simp)
  | a :: l, k :: ks, h, w, hw => by
    simp only [List.length_cons, List.zip_cons_cons, List.all_cons, Bool.and_eq_true, beq_iff_eq, decide_eq_true_eq] at h
    rcases List.mem_cons.mp hw with rfl | hw
    · simp only [Bool.and_eq_true, decide_eq_true_eq]
      exact ⟨tb_in h.2.1.1, h.2.1.2⟩
    · refine tb_all l ks ?_ w hw
      simp only [Bool.and_eq_true, beq_iff_eq]
      exact ⟨Nat.succ.inj h.1, h.2.2⟩
theorem gl_all : ∀ (l : List (String × String)) (ks : List Nat), (l.length == ks.length && (l.zip ks).all (fun q => decide (ma_gl[q.2]? = some (Cond.not (.castable q.1.1 q.1.2))))) = true → ∀ q ∈ l, Cond.not (.castable q.1 q.2) ∈ flatC (Jvm.Cond.and given_1 narrow_1)
  | [], _, _, w, hw => absurd hw (by simp)
  | _ :: _, [], h, _, _ => absurd h (by simp)
  | a :: l, k :: ks, h, w, hw => by
    simp only [List.length_cons, List.zip_cons_cons, List.all_cons, Bool.and_eq_true, beq_iff_eq, decide_eq_true_eq] at h
    rcases List.mem_cons.mp hw with rfl | hw
    · exact gl_in h.2.1
    · refine gl_all l ks ?_ w hw
      simp only [Bool.and_eq_true, beq_iff_eq]
      exact ⟨Nat.succ.inj h.1, h.2.2⟩
theorem ma_nw_tab : ∀ w ∈ ma_nw, (decide (w ∈ tables_1) && w.onTables) = true := tb_all ma_nw [532, 610, 633, 1200, 1217, 1325, 2163, 2164, 2165, 2166, 2167, 2168, 2169, 2170, 2171, 2172, 2173, 40, 1120, 477, 503, 533, 534, 535, 536, 537, 538, 665, 749, 892, 1007, 1089, 1368] (by decide +kernel)
theorem ma_nc_tab : ∀ q ∈ ma_nc, Cond.not (.castable q.1 q.2) ∈ flatC (Jvm.Cond.and given_1 narrow_1) := gl_all ma_nc [119, 135, 120, 118, 134, 121, 136, 117, 133, 116, 39, 56, 73, 90, 107, 22, 57, 74, 91, 108, 23, 40, 75, 92, 109, 25, 42, 59, 94, 111, 26, 43, 60, 77, 112, 27, 44, 61, 78, 95] (by decide +kernel)
theorem ma_clw0 : ∀ w ∈ u_ws RJx3273f TJx3273f 6, w ∈ ma_TB := ma_lay_in [1219, 1220, 1221, 1222, 1223, 1228] (by decide +kernel)
def ma_txt (i : Nat) : Term := Term.string (ma_txr.getD i ("", 0, "", 0)).1 (ma_txr.getD i ("", 0, "", 0)).2.1
theorem ma_tx1d : ∀ i, i < 19 → ma_gl[ma_gb.getD i 0]? = some (Cond.exactly (ma_txt i) "java/lang/String") := by decide +kernel
theorem ma_tx1 : ∀ i, i < 19 → Cond.exactly (ma_txt i) "java/lang/String" ∈ flatC (Jvm.Cond.and given_1 narrow_1) := fun i hi => gl_in (ma_tx1d i hi)
theorem ma_tx2d : ∀ i, i < 19 → ma_gl[ma_gb.getD i 0 + 1]? = some (Cond.eq (.field (ma_txt i) "java/lang/String" "coder" "B") (.int 0)) := by decide +kernel
theorem ma_tx2 : ∀ i, i < 19 → Cond.eq (.field (ma_txt i) "java/lang/String" "coder" "B") (.int 0) ∈ flatC (Jvm.Cond.and given_1 narrow_1) := fun i hi => gl_in (ma_tx2d i hi)
theorem ma_tx3d : ∀ i, i < 19 → ma_gl[ma_gb.getD i 0 + 2]? = some (Cond.arrayOf (.field (ma_txt i) "java/lang/String" "value" "[B") .byte) := by decide +kernel
theorem ma_tx3 : ∀ i, i < 19 → Cond.arrayOf (.field (ma_txt i) "java/lang/String" "value" "[B") .byte ∈ flatC (Jvm.Cond.and given_1 narrow_1) := fun i hi => gl_in (ma_tx3d i hi)
theorem ma_tx4d : ∀ i, i < 19 → ma_gl[ma_gb.getD i 0 + 3]? = some (Cond.eq (.length (.field (ma_txt i) "java/lang/String" "value" "[B")) (.int (Int32.ofNat (ma_txl.getD i 0)))) := by decide +kernel
theorem ma_tx4 : ∀ i, i < 19 → Cond.eq (.length (.field (ma_txt i) "java/lang/String" "value" "[B")) (.int (Int32.ofNat (ma_txl.getD i 0))) ∈ flatC (Jvm.Cond.and given_1 narrow_1) := fun i hi => gl_in (ma_tx4d i hi)
theorem ma_tx5d : ∀ i, i < 19 → ∀ j, j < ma_txl.getD i 0 → ma_gl[ma_gb.getD i 0 + 4 + j]? = some (Cond.eq (.elem (.field (ma_txt i) "java/lang/String" "value" "[B") (.int (Int32.ofNat j))) (.int ((ma_txb.getD i []).getD j 0))) := by decide +kernel
theorem ma_tx5 : ∀ i, i < 19 → ∀ j, j < ma_txl.getD i 0 → Cond.eq (.elem (.field (ma_txt i) "java/lang/String" "value" "[B") (.int (Int32.ofNat j))) (.int ((ma_txb.getD i []).getD j 0)) ∈ flatC (Jvm.Cond.and given_1 narrow_1) := fun i hi j hj => gl_in (ma_tx5d i hi j hj)
theorem ma_tx6_0d : ∀ j, j < 19 → 0 < j → ma_gl[ma_gb.getD j 0 + 4 + ma_txl.getD j 0 + 0]? = some (Cond.not (Cond.eq (ma_txt 0) (ma_txt j))) := by decide +kernel
theorem ma_tx6_0 : ∀ j, j < 19 → 0 < j → Cond.not (Cond.eq (ma_txt 0) (ma_txt j)) ∈ flatC (Jvm.Cond.and given_1 narrow_1) := fun j hj hk => gl_in (ma_tx6_0d j hj hk)
theorem ma_tx6_1d : ∀ j, j < 19 → 1 < j → ma_gl[ma_gb.getD j 0 + 4 + ma_txl.getD j 0 + 1]? = some (Cond.not (Cond.eq (ma_txt 1) (ma_txt j))) := by decide +kernel
theorem ma_tx6_1 : ∀ j, j < 19 → 1 < j → Cond.not (Cond.eq (ma_txt 1) (ma_txt j)) ∈ flatC (Jvm.Cond.and given_1 narrow_1) := fun j hj hk => gl_in (ma_tx6_1d j hj hk)
theorem ma_tx6_2d : ∀ j, j < 19 → 2 < j → ma_gl[ma_gb.getD j 0 + 4 + ma_txl.getD j 0 + 2]? = some (Cond.not (Cond.eq (ma_txt 2) (ma_txt j))) := by decide +kernel
theorem ma_tx6_2 : ∀ j, j < 19 → 2 < j → Cond.not (Cond.eq (ma_txt 2) (ma_txt j)) ∈ flatC (Jvm.Cond.and given_1 narrow_1) := fun j hj hk => gl_in (ma_tx6_2d j hj hk)
theorem ma_tx6_3d : ∀ j, j < 19 → 3 < j → ma_gl[ma_gb.getD j 0 + 4 + ma_txl.getD j 0 + 3]? = some (Cond.not (Cond.eq (ma_txt 3) (ma_txt j))) := by decide +kernel
theorem ma_tx6_3 : ∀ j, j < 19 → 3 < j → Cond.not (Cond.eq (ma_txt 3) (ma_txt j)) ∈ flatC (Jvm.Cond.and given_1 narrow_1) := fun j hj hk => gl_in (ma_tx6_3d j hj hk)
theorem ma_tx6_4d : ∀ j, j < 19 → 4 < j → ma_gl[ma_gb.getD j 0 + 4 + ma_txl.getD j 0 + 4]? = some (Cond.not (Cond.eq (ma_txt 4) (ma_txt j))) := by decide +kernel
theorem ma_tx6_4 : ∀ j, j < 19 → 4 < j → Cond.not (Cond.eq (ma_txt 4) (ma_txt j)) ∈ flatC (Jvm.Cond.and given_1 narrow_1) := fun j hj hk => gl_in (ma_tx6_4d j hj hk)
theorem ma_tx6_5d : ∀ j, j < 19 → 5 < j → ma_gl[ma_gb.getD j 0 + 4 + ma_txl.getD j 0 + 5]? = some (Cond.not (Cond.eq (ma_txt 5) (ma_txt j))) := by decide +kernel
theorem ma_tx6_5 : ∀ j, j < 19 → 5 < j → Cond.not (Cond.eq (ma_txt 5) (ma_txt j)) ∈ flatC (Jvm.Cond.and given_1 narrow_1) := fun j hj hk => gl_in (ma_tx6_5d j hj hk)
theorem ma_tx6_6d : ∀ j, j < 19 → 6 < j → ma_gl[ma_gb.getD j 0 + 4 + ma_txl.getD j 0 + 6]? = some (Cond.not (Cond.eq (ma_txt 6) (ma_txt j))) := by decide +kernel
theorem ma_tx6_6 : ∀ j, j < 19 → 6 < j → Cond.not (Cond.eq (ma_txt 6) (ma_txt j)) ∈ flatC (Jvm.Cond.and given_1 narrow_1) := fun j hj hk => gl_in (ma_tx6_6d j hj hk)
theorem ma_tx6_7d : ∀ j, j < 19 → 7 < j → ma_gl[ma_gb.getD j 0 + 4 + ma_txl.getD j 0 + 7]? = some (Cond.not (Cond.eq (ma_txt 7) (ma_txt j))) := by decide +kernel
theorem ma_tx6_7 : ∀ j, j < 19 → 7 < j → Cond.not (Cond.eq (ma_txt 7) (ma_txt j)) ∈ flatC (Jvm.Cond.and given_1 narrow_1) := fun j hj hk => gl_in (ma_tx6_7d j hj hk)
theorem ma_tx6_8d : ∀ j, j < 19 → 8 < j → ma_gl[ma_gb.getD j 0 + 4 + ma_txl.getD j 0 + 8]? = some (Cond.not (Cond.eq (ma_txt 8) (ma_txt j))) := by decide +kernel
theorem ma_tx6_8 : ∀ j, j < 19 → 8 < j → Cond.not (Cond.eq (ma_txt 8) (ma_txt j)) ∈ flatC (Jvm.Cond.and given_1 narrow_1) := fun j hj hk => gl_in (ma_tx6_8d j hj hk)
theorem ma_tx6_9d : ∀ j, j < 19 → 9 < j → ma_gl[ma_gb.getD j 0 + 4 + ma_txl.getD j 0 + 9]? = some (Cond.not (Cond.eq (ma_txt 9) (ma_txt j))) := by decide +kernel
theorem ma_tx6_9 : ∀ j, j < 19 → 9 < j → Cond.not (Cond.eq (ma_txt 9) (ma_txt j)) ∈ flatC (Jvm.Cond.and given_1 narrow_1) := fun j hj hk => gl_in (ma_tx6_9d j hj hk)
theorem ma_tx6_10d : ∀ j, j < 19 → 10 < j → ma_gl[ma_gb.getD j 0 + 4 + ma_txl.getD j 0 + 10]? = some (Cond.not (Cond.eq (ma_txt 10) (ma_txt j))) := by decide +kernel
theorem ma_tx6_10 : ∀ j, j < 19 → 10 < j → Cond.not (Cond.eq (ma_txt 10) (ma_txt j)) ∈ flatC (Jvm.Cond.and given_1 narrow_1) := fun j hj hk => gl_in (ma_tx6_10d j hj hk)
theorem ma_tx6_11d : ∀ j, j < 19 → 11 < j → ma_gl[ma_gb.getD j 0 + 4 + ma_txl.getD j 0 + 11]? = some (Cond.not (Cond.eq (ma_txt 11) (ma_txt j))) := by decide +kernel
theorem ma_tx6_11 : ∀ j, j < 19 → 11 < j → Cond.not (Cond.eq (ma_txt 11) (ma_txt j)) ∈ flatC (Jvm.Cond.and given_1 narrow_1) := fun j hj hk => gl_in (ma_tx6_11d j hj hk)
theorem ma_tx6_12d : ∀ j, j < 19 → 12 < j → ma_gl[ma_gb.getD j 0 + 4 + ma_txl.getD j 0 + 12]? = some (Cond.not (Cond.eq (ma_txt 12) (ma_txt j))) := by decide +kernel
theorem ma_tx6_12 : ∀ j, j < 19 → 12 < j → Cond.not (Cond.eq (ma_txt 12) (ma_txt j)) ∈ flatC (Jvm.Cond.and given_1 narrow_1) := fun j hj hk => gl_in (ma_tx6_12d j hj hk)
theorem ma_tx6_13d : ∀ j, j < 19 → 13 < j → ma_gl[ma_gb.getD j 0 + 4 + ma_txl.getD j 0 + 13]? = some (Cond.not (Cond.eq (ma_txt 13) (ma_txt j))) := by decide +kernel
theorem ma_tx6_13 : ∀ j, j < 19 → 13 < j → Cond.not (Cond.eq (ma_txt 13) (ma_txt j)) ∈ flatC (Jvm.Cond.and given_1 narrow_1) := fun j hj hk => gl_in (ma_tx6_13d j hj hk)
theorem ma_tx6_14d : ∀ j, j < 19 → 14 < j → ma_gl[ma_gb.getD j 0 + 4 + ma_txl.getD j 0 + 14]? = some (Cond.not (Cond.eq (ma_txt 14) (ma_txt j))) := by decide +kernel
theorem ma_tx6_14 : ∀ j, j < 19 → 14 < j → Cond.not (Cond.eq (ma_txt 14) (ma_txt j)) ∈ flatC (Jvm.Cond.and given_1 narrow_1) := fun j hj hk => gl_in (ma_tx6_14d j hj hk)
theorem ma_tx6_15d : ∀ j, j < 19 → 15 < j → ma_gl[ma_gb.getD j 0 + 4 + ma_txl.getD j 0 + 15]? = some (Cond.not (Cond.eq (ma_txt 15) (ma_txt j))) := by decide +kernel
theorem ma_tx6_15 : ∀ j, j < 19 → 15 < j → Cond.not (Cond.eq (ma_txt 15) (ma_txt j)) ∈ flatC (Jvm.Cond.and given_1 narrow_1) := fun j hj hk => gl_in (ma_tx6_15d j hj hk)
theorem ma_tx6_16d : ∀ j, j < 19 → 16 < j → ma_gl[ma_gb.getD j 0 + 4 + ma_txl.getD j 0 + 16]? = some (Cond.not (Cond.eq (ma_txt 16) (ma_txt j))) := by decide +kernel
theorem ma_tx6_16 : ∀ j, j < 19 → 16 < j → Cond.not (Cond.eq (ma_txt 16) (ma_txt j)) ∈ flatC (Jvm.Cond.and given_1 narrow_1) := fun j hj hk => gl_in (ma_tx6_16d j hj hk)
theorem ma_tx6_17d : ∀ j, j < 19 → 17 < j → ma_gl[ma_gb.getD j 0 + 4 + ma_txl.getD j 0 + 17]? = some (Cond.not (Cond.eq (ma_txt 17) (ma_txt j))) := by decide +kernel
theorem ma_tx6_17 : ∀ j, j < 19 → 17 < j → Cond.not (Cond.eq (ma_txt 17) (ma_txt j)) ∈ flatC (Jvm.Cond.and given_1 narrow_1) := fun j hj hk => gl_in (ma_tx6_17d j hj hk)
theorem ma_tx6_18d : ∀ j, j < 19 → 18 < j → ma_gl[ma_gb.getD j 0 + 4 + ma_txl.getD j 0 + 18]? = some (Cond.not (Cond.eq (ma_txt 18) (ma_txt j))) := by decide +kernel
theorem ma_tx6_18 : ∀ j, j < 19 → 18 < j → Cond.not (Cond.eq (ma_txt 18) (ma_txt j)) ∈ flatC (Jvm.Cond.and given_1 narrow_1) := fun j hj hk => gl_in (ma_tx6_18d j hj hk)
theorem ma_tx6a : ∀ i, i < 19 → ∀ j, j < 19 → i < j → Cond.not (Cond.eq (ma_txt i) (ma_txt j)) ∈ flatC (Jvm.Cond.and given_1 narrow_1) := by
  intro i hi j hj hij
  have h : i = 0 ∨ i = 1 ∨ i = 2 ∨ i = 3 ∨ i = 4 ∨ i = 5 ∨ i = 6 ∨ i = 7 ∨ i = 8 ∨ i = 9 ∨ i = 10 ∨ i = 11 ∨ i = 12 ∨ i = 13 ∨ i = 14 ∨ i = 15 ∨ i = 16 ∨ i = 17 ∨ i = 18 := by omega
  rcases h with rfl | rfl | rfl | rfl | rfl | rfl | rfl | rfl | rfl | rfl | rfl | rfl | rfl | rfl | rfl | rfl | rfl | rfl | rfl
  · exact ma_tx6_0 j hj hij
  · exact ma_tx6_1 j hj hij
  · exact ma_tx6_2 j hj hij
  · exact ma_tx6_3 j hj hij
  · exact ma_tx6_4 j hj hij
  · exact ma_tx6_5 j hj hij
  · exact ma_tx6_6 j hj hij
  · exact ma_tx6_7 j hj hij
  · exact ma_tx6_8 j hj hij
  · exact ma_tx6_9 j hj hij
  · exact ma_tx6_10 j hj hij
  · exact ma_tx6_11 j hj hij
  · exact ma_tx6_12 j hj hij
  · exact ma_tx6_13 j hj hij
  · exact ma_tx6_14 j hj hij
  · exact ma_tx6_15 j hj hij
  · exact ma_tx6_16 j hj hij
  · exact ma_tx6_17 j hj hij
  · exact ma_tx6_18 j hj hij
theorem ma_tx6 : ∀ i, i < 19 → ∀ j, j < 19 → i ≠ j → Cond.not (Cond.eq (ma_txt i) (ma_txt j)) ∈ flatC (Jvm.Cond.and given_1 narrow_1) ∨ Cond.not (Cond.eq (ma_txt j) (ma_txt i)) ∈ flatC (Jvm.Cond.and given_1 narrow_1) := by
  intro i hi j hj hij
  rcases Nat.lt_or_gt_of_ne hij with h | h
  · exact Or.inl (ma_tx6a i hi j hj h)
  · exact Or.inr (ma_tx6a j hj i hi h)
theorem ma_tx7 : ∀ i, i < 19 → ma_txl.getD i 0 < 2 ^ 31 := by decide +kernel
theorem ma_tx8 : ∀ q ∈ ma_txr, Cond.stringRef q.1 q.2.1 q.2.2.1 ∈ tables_1 ∧ q.2.2.2 < 19 ∧ ma_txt q.2.2.2 = Term.string q.1 q.2.1 := by decide +kernel
theorem ma_st1 : Cond.eq (.static "java/lang/String" "COMPACT_STRINGS" "Z") (.int 1) ∈ flatC (Jvm.Cond.and given_1 narrow_1) := by decide +kernel
theorem ma_st2 : Cond.isRef (.static "jdk/internal/util/Preconditions" "SIOOBE_FORMATTER" "Ljava/util/function/BiFunction;") ∈ flatC (Jvm.Cond.and given_1 narrow_1) := by decide +kernel
theorem ma_st3 : Cond.isRef (.static Bundle.tN "UNASSIGNED_STACK" Bundle.steD) ∈ flatC (Jvm.Cond.and given_1 narrow_1) := by decide +kernel
theorem ma_st4 : Cond.isRef (.static Bundle.tN "SUPPRESSED_SENTINEL" Bundle.listD) ∈ flatC (Jvm.Cond.and given_1 narrow_1) := by decide +kernel
theorem ma_ls1 : Cond.laysStatic "java/lang/String" "COMPACT_STRINGS" "Z" ∈ tables_1 := by decide +kernel
theorem ma_ls2 : Cond.laysStatic "jdk/internal/util/Preconditions" "SIOOBE_FORMATTER" "Ljava/util/function/BiFunction;" ∈ tables_1 := by decide +kernel
theorem ma_ls3 : Cond.laysStatic Bundle.tN "UNASSIGNED_STACK" Bundle.steD ∈ tables_1 := by decide +kernel
theorem ma_ls4 : Cond.laysStatic Bundle.tN "SUPPRESSED_SENTINEL" Bundle.listD ∈ tables_1 := by decide +kernel
theorem ma_in1 : Cond.initialized "java/lang/String" ∈ tables_1 ∧ Cond.initialized "jdk/internal/util/Preconditions" ∈ tables_1 ∧ Cond.initialized Bundle.tN ∈ tables_1 := by decide +kernel
theorem ma_ao1 : Cond.arrayOver (.object RX9) ∈ tables_1 ∧ Cond.arrayOver (.object RX1) ∈ tables_1 := by decide +kernel
theorem ma_ac1 : Cond.arrayClass .int ∈ tables_1 ∧ Cond.arrayClass .byte ∈ tables_1 ∧ Cond.arrayClass .boolean ∈ tables_1 ∧ Cond.arrayClass .long ∈ tables_1 := by decide +kernel
theorem ma_ins1 : ∀ k, k < 13 → ∃ q : vw_C, vwCl[k]? = some q ∧ Cond.instantiable q.1 q.2.2 ∈ tables_1 := by
  intro k hk
  have h : k = 0 ∨ k = 1 ∨ k = 2 ∨ k = 3 ∨ k = 4 ∨ k = 5 ∨ k = 6 ∨ k = 7 ∨ k = 8 ∨ k = 9 ∨ k = 10 ∨ k = 11 ∨ k = 12 := by omega
  rcases h with rfl | rfl | rfl | rfl | rfl | rfl | rfl | rfl | rfl | rfl | rfl | rfl | rfl <;> exact ⟨_, rfl, by decide +kernel⟩

/-! from 80.start -/
/-- no cell yet -/
def ma_S0 : ma_S := (64, 0, 0, fun _ => (0, 0), fun _ _ => 0, fun _ _ => 0, fun _ _ => none)
theorem ma_arr {args : Array Value} {s : State} {ty : FieldType} (hno : ∀ C, ty ≠ .object C) (h : (Cond.arrayClass ty).before args s = true) : ∃ cA : ClassId, ArrOfT s cA ty ∧ va_RA s cA ty := by
  obtain ⟨cA, k, comp, h1, h2, h3⟩ := Cond.arrayClass_spec h
  refine ⟨cA, fun n z => ⟨fun k h => (by cases h), k, h2, comp, h3⟩, ?_⟩
  cases ty <;> first | exact h1 | exact absurd rfl (hno _)
theorem ma_arrO {args : Array Value} {s : State} {C : String} (h : (Cond.arrayOver (.object C)).before args s = true) : ∃ cA : ClassId, ArrOfT s cA (.object C) ∧ va_RA s cA (.object C) := by
  obtain ⟨comp, cA, k, h1, -, h2, h3, h4⟩ := Cond.arrayOver_spec h
  exact ⟨cA, fun n z => ⟨fun k h => (by cases h), k, h2, comp, h3⟩, k, comp, h2, h3, h1, h4⟩
set_option maxHeartbeats 4000000 in
/-- THE LAW, out of its run in the small machine -/
theorem ma_start {p : Program} {e : Env} {s : State} {m : MethodId} {below : List Frame} {meth : Method} {c : Code} (l : Launch) (hlt : l.stackTraces = false) {b L : Nat} {xs : Nat → Int32} (C0 : lw_At p s m meth c b L xs)
    (hrun : ∀ ys : Nat → Int32, (∀ j, j < L → ys j = xs j) → ∃ (f : Nat) (S₉ : ma_S), ma_frun (L, ys) f 0 13 494 0 [(0, .inr (.inr (some 30)))] [] ma_S0 = some (some (.inl 1), S₉) ∧ mC S₉ ≤ 601024 ∧ mZ S₉ ≤ 7293034) :
    W p l e room_1 s m #[Value.ref b] below meth c s.heap [] 0 0 (lw_Z below #[Value.ref b] s) (entryFrame m ([Value.ref b] : List Value).toArray 7) := by
  obtain ⟨hx, hb, hr, hml, hown, hts, hX, hbl, hlocks, hgv⟩ := C0
  have htt : ∀ w ∈ tables_1, w.before #[Value.ref b] s = true := fun w hw => hts w (List.mem_append_right _ hw)
  have hfl := flat_of_before _ hgv
  have hTB := ma_tb_all hts
  have hA0 : ∀ a : Nat, a < s.heap.size → ¬ (fun q : Nat => s.heap.size ≤ q) a := fun a h z => absurd h (Nat.not_lt.mpr z)
  -- the classes
  have hk : ∀ k : Nat, ∃ z : ClassId × (Nat → Nat), ∀ q : vw_C, vwCl[k]? = some q → u_Kn s q.1 q.2.1 q.2.2 z.1 z.2 := by
    intro k
    by_cases hk : k < 13
    · obtain ⟨q, hq, hi⟩ := ma_ins1 k hk
      have hw : ∀ w ∈ u_ws q.1 q.2.1 q.2.2, w ∈ ma_TB := by
        by_cases h0 : k = 0
        · subst h0; cases hq; exact ma_clw0
        · obtain ⟨C, T, hcl, hw, -, -⟩ := ma_clok_all (t := k) (by omega) (by omega)
          cases hq.symm.trans hcl
          exact hw
      obtain ⟨cC, iS, h⟩ := u_known hTB hw (htt _ hi)
      exact ⟨(cC, iS), fun q₉ hq₉ => by cases hq.symm.trans hq₉; exact h⟩
    · exact ⟨(0, fun _ => 0), fun q hq => by
        have := (List.getElem?_eq_some_iff.mp hq).1
        exact absurd this (by show ¬ k < 13; exact hk)⟩
  obtain ⟨dz, hdz⟩ := Classical.axiomOfChoice hk
  obtain ⟨a20, h20⟩ := ma_arr (fun _ h => by cases h) (htt _ ma_ac1.1)
  obtain ⟨a21, h21⟩ := ma_arr (fun _ h => by cases h) (htt _ ma_ac1.2.1)
  obtain ⟨a22, h22⟩ := ma_arr (fun _ h => by cases h) (htt _ ma_ac1.2.2.1)
  obtain ⟨a23, h23⟩ := ma_arr (fun _ h => by cases h) (htt _ ma_ac1.2.2.2)
  obtain ⟨a24, h24⟩ := ma_arrO (htt _ ma_ao1.1)
  obtain ⟨a25, h25⟩ := ma_arrO (htt _ ma_ao1.2)
  obtain ⟨kA, e20, e21, e22, e23, e24, e25⟩ : ∃ kA : Nat → ClassId, kA 20 = a20 ∧ kA 21 = a21 ∧ kA 22 = a22 ∧ kA 23 = a23 ∧ kA 24 = a24 ∧ kA 25 = a25 :=
    ⟨fun k => if k = 20 then a20 else if k = 21 then a21 else if k = 22 then a22 else if k = 23 then a23 else if k = 24 then a24 else a25, rfl, rfl, rfl, rfl, rfl, rfl⟩
  have hK : va_K (fun k => (dz k).1, fun k => (dz k).2) vwCl (ma_tys kA) s := by
    refine ⟨fun k q hq => hdz k q hq, fun k q hq => ?_⟩
    have hm := List.mem_of_getElem? hq
    simp only [ma_tys, List.mem_cons, List.not_mem_nil, or_false, e20, e21, e22, e23, e24, e25] at hm
    rcases hm with rfl | rfl | rfl | rfl | rfl | rfl
    · exact h20
    · exact h21
    · exact h22
    · exact h23
    · exact h24
    · exact h25
  have hN : ma_Nx s := by
    refine ⟨fun w hw => ?_, ⟨va_AO.of (htt _ ma_ao1.1), va_AO.of (htt _ ma_ao1.2)⟩, fun q hq => va_Nc.of (hfl _ (ma_nc_tab q hq))⟩
    have h9 := ma_nw_tab w hw
    simp only [Bool.and_eq_true, decide_eq_true_eq] at h9
    exact va_Nw.of h9.2 (htt _ h9.1)
  -- the texts and statics
  obtain ⟨adK, adV, hS1, hS2⟩ := vk_Sof (args := #[Value.ref b]) (s := s) (N := 19) (tm := ma_txt) (len := ma_txl) (byt := ma_txb) (A := fun q : Nat => s.heap.size ≤ q) ma_tx7 (fun i hi => hfl _ (ma_tx1 i hi)) (fun i hi => hfl _ (ma_tx2 i hi)) (fun i hi => hfl _ (ma_tx3 i hi)) (fun i hi => hfl _ (ma_tx4 i hi)) (fun i hi j hj => hfl _ (ma_tx5 i hi j hj)) (fun i j hi hj hij => (ma_tx6 i hi j hj hij).imp (hfl _) (hfl _)) hA0
  have hC := va_Zof (A := fun q : Nat => s.heap.size ≤ q) (htt _ ma_ls1) (htt _ ma_in1.1) (va_eqi (hfl _ ma_st1)) hA0
  have hF := va_Zqof (A := fun q : Nat => s.heap.size ≤ q) (htt _ ma_ls2) (htt _ ma_in1.2.1) (hfl _ ma_st2) hA0
  have hU := vx_Zqof (A := fun q : Nat => s.heap.size ≤ q) (htt _ ma_ls3) (htt _ ma_in1.2.2) (hfl _ ma_st3) hA0
  have hZ := vx_Zqof (A := fun q : Nat => s.heap.size ≤ q) (htt _ ma_ls4) (htt _ ma_in1.2.2) (hfl _ ma_st4) hA0
  obtain ⟨fz, ft, hF⟩ : ∃ (fz : Int32) (ft : Nat), va_Z "jdk/internal/util/Preconditions" "SIOOBE_FORMATTER" "Ljava/util/function/BiFunction;" (va_rf (if fz = 0 then none else some ft)) (fun q : Nat => s.heap.size ≤ q) s s.heap := by
    rcases hF with h | ⟨t, h⟩
    · exact ⟨0, 0, h⟩
    · exact ⟨1, t, h⟩
  obtain ⟨ys, hys, hyL⟩ : ∃ ys : Nat → Int32, (∀ j, j < L → ys j = xs j) ∧ ys L = fz := ⟨fun j => if j < L then xs j else fz, fun j hj => if_pos hj, if_neg (Nat.lt_irrefl L)⟩
  obtain ⟨ad, ad1, ad2, ad3, ad4⟩ : ∃ ad : Nat → Nat, (∀ i, i < 19 → ad i = adK i) ∧ (∀ i, i < 19 → ad (32 + i) = adV i) ∧ ad 30 = b ∧ ad 29 = ft := by
    refine ⟨fun k => if k < 19 then adK k else if k = 29 then ft else if k = 30 then b else adV (k - 32), fun i hi => if_pos hi, fun i hi => ?_, rfl, rfl⟩
    show (if 32 + i < 19 then adK (32 + i) else if 32 + i = 29 then ft else if 32 + i = 30 then b else adV (32 + i - 32)) = adV i
    rw [if_neg (by omega), if_neg (by omega), if_neg (by omega), Nat.add_sub_cancel_left]
  obtain ⟨f, S₉, hrn, hc1, hc2⟩ := hrun ys hys
  have hXt : ma_Xt (L, ys) ad (fun q : Nat => s.heap.size ≤ q) s s.heap := by
    refine ⟨⟨hU, hZ⟩, ⟨?_, by rw [ad3]; exact hA0 b hbl, by rw [ad3]; exact hbl⟩, ?_, ?_, hC, ?_⟩
    · rw [ad3]
      obtain ⟨scr, q1, q2, q3, q4, q5⟩ := hX
      exact ⟨scr, q1, q2, q3, q4, fun j hj => by show scr.slots[j]? = some (.int (ys j)); rw [hys j hj]; exact q5 j hj⟩
    · refine ⟨fun i hi => ?_, fun i j hi hj hij => ?_⟩
      · have := hS1.1 i hi
        simp only [ad1 i hi, ad2 i hi]
        exact this
      · rw [ad1 i hi, ad1 j hj] at hij
        exact hS1.2 i j hi hj hij
    · intro q hq
      obtain ⟨t1, t2, t3⟩ := ma_tx8 q hq
      have := hS2 q.2.2.2 t2
      rw [t3] at this
      rw [ad1 _ t2]
      exact vk_R.of (htt _ t1) this
    · have : va_rf ((ma_fm (L, ys)).map ad) = va_rf (if fz = 0 then none else some ft) := by
        unfold ma_fm
        rw [show (L, ys).2 (L, ys).1 = fz from hyL]
        split
        · rfl
        · show va_rf (some (ad 29)) = _; rw [ad4]
      rw [this]
      exact hF
  have hl := lv_entry ([.ref b]) (n := 7) (Nat.le_of_ble_eq_true rfl)
  rw [lg_entry_eq]
  generalize (lg_sl ([.ref b]) ++ List.replicate (7 - (lg_sl ([.ref b])).length) Slot.unset).toArray = ls at hl ⊢
  have hl : lv_has ls 7 (ma_tl ad [(0, .inr (.inr (some 30)))]) := by
    show lv_has ls 7 [(0, .ref (ad 30))]
    rw [ad3]
    exact hl
  refine ma_fok_all (L, ys) l hlt f 0 13 494 0 [(0, .inr (.inr (some 30)))] [] ma_S0 (some (.inl 1)) S₉ hrn code 7 (some .boolean) [] rfl p e room_1 s m #[Value.ref b] below meth c s.heap [] 0 0 _ ls ad kA (fun k => (dz k).1, fun k => (dz k).2) (fun q : Nat => s.heap.size ≤ q)
    ⟨hx, hb, hml, hown, hTB, hK, hN, (fun h => (by cases h)), Nat.le_refl _, Nat.le_refl _, fun q h => h⟩ (fun h => (by cases h))
    ⟨hl, ⟨fun c k b h => (by cases h), Nat.le_refl 64⟩, fun q hq => ?_, ma_nil_cs, fun k q hk => (by cases hk), ⟨fun i j p q h => (by cases h), fun k q h => (by cases h)⟩, va_S.rf, hXt⟩ (by show 0 + (mC S₉ - 0) ≤ 601024; omega) (by show 0 + (mZ S₉ - 0) ≤ 7293034; omega) ?_
  · rw [List.mem_singleton] at hq
    subst hq
    exact fun b hb => by cases hb; show 30 < 64; omega
  · intro ad₉ H1 locs1 ls1 pc1 n1 i1 st1 hag Wd1 hd1 hr1
    obtain ⟨hl1, hh1, hL1, hcs1, hP1, hD1, hS3, hX1⟩ := Wd1
    have hi : i1 = .ireturn ∧ n1 = 1 ∧ st1 = [.inl 1] := by
      unfold ma_ret at hr1
      split at hr1
      · split at hr1
        · split at hr1
          · cases hr1; exact ⟨rfl, rfl, rfl⟩
          · cases hr1
        · cases hr1
      · split at hr1 <;> cases hr1
      · split at hr1 <;> cases hr1
      · cases hr1
    obtain ⟨rfl, rfl, rfl⟩ := hi
    refine va_forget (fun q hq => hS3.2.2 q hq) ?_
    refine W.widen (k := 601024) (n := 7293034) (by show 0 + (mC S₉ - 0) ≤ 601024; omega) (by show 0 + (mZ S₉ - 0) ≤ 7293034; omega) ?_
    exact lw_ret hx hb hr hlocks hd1

/-! from 82.value -/
/-! THE VALUE OF A RUN: what a run of the small machine comes to, without fuel; its equations -/
abbrev ma_R : Type := (Option ma_V ⊕ (Nat × Nat)) × ma_S
def ma_body (X : Nat × (Nat → Int32)) (rc : Nat → Nat → Nat → Nat → ma_L → List ma_V → ma_S → Option ma_R) (d w M pc : Nat) (L : ma_L) (st : List ma_V) (S : ma_S) : Option ma_R := match ma_md M with
  | none => none
  | some (o, y, cc, nL, ret) => match decode cc pc with
    | .error _ => none
    | .ok (i, n) => match ma_one X o (decide (y.name = "<init>")) nL d w i n pc L st S with
      | some (pc₉, L₉, st₉, S₉) => rc d w M pc₉ L₉ st₉ S₉
      | none => match ma_ret ret i n st with
        | some v => some (.inl v, S)
        | none => match ma_thr o cc pc with
          | some x => if 6 ≤ d ∧ ma_sz st + 81 ≤ w then some (.inr (x, pc), ma_bump S) else none
          | none => match ma_cl o i n st S with
            | none => none
            | some ((k, M₉), as, rest) => match ma_md M₉ with
              | none => none
              | some (_, _, _, nL₉, _) => if 1 ≤ d ∧ 19 + nL₉ ≤ w ∧ ma_sz as ≤ nL₉ ∧ ma_sz rest ≤ 8 then (match rc (d - 1) (w - (19 + nL₉)) M₉ 0 (ma_args 0 as) [] S with
                | some (.inl v, S₉) => rc d w M (pc + 3) L (v.toList ++ rest) S₉
                | some (.inr (x, _), S₉) => if k ≤ 1 then some (.inr (x, pc), S₉) else none
                | none => none) else none
theorem ma_run_s (X : Nat × (Nat → Int32)) (f d w M pc : Nat) (L : ma_L) (st : List ma_V) (S : ma_S) : ma_run X (f + 1) d w M pc L st S = ma_body X (ma_run X f) d w M pc L st S := rfl
theorem ma_run_up {X : Nat × (Nat → Int32)} : ∀ (f d w M pc : Nat) (L : ma_L) (st : List ma_V) (S : ma_S) (r : ma_R), ma_run X f d w M pc L st S = some r → ma_run X (f + 1) d w M pc L st S = some r := by
  intro f
  induction f with
  | zero => intro d w M pc L st S r h; cases h
  | succ f ih =>
    intro d w M pc L st S r h
    rw [ma_run_s] at h ⊢
    unfold ma_body at h ⊢
    split at h
    · cases h
    · next o y cc nL ret hmd =>
      split at h
      · cases h
      · next i n hd =>
        split at h
        · exact ih _ _ _ _ _ _ _ _ h
        · split at h
          · exact h
          · split at h
            · exact h
            · split at h
              · cases h
              · split at h
                · cases h
                · split at h
                  · next hroom =>
                    rw [if_pos hroom]
                    split at h
                    · next v2 S1 hr =>
                      rw [ih _ _ _ _ _ _ _ _ hr]
                      exact ih _ _ _ _ _ _ _ _ h
                    · next x2 px S1 hr =>
                      rw [ih _ _ _ _ _ _ _ _ hr]
                      exact h
                    · cases h
                  · cases h
theorem ma_run_le {X : Nat × (Nat → Int32)} {f g d w M pc : Nat} {L : ma_L} {st : List ma_V} {S : ma_S} {r : ma_R} (hfg : f ≤ g) (h : ma_run X f d w M pc L st S = some r) : ma_run X g d w M pc L st S = some r := by
  induction hfg with
  | refl => exact h
  | step _ ih => exact ma_run_up _ _ _ _ _ _ _ _ _ ih

/-! from 84.help -/
/-! small helps -/
theorem ma_thr_no {o : Nat} {cc : ByteArray} {pc : Nat} {x : Instr} {m : Nat} (hd : decode cc pc = .ok (x, m)) (hx : ∀ ik, x ≠ .new ik) : ma_thr o cc pc = none := by
  unfold ma_thr
  rw [hd]
  split
  · next ik ic h0 h3 h4 h7 => exact absurd (congrArg Prod.fst (Except.ok.inj h0)) (hx ik)
  · rfl
theorem ma_get_self (L : ma_L) (i : Nat) (v : ma_V) : ma_get (ma_st L i v) i = some v := by
  unfold ma_get ma_st
  rw [List.find?_cons_of_pos (by simp)]
  rfl
theorem ma_is30 {S : ma_S} {c : Nat} (h : c < 64) : ma_is S c = false := by
  unfold ma_is
  rw [decide_eq_false (by omega)]
  rfl

/-! from 88.wp -/
/-! WHAT A RUN COMES TO: from here on runs are reasoned of backwards, an instruction a lemma -/
def ma_oc (o : Option ma_V ⊕ (Nat × Nat)) : Option ma_V ⊕ Nat := match o with
  | .inl v => .inl v
  | .inr q => .inr q.1
/-- the run from here comes to an end, with an answer (or an exception) and a heap of which Q holds -/
def ma_wp (X : Nat × (Nat → Int32)) (d w M pc : Nat) (L : ma_L) (st : List ma_V) (S : ma_S) (Q : Option ma_V ⊕ Nat → ma_S → Prop) : Prop := ∃ f o S₉, ma_run X f d w M pc L st S = some (o, S₉) ∧ Q (ma_oc o) S₉
def zi (K : Int32 → ma_S → Prop) (E : Nat → ma_S → Prop) : Option ma_V ⊕ Nat → ma_S → Prop := fun o S => match o with
  | .inl (some (.inl v)) => K v S
  | .inr x => E x S
  | _ => False
def zo (K : Option Nat → ma_S → Prop) (E : Nat → ma_S → Prop) : Option ma_V ⊕ Nat → ma_S → Prop := fun o S => match o with
  | .inl (some (.inr (.inr v))) => K v S
  | .inr x => E x S
  | _ => False
def zv (K : ma_S → Prop) (E : Nat → ma_S → Prop) : Option ma_V ⊕ Nat → ma_S → Prop := fun o S => match o with
  | .inl none => K S
  | .inr x => E x S
  | _ => False
section ZW1
variable {X : Nat × (Nat → Int32)} {d w M pc : Nat} {L : ma_L} {st r : List ma_V} {S : ma_S} {o nL : Nat} {y : MethodName} {cc : ByteArray} {ret : Option FieldType} {i : Instr} {n : Nat} {Q Q₉ : Option ma_V ⊕ Nat → ma_S → Prop}
theorem zw_mono (h : ma_wp X d w M pc L st S Q) (k : ∀ o S₉, Q o S₉ → Q₉ o S₉) : ma_wp X d w M pc L st S Q₉ := by
  obtain ⟨f, o, S₉, h1, h2⟩ := h
  exact ⟨f, o, S₉, h1, k _ _ h2⟩
theorem zw_one (hm : ma_md M = some (o, y, cc, nL, ret)) (hd : decode cc pc = .ok (i, n)) {pc₉ : Nat} {L₉ : ma_L} {st₉ : List ma_V} {S₉ : ma_S} (h : ma_one X o (decide (y.name = "<init>")) nL d w i n pc L st S = some (pc₉, L₉, st₉, S₉)) (k : ma_wp X d w M pc₉ L₉ st₉ S₉ Q) : ma_wp X d w M pc L st S Q := by
  obtain ⟨f, o₉, S1, h1, h2⟩ := k
  refine ⟨f + 1, o₉, S1, ?_, h2⟩
  rw [ma_run_s]
  simp only [ma_body, hm, hd, h]
  exact h1
theorem zw_push (hm : ma_md M = some (o, y, cc, nL, ret)) (hd : decode cc pc = .ok (i, n)) {v : ma_V} (h : ma_push i n L = some v) (k : ma_wp X d w M (pc + n) L (v :: st) S Q) : ma_wp X d w M pc L st S Q :=
  zw_one hm hd (by unfold ma_one; rw [h]) k
theorem zw_stk (hm : ma_md M = some (o, y, cc, nL, ret)) (hd : decode cc pc = .ok (i, n)) {st₉ : List ma_V} (h0 : ma_push i n L = none) (h : ma_stk i n st = some st₉) (k : ma_wp X d w M (pc + n) L st₉ S Q) : ma_wp X d w M pc L st S Q :=
  zw_one hm hd (by unfold ma_one; rw [h0, h]) k
theorem zw_sto (hm : ma_md M = some (o, y, cc, nL, ret)) (hd : decode cc pc = .ok (i, n)) (L₉ : ma_L) {st₉ : List ma_V} (h0 : ma_push i n L = none) (h1 : ma_stk i n st = none) (h : ma_sto i n nL L st = some (L₉, st₉)) (k : ma_wp X d w M (pc + n) L₉ st₉ S Q) : ma_wp X d w M pc L st S Q :=
  zw_one hm hd (by unfold ma_one; rw [h0, h1]; simp only [h]) k
theorem zw_jmp (hm : ma_md M = some (o, y, cc, nL, ret)) (hd : decode cc pc = .ok (i, n)) {t : Nat} {st₉ : List ma_V} (h0 : ma_push i n L = none) (h1 : ma_stk i n st = none) (h2 : ma_sto i n nL L st = none) (h : ma_jmp i n pc st = some (t, st₉)) (k : ma_wp X d w M t L st₉ S Q) : ma_wp X d w M pc L st S Q :=
  zw_one hm hd (by unfold ma_one; rw [h0, h1]; simp only [h2, h]) k
theorem zw_goto (hm : ma_md M = some (o, y, cc, nL, ret)) {off : Int} (hd : decode cc pc = .ok (.goto off, 3)) {t : Nat} (ht : ma_to pc off = some t) (k : ma_wp X d w M t L st S Q) : ma_wp X d w M pc L st S Q :=
  zw_jmp hm hd rfl rfl rfl (by unfold ma_jmp; simp only [ht, Option.map_some]) k
theorem zw_if0 (hm : ma_md M = some (o, y, cc, nL, ret)) {c : ClassFile.Cond} {off : Int} (hd : decode cc pc = .ok (.ifCond c off, 3)) {t : Nat} (ht : ma_to pc off = some t) {x : Int32} {P : Prop} (hP : ma_c0 c x = true ↔ P) (k1 : P → ma_wp X d w M t L r S Q) (k2 : ¬ P → ma_wp X d w M (pc + 3) L r S Q) : ma_wp X d w M pc L (.inl x :: r) S Q := by
  refine zw_jmp (t := if ma_c0 c x = true then t else pc + 3) (st₉ := r) hm hd rfl rfl rfl (by unfold ma_jmp; simp only [ht, Option.map_some]) ?_
  by_cases h : ma_c0 c x = true
  · rw [if_pos h]; exact k1 (hP.mp h)
  · rw [if_neg h]; exact k2 (fun z => h (hP.mpr z))
theorem zw_if2 (hm : ma_md M = some (o, y, cc, nL, ret)) {c : ClassFile.Cond} {off : Int} (hd : decode cc pc = .ok (.if_icmp c off, 3)) {t : Nat} (ht : ma_to pc off = some t) {x z : Int32} {P : Prop} (hP : ma_c2 c x z = true ↔ P) (k1 : P → ma_wp X d w M t L r S Q) (k2 : ¬ P → ma_wp X d w M (pc + 3) L r S Q) : ma_wp X d w M pc L (.inl z :: .inl x :: r) S Q := by
  refine zw_jmp (t := if ma_c2 c x z = true then t else pc + 3) (st₉ := r) hm hd rfl rfl rfl (by unfold ma_jmp; simp only [ht, Option.map_some]) ?_
  by_cases h : ma_c2 c x z = true
  · rw [if_pos h]; exact k1 (hP.mp h)
  · rw [if_neg h]; exact k2 (fun z => h (hP.mpr z))
theorem zw_ifnull (hm : ma_md M = some (o, y, cc, nL, ret)) {off : Int} (hd : decode cc pc = .ok (.ifnull off, 3)) {t : Nat} (ht : ma_to pc off = some t) {q : Option Nat} (k1 : q = none → ma_wp X d w M t L r S Q) (k2 : ∀ c, q = some c → ma_wp X d w M (pc + 3) L r S Q) : ma_wp X d w M pc L (.inr (.inr q) :: r) S Q := by
  cases q with
  | none => exact zw_jmp hm hd rfl rfl rfl (by unfold ma_jmp; simp only [ht, Option.map_some]) (k1 rfl)
  | some c => exact zw_jmp hm hd rfl rfl rfl rfl (k2 c rfl)
theorem zw_ifnonnull (hm : ma_md M = some (o, y, cc, nL, ret)) {off : Int} (hd : decode cc pc = .ok (.ifnonnull off, 3)) {t : Nat} (ht : ma_to pc off = some t) {q : Option Nat} (k1 : q = none → ma_wp X d w M (pc + 3) L r S Q) (k2 : ∀ c, q = some c → ma_wp X d w M t L r S Q) : ma_wp X d w M pc L (.inr (.inr q) :: r) S Q := by
  cases q with
  | none => exact zw_jmp hm hd rfl rfl rfl rfl (k1 rfl)
  | some c => exact zw_jmp hm hd rfl rfl rfl (by unfold ma_jmp; simp only [ht, Option.map_some]) (k2 c rfl)
theorem zw_hp (hm : ma_md M = some (o, y, cc, nL, ret)) (hd : decode cc pc = .ok (i, n)) {st₉ : List ma_V} {S₉ : ma_S} (h0 : ma_push i n L = none) (h1 : ma_stk i n st = none) (h2 : ma_sto i n nL L st = none) (h3 : ma_jmp i n pc st = none) (h : ma_hp o (decide (y.name = "<init>")) i n st S = some (st₉, S₉)) (k : ma_wp X d w M (pc + n) L st₉ S₉ Q) : ma_wp X d w M pc L st S Q :=
  zw_one hm hd (by unfold ma_one; simp only [h0, h1, h2, h3, h]) k
/-- a field is read -/
theorem zw_gf (hm : ma_md M = some (o, y, cc, nL, ret)) {x : Nat} (hd : decode cc pc = .ok (.getfield x, 3)) {c t k : Nat} {v : ma_V} (hs : ma_is S c = true) (ht : (mH S c).1 = t) (h1 : (decide (1 ≤ t) && decide (t ≤ 12)) = true) (hf : ma_fld o x t = some k) (hv : ma_rd S c k (ma_ft t k) = v) (K : ma_wp X d w M (pc + 3) L (v :: r) S Q) : ma_wp X d w M pc L (.inr (.inr (some c)) :: r) S Q := by
  refine zw_hp hm hd rfl rfl rfl rfl ?_ K
  rw [Bool.and_eq_true] at h1
  unfold ma_hp
  simp only [hs, ht, h1.1, h1.2, Bool.and_self, if_true, hf, Option.map_some, hv]
/-- which fields a method that is no constructor may write -/
def ma_pk (o x t k : Nat) : Bool := match vwCl[t]? with
  | some (_, T, _) => decide (ma_fld o x t = some k) && !(T k).2.2.2 && decide (1 ≤ t) && decide (t ≤ 12)
  | none => false
theorem zw_pf (hm : ma_md M = some (o, y, cc, nL, ret)) {x : Nat} (hd : decode cc pc = .ok (.putfield x, 3)) {c t k : Nat} {v : ma_V} (hs : ma_is S c = true) (ht : (mH S c).1 = t) (hp : ma_pk o x t k = true) (hv : ma_ok (ma_ft t k) v = true) (K : ma_wp X d w M (pc + 3) L r (ma_put S c k v) Q) : ma_wp X d w M pc L (v :: .inr (.inr (some c)) :: r) S Q := by
  refine zw_hp hm hd rfl rfl rfl rfl ?_ K
  unfold ma_pk at hp
  split at hp
  · next C T N hc =>
    simp only [Bool.and_eq_true, decide_eq_true_eq, Bool.not_eq_true'] at hp
    unfold ma_hp
    simp only [hs, ht, hp.1.2, hp.2, decide_true, Bool.and_self, if_true, hp.1.1.1, hc, hp.1.1.2, hv, Bool.not_false, Bool.true_or]
  · cases hp
theorem zk_int {x : Int32} : ma_ok .int (.inl x) = true := by simp [ma_ok, narrow, fits]
theorem zk_bool {x : Int32} (h : x = 0 ∨ x = 1) : ma_ok .boolean (.inl x) = true := by
  rcases h with rfl | rfl <;> decide
/-- rows -/
theorem zw_ia (hm : ma_md M = some (o, y, cc, nL, ret)) (hd : decode cc pc = .ok (.iaload, 1)) {c N a : Nat} {j : Int32} (hs : ma_is S c = true) (ht : mH S c = (20, N)) (ha : j.toNatClampNeg = a) (hj : 0 ≤ j ∧ a < N) (K : ma_wp X d w M (pc + 1) L (.inl (mI S c a) :: r) S Q) : ma_wp X d w M pc L (.inl j :: .inr (.inr (some c)) :: r) S Q := by
  subst ha
  refine zw_hp hm hd rfl rfl rfl rfl ?_ K
  unfold ma_hp ma_ix
  simp only [hs, ht, hj.1, hj.2, decide_true, Bool.and_self, if_true]
theorem zw_ias (hm : ma_md M = some (o, y, cc, nL, ret)) (hd : decode cc pc = .ok (.iastore, 1)) {c N a : Nat} {j x : Int32} (hs : ma_is S c = true) (ht : mH S c = (20, N)) (ha : j.toNatClampNeg = a) (hj : 0 ≤ j ∧ a < N) (K : ma_wp X d w M (pc + 1) L r (ma_put S c a (.inl x)) Q) : ma_wp X d w M pc L (.inl x :: .inl j :: .inr (.inr (some c)) :: r) S Q := by
  subst ha
  refine zw_hp hm hd rfl rfl rfl rfl ?_ K
  unfold ma_hp ma_ix
  simp only [hs, ht, hj.1, hj.2, decide_true, Bool.and_self, if_true]
theorem zw_ba (hm : ma_md M = some (o, y, cc, nL, ret)) (hd : decode cc pc = .ok (.baload, 1)) {c N a t : Nat} {j : Int32} (hs : ma_is S c = true) (ht : mH S c = (t, N)) (h2 : (decide (t = 21) || decide (t = 22)) = true) (ha : j.toNatClampNeg = a) (hj : 0 ≤ j ∧ a < N) (K : ma_wp X d w M (pc + 1) L (.inl (mI S c a) :: r) S Q) : ma_wp X d w M pc L (.inl j :: .inr (.inr (some c)) :: r) S Q := by
  subst ha
  refine zw_hp hm hd rfl rfl rfl rfl ?_ K
  unfold ma_hp ma_ix
  simp only [hs, ht, h2, hj.1, hj.2, decide_true, Bool.and_self, if_true]
theorem zw_bas21 (hm : ma_md M = some (o, y, cc, nL, ret)) (hd : decode cc pc = .ok (.bastore, 1)) {c N a : Nat} {j x : Int32} (hs : ma_is S c = true) (ht : mH S c = (21, N)) (ha : j.toNatClampNeg = a) (hj : 0 ≤ j ∧ a < N) (K : ma_wp X d w M (pc + 1) L r (ma_put S c a (.inl (vp_nar .byte x))) Q) : ma_wp X d w M pc L (.inl x :: .inl j :: .inr (.inr (some c)) :: r) S Q := by
  subst ha
  refine zw_hp hm hd rfl rfl rfl rfl ?_ K
  unfold ma_hp ma_ix
  simp only [hs, ht, hj.1, hj.2, decide_true, Bool.and_self, if_true]
theorem zw_bas22 (hm : ma_md M = some (o, y, cc, nL, ret)) (hd : decode cc pc = .ok (.bastore, 1)) {c N a : Nat} {j x : Int32} (hs : ma_is S c = true) (ht : mH S c = (22, N)) (ha : j.toNatClampNeg = a) (hj : 0 ≤ j ∧ a < N) (K : ma_wp X d w M (pc + 1) L r (ma_put S c a (.inl (vp_nar .boolean x))) Q) : ma_wp X d w M pc L (.inl x :: .inl j :: .inr (.inr (some c)) :: r) S Q := by
  subst ha
  refine zw_hp hm hd rfl rfl rfl rfl ?_ K
  unfold ma_hp ma_ix
  simp only [hs, ht, hj.1, hj.2, decide_true, Bool.and_self, if_true, Nat.reduceEqDiff, if_false]
theorem zw_aa (hm : ma_md M = some (o, y, cc, nL, ret)) (hd : decode cc pc = .ok (.aaload, 1)) {c N a t : Nat} {j : Int32} {v : Option Nat} (hs : ma_is S c = true) (ht : mH S c = (t, N)) (h2 : (decide (t = 24) || decide (t = 25)) = true) (ha : j.toNatClampNeg = a) (hj : 0 ≤ j ∧ a < N) (hv : mR S c a = v) (K : ma_wp X d w M (pc + 1) L (.inr (.inr v) :: r) S Q) : ma_wp X d w M pc L (.inl j :: .inr (.inr (some c)) :: r) S Q := by
  subst ha
  subst hv
  refine zw_hp hm hd rfl rfl rfl rfl ?_ K
  unfold ma_hp ma_ix
  simp only [hs, ht, h2, hj.1, hj.2, decide_true, Bool.and_self, if_true]
theorem zw_len (hm : ma_md M = some (o, y, cc, nL, ret)) (hd : decode cc pc = .ok (.arraylength, 1)) {c N t : Nat} {v : Int32} (hs : ma_is S c = true) (ht : mH S c = (t, N)) (h2 : (decide (20 ≤ t) && decide (t ≤ 25)) = true) (hv : Int32.ofNat N = v) (K : ma_wp X d w M (pc + 1) L (.inl v :: r) S Q) : ma_wp X d w M pc L (.inr (.inr (some c)) :: r) S Q := by
  subst hv
  refine zw_hp hm hd rfl rfl rfl rfl ?_ K
  rw [Bool.and_eq_true] at h2
  unfold ma_hp
  simp only [hs, ht, h2.1, h2.2, Bool.and_self, if_true]
/-- answers -/
theorem zw_ret (hm : ma_md M = some (o, y, cc, nL, ret)) (hd : decode cc pc = .ok (i, n)) (h1 : ma_one X o (decide (y.name = "<init>")) nL d w i n pc L st S = none) {v : Option ma_V} (h : ma_ret ret i n st = some v) (k : Q (.inl v) S) : ma_wp X d w M pc L st S Q := by
  refine ⟨1, .inl v, S, ?_, k⟩
  rw [ma_run_s]
  simp only [ma_body, hm, hd, h1, h]
theorem zw_iret (hm : ma_md M = some (o, y, cc, nL, some .int)) (hd : decode cc pc = .ok (.ireturn, 1)) {x : Int32} (k : Q (.inl (some (.inl x))) S) : ma_wp X d w M pc L [.inl x] S Q := by
  refine zw_ret (v := some (.inl x)) hm hd ?_ (by unfold ma_ret; simp [narrow]) k
  unfold ma_one
  rfl
theorem zw_bret (hm : ma_md M = some (o, y, cc, nL, some .boolean)) (hd : decode cc pc = .ok (.ireturn, 1)) {x : Int32} (hx : x = 0 ∨ x = 1) (k : Q (.inl (some (.inl x))) S) : ma_wp X d w M pc L [.inl x] S Q := by
  refine zw_ret (v := some (.inl x)) hm hd ?_ (by unfold ma_ret; rcases hx with rfl | rfl <;> simp [narrow]) k
  unfold ma_one
  rfl
theorem zw_aret {C : String} (hm : ma_md M = some (o, y, cc, nL, some (.object C))) (hd : decode cc pc = .ok (.areturn, 1)) {x : Option Nat} (k : Q (.inl (some (.inr (.inr x)))) S) : ma_wp X d w M pc L [.inr (.inr x)] S Q := by
  refine zw_ret hm hd ?_ rfl k
  unfold ma_one
  rfl
theorem zw_vret (hm : ma_md M = some (o, y, cc, nL, none)) (hd : decode cc pc = .ok (.return_, 1)) (k : Q (.inl none) S) : ma_wp X d w M pc L [] S Q := by
  refine zw_ret hm hd ?_ rfl k
  unfold ma_one
  rfl
/-- new E; dup; its constructor; athrow -/
theorem zw_thr (hm : ma_md M = some (o, y, cc, nL, ret)) {ik ic x : Nat} (d0 : decode cc pc = .ok (.new ik, 3)) (d3 : decode cc (pc + 3) = .ok (.dup, 1)) (d4 : decode cc (pc + 4) = .ok (.invokespecial ic, 3)) (d7 : decode cc (pc + 7) = .ok (.athrow, 1)) (hx : ma_xt o ik ic = some x) (hn : ma_nwt o ik = none) (h6 : 6 ≤ d) (hw : ma_sz st + 81 ≤ w) (k : Q (.inr x) (ma_bump S)) : ma_wp X d w M pc L st S Q := by
  have h1 : ma_one X o (decide (y.name = "<init>")) nL d w (.new ik) 3 pc L st S = none := by
    unfold ma_one
    simp only [ma_push, ma_stk, ma_sto, ma_jmp, ma_hp, ma_sc, ma_ex, ma_al, hn, Option.map_none, ma_pr, ma_tx, ma_ac]
  have h2 : ma_thr o cc pc = some x := by
    unfold ma_thr
    rw [d0, d3, d4, d7]
    exact hx
  refine ⟨1, .inr (x, pc), ma_bump S, ?_, k⟩
  rw [ma_run_s]
  have h3 : ma_ret ret (.new ik) 3 st = none := rfl
  simp only [ma_body, hm, d0, h1, h2, h3]
  rw [if_pos ⟨h6, hw⟩]
/-- a call -/
theorem zw_call (hm : ma_md M = some (o, y, cc, nL, ret)) (hd : decode cc pc = .ok (i, n)) (h1 : ma_one X o (decide (y.name = "<init>")) nL d w i n pc L st S = none) (h2 : ma_ret ret i n st = none) (h3 : ma_thr o cc pc = none) {k M₉ : Nat} {as rest : List ma_V} (h4 : ma_cl o i n st S = some ((k, M₉), as, rest)) {o₉ nL₉ : Nat} {y₉ : MethodName} {cc₉ : ByteArray} {ret₉ : Option FieldType} (hm₉ : ma_md M₉ = some (o₉, y₉, cc₉, nL₉, ret₉)) (hr : 1 ≤ d ∧ 19 + nL₉ ≤ w ∧ ma_sz as ≤ nL₉ ∧ ma_sz rest ≤ 8)
    (hk : ma_wp X (d - 1) (w - (19 + nL₉)) M₉ 0 (ma_args 0 as) [] S (fun z S₉ => match z with
      | .inl v => ma_wp X d w M (pc + 3) L (v.toList ++ rest) S₉ Q
      | .inr x => k ≤ 1 ∧ Q (.inr x) S₉)) : ma_wp X d w M pc L st S Q := by
  obtain ⟨f, z, S1, e1, e2⟩ := hk
  rcases z with v | ⟨x, px⟩
  · obtain ⟨g, z2, S2, e3, e4⟩ := (e2 : ma_wp X d w M (pc + 3) L (v.toList ++ rest) S1 Q)
    refine ⟨max f g + 1, z2, S2, ?_, e4⟩
    rw [ma_run_s]
    simp only [ma_body, hm, hd, h1, h2, h3, h4, hm₉]
    rw [if_pos hr, ma_run_le (Nat.le_max_left f g) e1]
    exact ma_run_le (Nat.le_max_right f g) e3
  · obtain ⟨e5, e6⟩ := (e2 : k ≤ 1 ∧ Q (.inr x) S1)
    refine ⟨f + 1, .inr (x, pc), S1, ?_, e6⟩
    rw [ma_run_s]
    simp only [ma_body, hm, hd, h1, h2, h3, h4, hm₉]
    rw [if_pos hr, e1]
    simp only [if_pos e5]
/-- what a call of that pool entry on an object of that kind is: kind of call, method, number of arguments -/
def ma_vl (o x t : Nat) : Option (Nat × Nat × Nat) := match ma_fd o x 0 true 0 4, ma_fd o x t false 0 4 with
  | some q0, some q => if q.2.1.2.2 = q0.2.1.2.2 then some q.2.1 else none
  | _, _ => none
theorem ma_vl_cl {x t k M₉ m b : Nat} {asr rest : List ma_V} (hv : ma_vl o x t = some (k, M₉, m)) (hl : asr.length = m) (hrt : ma_rt S b = some t) : ma_cl o (.invokevirtual x) 3 (asr ++ .inr (.inr (some b)) :: rest) S = some ((k, M₉), .inr (.inr (some b)) :: asr.reverse, rest) := by
  unfold ma_vl at hv
  split at hv
  · next q0 q h0 hq =>
    split at hv
    · next he =>
      have hq2 : q.2.1 = (k, M₉, m) := Option.some.inj hv
      have e1 : q.2.1.2.2 = m := by rw [hq2]
      have e0 : q0.2.1.2.2 = asr.length := by rw [hl, ← e1, he]
      unfold ma_cl
      simp only [h0, e0, List.drop_left, hrt, hq, List.take_left]
      rw [if_pos (by rw [e1, hl]), hq2]
    · cases hv
  · cases hv
theorem zw_cv (hm : ma_md M = some (o, y, cc, nL, ret)) {x t k M₉ m b nL₉ o₉ : Nat} {y₉ : MethodName} {cc₉ : ByteArray} {ret₉ : Option FieldType} (hd : decode cc pc = .ok (.invokevirtual x, 3)) (hv : ma_vl o x t = some (k, M₉, m)) (hm₉ : ma_md M₉ = some (o₉, y₉, cc₉, nL₉, ret₉)) (asr rest : List ma_V) (hl : asr.length = m) (hrt : ma_rt S b = some t) (hr : 1 ≤ d ∧ 19 + nL₉ ≤ w) (hz : (decide (ma_sz (.inr (.inr (some b)) :: asr.reverse) ≤ nL₉) && decide (ma_sz rest ≤ 8)) = true)
    (hk : ma_wp X (d - 1) (w - (19 + nL₉)) M₉ 0 (ma_args 0 (.inr (.inr (some b)) :: asr.reverse)) [] S (fun z S₉ => match z with
      | .inl v => ma_wp X d w M (pc + 3) L (v.toList ++ rest) S₉ Q
      | .inr x => k ≤ 1 ∧ Q (.inr x) S₉)) : ma_wp X d w M pc L (asr ++ .inr (.inr (some b)) :: rest) S Q := by
  rw [Bool.and_eq_true, decide_eq_true_eq, decide_eq_true_eq] at hz
  refine zw_call hm hd ?_ ?_ (ma_thr_no hd (fun _ h => by cases h)) (ma_vl_cl hv hl hrt) hm₉ ⟨hr.1, hr.2, hz.1, hz.2⟩ hk
  · unfold ma_one
    rfl
  · rfl
/-- static calls -/
def ma_sl (o x : Nat) : Option (Nat × Nat × Nat) := match ma_fd o x 0 true 5 8 with
  | some q => if q.2.1.1 ≠ 6 ∧ q.2.1.1 ≠ 7 then some q.2.1 else none
  | none => none
theorem ma_sl_cl {x k M₉ m : Nat} {asr rest : List ma_V} (hv : ma_sl o x = some (k, M₉, m)) (hl : asr.length = m) : ma_cl o (.invokestatic x) 3 (asr ++ rest) S = some ((k, M₉), asr.reverse, rest) := by
  unfold ma_sl at hv
  split at hv
  · next q hq =>
    split at hv
    · next he =>
      have hq2 : q.2.1 = (k, M₉, m) := Option.some.inj hv
      have e1 : q.2.1.2.2 = asr.length := by rw [hq2, hl]
      unfold ma_cl
      simp only [hq, e1, List.drop_left, List.take_left]
      rw [if_pos ⟨he.1, he.2, by rw [List.length_append]; omega⟩, hq2]
    · cases hv
  · cases hv
theorem ma_pr_st {x : Nat} (h : ma_prt o x = none) : ma_pr o d w (.invokestatic x) 3 st S = none := by
  unfold ma_pr
  split
  · next h0 _ => cases h0
  · next e _ => cases e; simp [h]
  · next e _ => cases e; simp [h]
  · rfl
theorem zw_cs (hm : ma_md M = some (o, y, cc, nL, ret)) {x k M₉ m nL₉ o₉ : Nat} {y₉ : MethodName} {cc₉ : ByteArray} {ret₉ : Option FieldType} (hd : decode cc pc = .ok (.invokestatic x, 3)) (hpr : ma_prt o x = none) (hv : ma_sl o x = some (k, M₉, m)) (hm₉ : ma_md M₉ = some (o₉, y₉, cc₉, nL₉, ret₉)) (asr rest : List ma_V) (hl : asr.length = m) (hr : 1 ≤ d ∧ 19 + nL₉ ≤ w) (hz : (decide (ma_sz asr.reverse ≤ nL₉) && decide (ma_sz rest ≤ 8)) = true)
    (hk : ma_wp X (d - 1) (w - (19 + nL₉)) M₉ 0 (ma_args 0 asr.reverse) [] S (fun z S₉ => match z with
      | .inl v => ma_wp X d w M (pc + 3) L (v.toList ++ rest) S₉ Q
      | .inr x => k ≤ 1 ∧ Q (.inr x) S₉)) : ma_wp X d w M pc L (asr ++ rest) S Q := by
  rw [Bool.and_eq_true, decide_eq_true_eq, decide_eq_true_eq] at hz
  refine zw_call hm hd ?_ ?_ (ma_thr_no hd (fun _ h => by cases h)) (ma_sl_cl hv hl) hm₉ ⟨hr.1, hr.2, hz.1, hz.2⟩ hk
  · unfold ma_one
    rw [ma_pr_st hpr]
    rfl
  · rfl
end ZW1

/-! from 89.places -/
/-! Runs know of the locals only what they read: more locals do no harm -/
def ma_nd (L : ma_L) : Prop := (L.map (·.1)).Nodup
def ma_le (L L₉ : ma_L) : Prop := ∀ k v, ma_get L k = some v → ma_get L₉ k = some v
theorem ma_le_nil (L : ma_L) : ma_le [] L := fun k v h => by cases h
theorem ma_le_cons {L T : ma_L} {k : Nat} {v : ma_V} (h : ma_get L k = some v) (t : ma_le T L) : ma_le ((k, v) :: T) L := by
  intro j u hj
  unfold ma_get at hj
  by_cases e : k = j
  · rw [List.find?_cons_of_pos (by simpa using e)] at hj
    rw [← Option.some.inj hj, ← e]
    exact h
  · rw [List.find?_cons_of_neg (by simpa using e)] at hj
    exact t j u hj
theorem ma_find_filter (p : Nat × ma_V → Bool) (k : Nat) : ∀ L : ma_L, ma_nd L → (L.filter p).find? (fun q => q.1 == k) = (L.find? (fun q => q.1 == k)).filter p := by
  intro L
  induction L with
  | nil => intro _; rfl
  | cons q T ih =>
    intro hn
    have hn₉ : q.1 ∉ T.map (·.1) ∧ (T.map (·.1)).Nodup := List.nodup_cons.mp hn
    by_cases hq : q.1 = k
    · have hq₉ : (q.1 == k) = true := by simpa using hq
      rw [List.find?_cons_of_pos (p := fun q : Nat × ma_V => q.1 == k) hq₉]
      cases hp : p q with
      | true =>
        rw [List.filter_cons_of_pos hp, List.find?_cons_of_pos (p := fun q : Nat × ma_V => q.1 == k) hq₉]
        simp [Option.filter, hp]
      | false =>
        rw [List.filter_cons_of_neg (by simp [hp])]
        simp only [Option.filter, hp]
        refine List.find?_eq_none.mpr ?_
        intro z hz hk
        have hz1 : z ∈ T := (List.mem_filter.mp hz).1
        have hk1 : z.1 = k := by simpa using hk
        exact hn₉.1 (by rw [hq, ← hk1]; exact List.mem_map.mpr ⟨z, hz1, rfl⟩)
    · have hq₉ : ¬ (q.1 == k) = true := by simpa using hq
      rw [List.find?_cons_of_neg (p := fun q : Nat × ma_V => q.1 == k) hq₉]
      cases hp : p q with
      | true => rw [List.filter_cons_of_pos hp, List.find?_cons_of_neg (p := fun q : Nat × ma_V => q.1 == k) hq₉]; exact ih hn₉.2
      | false => rw [List.filter_cons_of_neg (by simp [hp])]; exact ih hn₉.2
theorem ma_find_key {L : ma_L} {k : Nat} {q : Nat × ma_V} (h : L.find? (fun q => q.1 == k) = some q) : q.1 = k := by
  have := List.find?_some h
  simpa using this
theorem ma_get_st {L : ma_L} (hn : ma_nd L) {i k : Nat} {u v : ma_V} (hk : k ≠ i) : ma_get (ma_st L i v) k = some u ↔ (ma_get L k = some u ∧ ¬ (k + 1 = i ∧ ma_2 u = true)) := by
  unfold ma_st
  unfold ma_get
  rw [List.find?_cons_of_neg (by simp; exact fun z => hk z.symm), ma_find_filter _ _ _ hn]
  cases hf : L.find? (fun q => q.1 == k) with
  | none => simp [Option.filter]
  | some q =>
    have e := ma_find_key hf
    simp only [Option.filter, Option.map_some, Option.some.injEq]
    by_cases hp : (!(q.1 == i) && !(q.1 + 1 == i && ma_2 q.2)) = true
    · rw [if_pos hp]
      simp only [Option.map_some, Option.some.injEq]
      constructor
      · intro h
        refine ⟨h, fun z => ?_⟩
        rw [e, h] at hp
        simp [z.1, z.2] at hp
      · intro h; exact h.1
    · rw [if_neg hp]
      constructor
      · intro h; cases h
      · intro h
        refine absurd ?_ hp
        rw [e, h.1]
        have h1 : (k == i) = false := by simpa using hk
        rw [h1]
        cases hm : ma_2 u with
        | false => simp
        | true =>
          have : (k + 1 == i) = false := by
            simp only [beq_eq_false_iff_ne]
            exact fun z => h.2 ⟨z, hm⟩
          simp [this]
theorem ma_nd_st {L : ma_L} (hn : ma_nd L) (i : Nat) (v : ma_V) : ma_nd (ma_st L i v) := by
  unfold ma_nd ma_st
  rw [List.map_cons, List.nodup_cons]
  refine ⟨?_, ?_⟩
  · intro h
    obtain ⟨q, h1, h2⟩ := List.mem_map.mp h
    have h3 := (List.mem_filter.mp h1).2
    have h4 : q.1 = i := h2
    simp [h4] at h3
  · exact List.Nodup.sublist (List.Sublist.map _ List.filter_sublist) hn
theorem ma_le_st {L L₉ : ma_L} (hn : ma_nd L) (hn₉ : ma_nd L₉) (h : ma_le L L₉) (i : Nat) (v : ma_V) : ma_le (ma_st L i v) (ma_st L₉ i v) := by
  intro k u hk
  by_cases e : k = i
  · subst e
    rw [ma_get_self] at hk ⊢
    exact hk
  · rw [ma_get_st hn e] at hk
    rw [ma_get_st hn₉ e]
    exact ⟨h k u hk.1, hk.2⟩
section ZL1
variable {X : Nat × (Nat → Int32)} {d w M pc : Nat} {L L₉ L1 : ma_L} {st st1 : List ma_V} {S S1 : ma_S} {o nL : Nat} {ini : Bool} {i : Instr} {n : Nat}
theorem ma_push_le (hle : ma_le L L₉) {v : ma_V} (h : ma_push i n L = some v) : ma_push i n L₉ = some v := by
  unfold ma_push at h ⊢
  split at h
  · exact h
  · exact h
  · exact h
  · exact h
  · exact h
  · split at h
    · next hg => simp only [hle _ _ hg]; exact h
    · cases h
  · split at h
    · next hg => simp only [hle _ _ hg]; exact h
    · cases h
  · split at h
    · next hg => simp only [hle _ _ hg]; exact h
    · cases h
  · split at h
    · next hg => simp only [hle _ _ hg]; exact h
    · cases h
  · split at h
    · next hg => simp only [hle _ _ hg]; exact h
    · cases h
  · split at h
    · next hg => simp only [hle _ _ hg]; exact h
    · cases h
  · cases h
theorem ma_sto_le (hn : ma_nd L) (hn₉ : ma_nd L₉) (hle : ma_le L L₉) (h : ma_sto i n nL L st = some (L1, st1)) : ∃ L2, ma_sto i n nL L₉ st = some (L2, st1) ∧ ma_le L1 L2 ∧ ma_nd L1 ∧ ma_nd L2 := by
  unfold ma_sto at h ⊢
  split at h
  · split at h
    · next hk => cases h; exact ⟨_, if_pos hk, ma_le_st hn hn₉ hle _ _, ma_nd_st hn _ _, ma_nd_st hn₉ _ _⟩
    · cases h
  · split at h
    · next hk => cases h; exact ⟨_, if_pos hk, ma_le_st hn hn₉ hle _ _, ma_nd_st hn _ _, ma_nd_st hn₉ _ _⟩
    · cases h
  · split at h
    · next hk => cases h; exact ⟨_, if_pos hk, ma_le_st hn hn₉ hle _ _, ma_nd_st hn _ _, ma_nd_st hn₉ _ _⟩
    · cases h
  · split at h
    · next hk => cases h; exact ⟨_, if_pos hk, ma_le_st hn hn₉ hle _ _, ma_nd_st hn _ _, ma_nd_st hn₉ _ _⟩
    · cases h
  · split at h
    · next hg =>
      split at h
      · next hk => cases h; exact ⟨_, by simp only [hle _ _ hg, if_pos hk], ma_le_st hn hn₉ hle _ _, ma_nd_st hn _ _, ma_nd_st hn₉ _ _⟩
      · cases h
    · cases h
  · cases h
/-- the families that know nothing of the locals -/
def ma_rest (X : Nat × (Nat → Int32)) (o : Nat) (ini : Bool) (d w : Nat) (i : Instr) (n pc : Nat) (st : List ma_V) (S : ma_S) : Option (Nat × List ma_V × ma_S) :=
  match ma_jmp i n pc st with
  | some (t, st₉) => some (t, st₉, S)
  | none => match ma_hp o ini i n st S with
    | some (st₉, S₉) => some (pc + n, st₉, S₉)
    | none => match ma_sc X i n st with
      | some st₉ => some (pc + n, st₉, S)
      | none => match ma_ex o i n st S with
        | some (st₉, S₉) => some (pc + n, st₉, S₉)
        | none => match ma_al o i n st S with
          | some (st₉, S₉) => some (pc + n, st₉, S₉)
          | none => match ma_pr o d w i n st S with
            | some (st₉, S₉) => some (pc + n, st₉, S₉)
            | none => match ma_tx X o i n st with
              | some st₉ => some (pc + n, st₉, S)
              | none => match ma_ac i n pc st with
                | some (t, st₉) => some (t, st₉, S)
                | none => none
theorem ma_one_eq : ma_one X o ini nL d w i n pc L st S = (match ma_push i n L with
    | some v => some (pc + n, L, v :: st, S)
    | none => match ma_stk i n st with
      | some st₉ => some (pc + n, L, st₉, S)
      | none => match ma_sto i n nL L st with
        | some (L₉, st₉) => some (pc + n, L₉, st₉, S)
        | none => (ma_rest X o ini d w i n pc st S).map (fun z => (z.1, L, z.2.1, z.2.2))) := by
  unfold ma_one ma_rest
  cases ma_push i n L with
  | some z => rfl
  | none =>
    cases ma_stk i n st with
    | some z => rfl
    | none =>
      cases ma_sto i n nL L st with
      | some z => rfl
      | none =>
        cases ma_jmp i n pc st with
        | some z => rfl
        | none =>
          cases ma_hp o ini i n st S with
          | some z => rfl
          | none =>
            cases ma_sc X i n st with
            | some z => rfl
            | none =>
              cases ma_ex o i n st S with
              | some z => rfl
              | none =>
                cases ma_al o i n st S with
                | some z => rfl
                | none =>
                  cases ma_pr o d w i n st S with
                  | some z => rfl
                  | none =>
                    cases ma_tx X o i n st with
                    | some z => rfl
                    | none =>
                      cases ma_ac i n pc st with
                      | some z => rfl
                      | none =>
                        rfl
/-- what reads a local does nothing else -/
theorem ma_load_only {v : ma_V} (h : ma_push i n L = none) (h₉ : ma_push i n L₉ = some v) (ret : Option FieldType) : ma_stk i n st = none ∧ ma_sto i n nL L st = none ∧ ma_rest X o ini d w i n pc st S = none ∧ ma_ret ret i n st = none ∧ ma_cl o i n st S = none ∧ ∀ ik, i ≠ .new ik ∧ i ≠ .invokestatic ik := by
  unfold ma_push at h₉
  split at h₉
  · cases h
  · cases h
  · cases h
  · cases h
  · cases h
  all_goals first | (cases h₉; done) | exact ⟨rfl, rfl, rfl, rfl, rfl, fun ik => ⟨fun h => (by cases h), fun h => (by cases h)⟩⟩
theorem ma_inc_only {z : ma_L × List ma_V} (h : ma_sto i n nL L st = none) (h₉ : ma_sto i n nL L₉ st = some z) (ret : Option FieldType) : ma_rest X o ini d w i n pc st S = none ∧ ma_ret ret i n st = none ∧ ma_cl o i n st S = none ∧ ∀ ik, i ≠ .new ik ∧ i ≠ .invokestatic ik := by
  unfold ma_sto at h₉
  split at h₉
  all_goals first | (cases h₉; done) | exact ⟨rfl, rfl, rfl, fun ik => ⟨fun h => (by cases h), fun h => (by cases h)⟩⟩
theorem ma_one_le (hn : ma_nd L) (hn₉ : ma_nd L₉) (hle : ma_le L L₉) {pc1 : Nat} (h : ma_one X o ini nL d w i n pc L st S = some (pc1, L1, st1, S1)) : ∃ L2, ma_one X o ini nL d w i n pc L₉ st S = some (pc1, L2, st1, S1) ∧ ma_le L1 L2 ∧ ma_nd L1 ∧ ma_nd L2 := by
  rw [ma_one_eq] at h ⊢
  split at h
  · next v hv =>
    cases h
    rw [ma_push_le hle hv]
    exact ⟨L₉, rfl, hle, hn, hn₉⟩
  · next hp =>
    cases hp₉ : ma_push i n L₉ with
    | some v₉ =>
      obtain ⟨a1, a2, a3, -⟩ := ma_load_only (X := X) (d := d) (w := w) (pc := pc) (st := st) (S := S) (o := o) (nL := nL) (ini := ini) hp hp₉ none
      rw [a1, a2, a3] at h
      cases h
    | none =>
      simp only
      split at h
      · next hs => cases h; exact ⟨L₉, rfl, hle, hn, hn₉⟩
      · split at h
        · next hs =>
          cases h
          obtain ⟨L2, b1, b2, b3, b4⟩ := ma_sto_le hn hn₉ hle hs
          rw [b1]
          exact ⟨L2, rfl, b2, b3, b4⟩
        · next hs =>
          cases hs₉ : ma_sto i n nL L₉ st with
          | some z =>
            obtain ⟨a1, -⟩ := ma_inc_only (X := X) (d := d) (w := w) (pc := pc) (S := S) (o := o) (ini := ini) hs hs₉ none
            rw [a1] at h
            cases h
          | none =>
            cases hr : ma_rest X o ini d w i n pc st S with
            | none => rw [hr] at h; cases h
            | some z => rw [hr] at h; cases h; exact ⟨L₉, rfl, hle, hn, hn₉⟩
theorem ma_one_no (hle : ma_le L L₉) (h : ma_one X o ini nL d w i n pc L st S = none) (ret : Option FieldType) : ma_one X o ini nL d w i n pc L₉ st S = none ∨ (ma_ret ret i n st = none ∧ ma_cl o i n st S = none ∧ ∀ ik, i ≠ .new ik ∧ i ≠ .invokestatic ik) := by
  rw [ma_one_eq] at h ⊢
  split at h
  · cases h
  · next hp =>
    cases hp₉ : ma_push i n L₉ with
    | some v₉ =>
      obtain ⟨-, -, -, a4, a5, a6⟩ := ma_load_only (X := X) (d := d) (w := w) (pc := pc) (st := st) (S := S) (o := o) (nL := nL) (ini := ini) hp hp₉ ret
      exact Or.inr ⟨a4, a5, a6⟩
    | none =>
      simp only
      split at h
      · cases h
      · split at h
        · cases h
        · next hs =>
          cases hs₉ : ma_sto i n nL L₉ st with
          | some z =>
            obtain ⟨-, a4, a5, a6⟩ := ma_inc_only (X := X) (d := d) (w := w) (pc := pc) (S := S) (o := o) (ini := ini) hs hs₉ ret
            exact Or.inr ⟨a4, a5, a6⟩
          | none =>
            cases hr : ma_rest X o ini d w i n pc st S with
            | none => exact Or.inl rfl
            | some z => rw [hr] at h; cases h
end ZL1
theorem ma_run_sub {X : Nat × (Nat → Int32)} : ∀ (f d w M pc : Nat) (L L₉ : ma_L) (st : List ma_V) (S : ma_S) (r : ma_R), ma_nd L → ma_nd L₉ → ma_le L L₉ → ma_run X f d w M pc L st S = some r → ma_run X f d w M pc L₉ st S = some r := by
  intro f
  induction f with
  | zero => intro d w M pc L L₉ st S r _ _ _ h; cases h
  | succ f ih =>
    intro d w M pc L L₉ st S r hn hn₉ hle h
    rw [ma_run_s] at h ⊢
    unfold ma_body at h ⊢
    split at h
    · cases h
    · next o y cc nL ret hmd =>
      split at h
      · cases h
      · next i n hd =>
        split at h
        · next pc1 L1 st1 S1 h1 =>
          obtain ⟨L2, b1, b2, b3, b4⟩ := ma_one_le hn hn₉ hle h1
          simp only [b1]
          exact ih _ _ _ _ _ _ _ _ _ b3 b4 b2 h
        · next h1 =>
          rcases ma_one_no hle h1 ret with b1 | ⟨a4, a5, a6⟩
          · simp only [b1]
            split at h
            · exact h
            · split at h
              · exact h
              · split at h
                · cases h
                · split at h
                  · cases h
                  · split at h
                    · next hroom =>
                      rw [if_pos hroom]
                      split at h
                      · next v2 S2 hr =>
                        skip
                        exact ih _ _ _ _ _ _ _ _ _ hn hn₉ hle h
                      · next x2 px S2 hr =>
                        skip
                        exact h
                      · cases h
                    · cases h
          · rw [a4, ma_thr_no hd (fun ik => (a6 ik).1), a5] at h
            cases h
theorem zw_sub {X : Nat × (Nat → Int32)} {d w M pc : Nat} {L L₉ : ma_L} {st : List ma_V} {S : ma_S} {Q : Option ma_V ⊕ Nat → ma_S → Prop} (hn : ma_nd L) (hn₉ : ma_nd L₉) (hle : ma_le L L₉) (h : ma_wp X d w M pc L st S Q) : ma_wp X d w M pc L₉ st S Q := by
  obtain ⟨f, z, S₉, h1, h2⟩ := h
  exact ⟨f, z, S₉, ma_run_sub _ _ _ _ _ _ _ _ _ _ hn hn₉ hle h1, h2⟩

