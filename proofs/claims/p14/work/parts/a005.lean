/-! from 44.methods -/
/-! methods by numbers: own class, name, code, locals, answer; calls by numbers -/
theorem ma_T1 {w : Cond} {i : Nat} (hi : tables_1_1[i]? = some w) (hg : goodWord w = true) : w ∈ ma_TB := by
  have h := List.mem_of_getElem? hi
  exact List.mem_filter.mpr ⟨List.mem_append_right _ (List.mem_append_right _ (List.mem_append_left _ h)), hg⟩
theorem ma_T2 {w : Cond} {i : Nat} (hi : tables_1_2[i]? = some w) (hg : goodWord w = true) : w ∈ ma_TB := by
  have h := List.mem_of_getElem? hi
  exact List.mem_filter.mpr ⟨List.mem_append_right _ (List.mem_append_right _ (List.mem_append_right _ (List.mem_append_left _ h))), hg⟩
theorem ma_T3 {w : Cond} {i : Nat} (hi : tables_1_3[i]? = some w) (hg : goodWord w = true) : w ∈ ma_TB := by
  have h := List.mem_of_getElem? hi
  exact List.mem_filter.mpr ⟨List.mem_append_right _ (List.mem_append_right _ (List.mem_append_right _ (List.mem_append_right _ (List.mem_append_left _ h)))), hg⟩
theorem ma_T4 {w : Cond} {i : Nat} (hi : tables_1_4[i]? = some w) (hg : goodWord w = true) : w ∈ ma_TB := by
  have h := List.mem_of_getElem? hi
  exact List.mem_filter.mpr ⟨List.mem_append_right _ (List.mem_append_right _ (List.mem_append_right _ (List.mem_append_right _ (List.mem_append_right _ (List.mem_append_left _ h))))), hg⟩
theorem ma_T5 {w : Cond} {i : Nat} (hi : tables_1_5[i]? = some w) (hg : goodWord w = true) : w ∈ ma_TB := by
  have h := List.mem_of_getElem? hi
  exact List.mem_filter.mpr ⟨List.mem_append_right _ (List.mem_append_right _ (List.mem_append_right _ (List.mem_append_right _ (List.mem_append_right _ (List.mem_append_right _ (List.mem_append_left _ h)))))), hg⟩
theorem ma_T6 {w : Cond} {i : Nat} (hi : tables_1_6[i]? = some w) (hg : goodWord w = true) : w ∈ ma_TB := by
  have h := List.mem_of_getElem? hi
  exact List.mem_filter.mpr ⟨List.mem_append_right _ (List.mem_append_right _ (List.mem_append_right _ (List.mem_append_right _ (List.mem_append_right _ (List.mem_append_right _ (List.mem_append_right _ (List.mem_append_left _ h))))))), hg⟩
theorem ma_T7 {w : Cond} {i : Nat} (hi : tables_1_7[i]? = some w) (hg : goodWord w = true) : w ∈ ma_TB := by
  have h := List.mem_of_getElem? hi
  exact List.mem_filter.mpr ⟨List.mem_append_right _ (List.mem_append_right _ (List.mem_append_right _ (List.mem_append_right _ (List.mem_append_right _ (List.mem_append_right _ (List.mem_append_right _ (List.mem_append_right _ (List.mem_append_left _ h)))))))), hg⟩
theorem ma_T8 {w : Cond} {i : Nat} (hi : tables_1_8[i]? = some w) (hg : goodWord w = true) : w ∈ ma_TB := by
  have h := List.mem_of_getElem? hi
  exact List.mem_filter.mpr ⟨List.mem_append_right _ (List.mem_append_right _ (List.mem_append_right _ (List.mem_append_right _ (List.mem_append_right _ (List.mem_append_right _ (List.mem_append_right _ (List.mem_append_right _ (List.mem_append_right _ (List.mem_append_left _ h))))))))), hg⟩
theorem ma_T9 {w : Cond} {i : Nat} (hi : tables_1_9[i]? = some w) (hg : goodWord w = true) : w ∈ ma_TB := by
  have h := List.mem_of_getElem? hi
  exact List.mem_filter.mpr ⟨List.mem_append_right _ (List.mem_append_right _ (List.mem_append_right _ (List.mem_append_right _ (List.mem_append_right _ (List.mem_append_right _ (List.mem_append_right _ (List.mem_append_right _ (List.mem_append_right _ (List.mem_append_right _ (List.mem_append_left _ h)))))))))), hg⟩
theorem ma_T10 {w : Cond} {i : Nat} (hi : tables_1_10[i]? = some w) (hg : goodWord w = true) : w ∈ ma_TB := by
  have h := List.mem_of_getElem? hi
  exact List.mem_filter.mpr ⟨List.mem_append_right _ (List.mem_append_right _ (List.mem_append_right _ (List.mem_append_right _ (List.mem_append_right _ (List.mem_append_right _ (List.mem_append_right _ (List.mem_append_right _ (List.mem_append_right _ (List.mem_append_right _ (List.mem_append_right _ h)))))))))), hg⟩
def ma_cio (o : Nat) : Prop := Cond.initialized (ma_cn o) ∈ ma_TB ∧ plainName (ma_cn o) = true ∧ ma_cn o ≠ "java/lang/invoke/MethodHandle" ∧ ma_cn o ≠ "java/lang/invoke/VarHandle"
theorem ma_cio1 : ma_cio 1 := ⟨ma_T1 (i := 8) (by decide +kernel) (by decide +kernel), by decide +kernel, by decide +kernel, by decide +kernel⟩
theorem ma_cio2 : ma_cio 2 := ⟨ma_T1 (i := 9) (by decide +kernel) (by decide +kernel), by decide +kernel, by decide +kernel, by decide +kernel⟩
theorem ma_cio3 : ma_cio 3 := ⟨ma_T1 (i := 7) (by decide +kernel) (by decide +kernel), by decide +kernel, by decide +kernel, by decide +kernel⟩
theorem ma_cio4 : ma_cio 4 := ⟨ma_T1 (i := 11) (by decide +kernel) (by decide +kernel), by decide +kernel, by decide +kernel, by decide +kernel⟩
theorem ma_cio5 : ma_cio 5 := ⟨ma_T1 (i := 6) (by decide +kernel) (by decide +kernel), by decide +kernel, by decide +kernel, by decide +kernel⟩
theorem ma_cio6 : ma_cio 6 := ⟨ma_T1 (i := 10) (by decide +kernel) (by decide +kernel), by decide +kernel, by decide +kernel, by decide +kernel⟩
theorem ma_cio7 : ma_cio 7 := ⟨ma_T1 (i := 2) (by decide +kernel) (by decide +kernel), by decide +kernel, by decide +kernel, by decide +kernel⟩
theorem ma_cio8 : ma_cio 8 := ⟨ma_T1 (i := 5) (by decide +kernel) (by decide +kernel), by decide +kernel, by decide +kernel, by decide +kernel⟩
theorem ma_cio9 : ma_cio 9 := ⟨ma_T1 (i := 26) (by decide +kernel) (by decide +kernel), by decide +kernel, by decide +kernel, by decide +kernel⟩
theorem ma_cio10 : ma_cio 10 := ⟨ma_T1 (i := 3) (by decide +kernel) (by decide +kernel), by decide +kernel, by decide +kernel, by decide +kernel⟩
theorem ma_cio11 : ma_cio 11 := ⟨ma_T1 (i := 1) (by decide +kernel) (by decide +kernel), by decide +kernel, by decide +kernel, by decide +kernel⟩
theorem ma_cio12 : ma_cio 12 := ⟨ma_T1 (i := 12) (by decide +kernel) (by decide +kernel), by decide +kernel, by decide +kernel, by decide +kernel⟩
theorem ma_cio13 : ma_cio 13 := ⟨ma_T1 (i := 4) (by decide +kernel) (by decide +kernel), by decide +kernel, by decide +kernel, by decide +kernel⟩
theorem ma_cio15 : ma_cio 15 := ⟨ma_T1 (i := 24) (by decide +kernel) (by decide +kernel), by decide +kernel, by decide +kernel, by decide +kernel⟩
theorem ma_cio17 : ma_cio 17 := ⟨ma_T1 (i := 19) (by decide +kernel) (by decide +kernel), by decide +kernel, by decide +kernel, by decide +kernel⟩
theorem ma_cio18 : ma_cio 18 := ⟨ma_T1 (i := 20) (by decide +kernel) (by decide +kernel), by decide +kernel, by decide +kernel, by decide +kernel⟩
theorem ma_cio19 : ma_cio 19 := ⟨ma_T1 (i := 21) (by decide +kernel) (by decide +kernel), by decide +kernel, by decide +kernel, by decide +kernel⟩
def ma_mok (q : Nat × MethodName × ByteArray × Nat × Option FieldType) : Prop := Cond.code q.2.1 q.2.2.1 q.2.2.2.1 q.2.2.2.2 ∈ ma_TB ∧ q.2.1.cls = ma_cn q.1 ∧ ma_cio q.1
theorem ma_mk0 : ma_mok (1, yX0_init, cX0_init, 3, none) := ⟨ma_T1 (i := 216) rfl rfl, rfl, ma_cio1⟩
theorem ma_mk1 : ma_mok (1, yX0_open, cX0_open, 2, none) := ⟨ma_T3 (i := 1) rfl rfl, rfl, ma_cio1⟩
theorem ma_mk2 : ma_mok (1, yX0_total, cX0_total, 1, (some (FieldType.int))) := ⟨ma_T3 (i := 27) rfl rfl, rfl, ma_cio1⟩
theorem ma_mk3 : ma_mok (1, yX0_findRoom, cX0_findRoom, 2, (some (FieldType.int))) := ⟨ma_T3 (i := 189) rfl rfl, rfl, ma_cio1⟩
theorem ma_mk4 : ma_mok (1, yX0_findOldRoom, cX0_findOldRoom, 2, (some (FieldType.int))) := ⟨ma_T3 (i := 193) rfl rfl, rfl, ma_cio1⟩
theorem ma_mk5 : ma_mok (1, yX0_cleanOld, cX0_cleanOld, 2, (some (FieldType.int))) := ⟨ma_T3 (i := 197) rfl rfl, rfl, ma_cio1⟩
theorem ma_mk6 : ma_mok (1, yX0_findDirty, cX0_findDirty, 4, none) := ⟨ma_T4 (i := 50) rfl rfl, rfl, ma_cio1⟩
theorem ma_mk7 : ma_mok (1, yX0_isYoung, cX0_isYoung, 2, (some (FieldType.boolean))) := ⟨ma_T4 (i := 55) rfl rfl, rfl, ma_cio1⟩
theorem ma_mk8 : ma_mok (1, yX0_noteReference, cX0_noteReference, 5, none) := ⟨ma_T4 (i := 60) rfl rfl, rfl, ma_cio1⟩
theorem ma_mk9 : ma_mok (1, yX0_cardOf, cX0_cardOf, 3, (some (FieldType.int))) := ⟨ma_T4 (i := 64) rfl rfl, rfl, ma_cio1⟩
theorem ma_mk10 : ma_mok (1, yX0_hasYoungRoom, cX0_hasYoungRoom, 2, (some (FieldType.boolean))) := ⟨ma_T4 (i := 68) rfl rfl, rfl, ma_cio1⟩
theorem ma_mk11 : ma_mok (1, yX0_cleanYoung, cX0_cleanYoung, 2, (some (FieldType.int))) := ⟨ma_T4 (i := 72) rfl rfl, rfl, ma_cio1⟩
theorem ma_mk12 : ma_mok (1, yX0_wordsGrowingOld, cX0_wordsGrowingOld, 4, (some (FieldType.int))) := ⟨ma_T4 (i := 76) rfl rfl, rfl, ma_cio1⟩
theorem ma_mk13 : ma_mok (1, yX0_comeFromDirty, cX0_comeFromDirty, 3, none) := ⟨ma_T4 (i := 82) rfl rfl, rfl, ma_cio1⟩
theorem ma_mk14 : ma_mok (1, yX0_comeFromDirtyWords, cX0_comeFromDirtyWords, 4, none) := ⟨ma_T4 (i := 87) rfl rfl, rfl, ma_cio1⟩
theorem ma_mk15 : ma_mok (1, yX0_moveKept, cX0_moveKept, 3, none) := ⟨ma_T4 (i := 93) rfl rfl, rfl, ma_cio1⟩
theorem ma_mk16 : ma_mok (1, yX0_moveOlder, cX0_moveOlder, 2, none) := ⟨ma_T4 (i := 101) rfl rfl, rfl, ma_cio1⟩
theorem ma_mk17 : ma_mok (1, yX0_noteMade, cX0_noteMade, 2, none) := ⟨ma_T5 (i := 133) rfl rfl, rfl, ma_cio1⟩
theorem ma_mk18 : ma_mok (1, yX0_canHold, cX0_canHold, 2, (some (FieldType.boolean))) := ⟨ma_T6 (i := 113) rfl rfl, rfl, ma_cio1⟩
theorem ma_mk19 : ma_mok (1, yX0_cleanAll, cX0_cleanAll, 2, (some (FieldType.int))) := ⟨ma_T6 (i := 172) rfl rfl, rfl, ma_cio1⟩
theorem ma_mk20 : ma_mok (1, yX0_specials, cX0_specials, 3, (some (FieldType.int))) := ⟨ma_T7 (i := 8) rfl rfl, rfl, ma_cio1⟩
theorem ma_mk21 : ma_mok (1, yX0_topPlace, cX0_topPlace, 1, (some (FieldType.int))) := ⟨ma_T7 (i := 23) rfl rfl, rfl, ma_cio1⟩
theorem ma_mk22 : ma_mok (1, yX0_oldTopOrRegion, cX0_oldTopOrRegion, 1, (some (FieldType.int))) := ⟨ma_T7 (i := 53) rfl rfl, rfl, ma_cio1⟩
theorem ma_mk23 : ma_mok (2, yX2_init, cX2_init, 3, none) := ⟨ma_T2 (i := 9) rfl rfl, rfl, ma_cio2⟩
theorem ma_mk24 : ma_mok (2, yX2_noteFewer, cX2_noteFewer, 5, none) := ⟨ma_T5 (i := 186) rfl rfl, rfl, ma_cio2⟩
theorem ma_mk25 : ma_mok (2, yX2_fallIfUncounted, cX2_fallIfUncounted, 2, none) := ⟨ma_T5 (i := 190) rfl rfl, rfl, ma_cio2⟩
theorem ma_mk26 : ma_mok (2, yX2_dropWord, cX2_dropWord, 3, none) := ⟨ma_T5 (i := 197) rfl rfl, rfl, ma_cio2⟩
theorem ma_mk27 : ma_mok (2, yX2_countOf, cX2_countOf, 2, (some (FieldType.int))) := ⟨ma_T6 (i := 200) rfl rfl, rfl, ma_cio2⟩
theorem ma_mk28 : ma_mok (3, yX3_init, cX3_init, 3, none) := ⟨ma_T1 (i := 198) rfl rfl, rfl, ma_cio3⟩
theorem ma_mk29 : ma_mok (3, yX3_open, cX3_open, 2, none) := ⟨ma_T3 (i := 8) rfl rfl, rfl, ma_cio3⟩
theorem ma_mk30 : ma_mok (3, yX3_total, cX3_total, 1, (some (FieldType.int))) := ⟨ma_T3 (i := 33) rfl rfl, rfl, ma_cio3⟩
theorem ma_mk31 : ma_mok (3, yX3_findRoom, cX3_findRoom, 2, (some (FieldType.int))) := ⟨ma_T4 (i := 183) rfl rfl, rfl, ma_cio3⟩
theorem ma_mk32 : ma_mok (3, yX3_hasRoom, cX3_hasRoom, 2, (some (FieldType.boolean))) := ⟨ma_T4 (i := 187) rfl rfl, rfl, ma_cio3⟩
theorem ma_mk33 : ma_mok (3, yX3_cleanAll, cX3_cleanAll, 4, (some (FieldType.int))) := ⟨ma_T4 (i := 191) rfl rfl, rfl, ma_cio3⟩
theorem ma_mk34 : ma_mok (3, yX3_noteMade, cX3_noteMade, 2, none) := ⟨ma_T5 (i := 139) rfl rfl, rfl, ma_cio3⟩
theorem ma_mk35 : ma_mok (3, yX3_canHold, cX3_canHold, 2, (some (FieldType.boolean))) := ⟨ma_T6 (i := 117) rfl rfl, rfl, ma_cio3⟩
theorem ma_mk36 : ma_mok (3, yX3_topPlace, cX3_topPlace, 1, (some (FieldType.int))) := ⟨ma_T7 (i := 27) rfl rfl, rfl, ma_cio3⟩
theorem ma_mk37 : ma_mok (4, yX4_init, cX4_init, 3, none) := ⟨ma_T2 (i := 57) rfl rfl, rfl, ma_cio4⟩
theorem ma_mk38 : ma_mok (4, yX4_open, cX4_open, 2, none) := ⟨ma_T3 (i := 11) rfl rfl, rfl, ma_cio4⟩
theorem ma_mk39 : ma_mok (4, yX4_total, cX4_total, 1, (some (FieldType.int))) := ⟨ma_T3 (i := 36) rfl rfl, rfl, ma_cio4⟩
theorem ma_mk40 : ma_mok (4, yX4_findRoom, cX4_findRoom, 2, (some (FieldType.int))) := ⟨ma_T4 (i := 199) rfl rfl, rfl, ma_cio4⟩
theorem ma_mk41 : ma_mok (4, yX4_fits, cX4_fits, 3, (some (FieldType.boolean))) := ⟨ma_T4 (i := 203) rfl rfl, rfl, ma_cio4⟩
theorem ma_mk42 : ma_mok (4, yX4_specials, cX4_specials, 3, (some (FieldType.int))) := ⟨ma_T4 (i := 207) rfl rfl, rfl, ma_cio4⟩
theorem ma_mk43 : ma_mok (4, yX4_cleanAll, cX4_cleanAll, 4, (some (FieldType.int))) := ⟨ma_T4 (i := 211) rfl rfl, rfl, ma_cio4⟩
theorem ma_mk44 : ma_mok (4, yX4_sumKept, cX4_sumKept, 3, none) := ⟨ma_T4 (i := 218) rfl rfl, rfl, ma_cio4⟩
theorem ma_mk45 : ma_mok (4, yX4_regionOf, cX4_regionOf, 2, (some (FieldType.int))) := ⟨ma_T4 (i := 223) rfl rfl, rfl, ma_cio4⟩
theorem ma_mk46 : ma_mok (4, yX4_emptyWhereNothingIsLeft, cX4_emptyWhereNothingIsLeft, 2, none) := ⟨ma_T4 (i := 227) rfl rfl, rfl, ma_cio4⟩
theorem ma_mk47 : ma_mok (4, yX4_chooseLeaving, cX4_chooseLeaving, 3, none) := ⟨ma_T4 (i := 231) rfl rfl, rfl, ma_cio4⟩
theorem ma_mk48 : ma_mok (4, yX4_fewestLeaving, cX4_fewestLeaving, 3, (some (FieldType.int))) := ⟨ma_T4 (i := 235) rfl rfl, rfl, ma_cio4⟩
theorem ma_mk49 : ma_mok (4, yX4_moveAll, cX4_moveAll, 5, (some (FieldType.boolean))) := ⟨ma_T4 (i := 239) rfl rfl, rfl, ma_cio4⟩
theorem ma_mk50 : ma_mok (4, yX4_topOf, cX4_topOf, 2, (some (FieldType.int))) := ⟨ma_T5 (i := 3) rfl rfl, rfl, ma_cio4⟩
theorem ma_mk51 : ma_mok (4, yX4_moveOut, cX4_moveOut, 3, (some (FieldType.boolean))) := ⟨ma_T5 (i := 8) rfl rfl, rfl, ma_cio4⟩
theorem ma_mk52 : ma_mok (4, yX4_leastEmpty, cX4_leastEmpty, 2, (some (FieldType.int))) := ⟨ma_T5 (i := 12) rfl rfl, rfl, ma_cio4⟩
theorem ma_mk53 : ma_mok (4, yX4_raiseTop, cX4_raiseTop, 3, none) := ⟨ma_T5 (i := 17) rfl rfl, rfl, ma_cio4⟩
theorem ma_mk54 : ma_mok (4, yX4_orElse, cX4_orElse, 2, (some (FieldType.int))) := ⟨ma_T5 (i := 20) rfl rfl, rfl, ma_cio4⟩
theorem ma_mk55 : ma_mok (4, yX4_topPlace, cX4_topPlace, 1, (some (FieldType.int))) := ⟨ma_T5 (i := 24) rfl rfl, rfl, ma_cio4⟩
theorem ma_mk56 : ma_mok (4, yX4_noteMade, cX4_noteMade, 2, none) := ⟨ma_T5 (i := 142) rfl rfl, rfl, ma_cio4⟩
theorem ma_mk57 : ma_mok (4, yX4_oldTopOrRegion, cX4_oldTopOrRegion, 1, (some (FieldType.int))) := ⟨ma_T7 (i := 58) rfl rfl, rfl, ma_cio4⟩
theorem ma_mk58 : ma_mok (5, yX5_init, cX5_init, 3, none) := ⟨ma_T1 (i := 183) rfl rfl, rfl, ma_cio5⟩
theorem ma_mk59 : ma_mok (5, yX5_open, cX5_open, 2, none) := ⟨ma_T3 (i := 16) rfl rfl, rfl, ma_cio5⟩
theorem ma_mk60 : ma_mok (5, yX5_total, cX5_total, 1, (some (FieldType.int))) := ⟨ma_T3 (i := 39) rfl rfl, rfl, ma_cio5⟩
theorem ma_mk61 : ma_mok (5, yX5_findRoom, cX5_findRoom, 2, (some (FieldType.int))) := ⟨ma_T5 (i := 27) rfl rfl, rfl, ma_cio5⟩
theorem ma_mk62 : ma_mok (5, yX5_cleanAll, cX5_cleanAll, 2, (some (FieldType.int))) := ⟨ma_T5 (i := 31) rfl rfl, rfl, ma_cio5⟩
theorem ma_mk63 : ma_mok (5, yX5_noteMade, cX5_noteMade, 2, none) := ⟨ma_T5 (i := 145) rfl rfl, rfl, ma_cio5⟩
theorem ma_mk64 : ma_mok (5, yX5_topPlace, cX5_topPlace, 1, (some (FieldType.int))) := ⟨ma_T7 (i := 31) rfl rfl, rfl, ma_cio5⟩
theorem ma_mk65 : ma_mok (6, yX6_init, cX6_init, 3, none) := ⟨ma_T2 (i := 31) rfl rfl, rfl, ma_cio6⟩
theorem ma_mk66 : ma_mok (6, yX6_open, cX6_open, 2, none) := ⟨ma_T3 (i := 19) rfl rfl, rfl, ma_cio6⟩
theorem ma_mk67 : ma_mok (6, yX6_cleanAll, cX6_cleanAll, 2, (some (FieldType.int))) := ⟨ma_T4 (i := 147) rfl rfl, rfl, ma_cio6⟩
theorem ma_mk68 : ma_mok (6, yX6_begin, cX6_begin, 1, none) := ⟨ma_T4 (i := 151) rfl rfl, rfl, ma_cio6⟩
theorem ma_mk69 : ma_mok (6, yX6_newsCame, cX6_newsCame, 1, (some (FieldType.boolean))) := ⟨ma_T4 (i := 158) rfl rfl, rfl, ma_cio6⟩
theorem ma_mk70 : ma_mok (6, yX6_finish, cX6_finish, 1, (some (FieldType.int))) := ⟨ma_T4 (i := 166) rfl rfl, rfl, ma_cio6⟩
theorem ma_mk71 : ma_mok (6, yX6_findRoom, cX6_findRoom, 4, (some (FieldType.int))) := ⟨ma_T5 (i := 40) rfl rfl, rfl, ma_cio6⟩
theorem ma_mk72 : ma_mok (6, yX6_goOn, cX6_goOn, 3, (some (FieldType.int))) := ⟨ma_T5 (i := 44) rfl rfl, rfl, ma_cio6⟩
theorem ma_mk73 : ma_mok (6, yX6_noteMade, cX6_noteMade, 2, none) := ⟨ma_T5 (i := 148) rfl rfl, rfl, ma_cio6⟩
theorem ma_mk74 : ma_mok (6, yX6_noteChange, cX6_noteChange, 3, none) := ⟨ma_T5 (i := 176) rfl rfl, rfl, ma_cio6⟩
theorem ma_mk75 : ma_mok (6, yX6_noteStrong, cX6_noteStrong, 2, none) := ⟨ma_T6 (i := 97) rfl rfl, rfl, ma_cio6⟩
theorem ma_mk76 : ma_mok (6, yX6_colourOf, cX6_colourOf, 2, (some (FieldType.int))) := ⟨ma_T6 (i := 217) rfl rfl, rfl, ma_cio6⟩
theorem ma_mk77 : ma_mok (6, yX6_specials, cX6_specials, 1, (some (FieldType.int))) := ⟨ma_T7 (i := 15) rfl rfl, rfl, ma_cio6⟩
theorem ma_mk78 : ma_mok (6, yX6_isMarking, cX6_isMarking, 1, (some (FieldType.boolean))) := ⟨ma_T7 (i := 45) rfl rfl, rfl, ma_cio6⟩
theorem ma_mk79 : ma_mok (7, yX7_init, cX7_init, 1, none) := ⟨ma_T1 (i := 42) rfl rfl, rfl, ma_cio7⟩
theorem ma_mk80 : ma_mok (7, yX7_forgetAll, cX7_forgetAll, 2, none) := ⟨ma_T2 (i := 232) rfl rfl, rfl, ma_cio7⟩
theorem ma_mk81 : ma_mok (7, yX7_thingAt, cX7_thingAt, 2, (some (FieldType.object "CollectorHouse$Thing"))) := ⟨ma_T3 (i := 214) rfl rfl, rfl, ma_cio7⟩
theorem ma_mk82 : ma_mok (7, yX7_referenceOf, cX7_referenceOf, 6, (some (FieldType.object "CollectorHouse$Thing"))) := ⟨ma_T3 (i := 230) rfl rfl, rfl, ma_cio7⟩
theorem ma_mk83 : ma_mok (7, yX7_grantWishes, cX7_grantWishes, 4, none) := ⟨ma_T3 (i := 234) rfl rfl, rfl, ma_cio7⟩
theorem ma_mk84 : ma_mok (7, yX7_grant, cX7_grant, 2, none) := ⟨ma_T4 (i := 7) rfl rfl, rfl, ma_cio7⟩
theorem ma_mk85 : ma_mok (7, yX7_clearWeak, cX7_clearWeak, 3, none) := ⟨ma_T4 (i := 11) rfl rfl, rfl, ma_cio7⟩
theorem ma_mk86 : ma_mok (7, yX7_removeOthers, cX7_removeOthers, 5, (some (FieldType.int))) := ⟨ma_T4 (i := 17) rfl rfl, rfl, ma_cio7⟩
theorem ma_mk87 : ma_mok (7, yX7_remove, cX7_remove, 4, none) := ⟨ma_T4 (i := 21) rfl rfl, rfl, ma_cio7⟩
theorem ma_mk88 : ma_mok (7, yX7_freeWords, cX7_freeWords, 4, none) := ⟨ma_T4 (i := 26) rfl rfl, rfl, ma_cio7⟩
theorem ma_mk89 : ma_mok (7, yX7_thingFrom, cX7_thingFrom, 3, (some (FieldType.object "CollectorHouse$Thing"))) := ⟨ma_T4 (i := 36) rfl rfl, rfl, ma_cio7⟩
theorem ma_mk90 : ma_mok (7, yX7_move, cX7_move, 5, none) := ⟨ma_T4 (i := 40) rfl rfl, rfl, ma_cio7⟩
theorem ma_mk91 : ma_mok (7, yX7_add, cX7_add, 4, none) := ⟨ma_T5 (i := 119) rfl rfl, rfl, ma_cio7⟩
theorem ma_mk92 : ma_mok (7, yX7_changeRoot, cX7_changeRoot, 4, (some (FieldType.object "CollectorHouse$Thing"))) := ⟨ma_T5 (i := 159) rfl rfl, rfl, ma_cio7⟩
theorem ma_mk93 : ma_mok (7, yX7_changeCounts, cX7_changeCounts, 2, none) := ⟨ma_T5 (i := 165) rfl rfl, rfl, ma_cio7⟩
theorem ma_mk94 : ma_mok (7, yX7_changeReference, cX7_changeReference, 5, (some (FieldType.object "CollectorHouse$Thing"))) := ⟨ma_T5 (i := 202) rfl rfl, rfl, ma_cio7⟩
theorem ma_mk95 : ma_mok (7, yX7_changeInt, cX7_changeInt, 6, (some (FieldType.int))) := ⟨ma_T5 (i := 206) rfl rfl, rfl, ma_cio7⟩
theorem ma_mk96 : ma_mok (7, yX7_wordOf, cX7_wordOf, 4, (some (FieldType.int))) := ⟨ma_T6 (i := 65) rfl rfl, rfl, ma_cio7⟩
theorem ma_mk97 : ma_mok (7, yX7_changeHolds, cX7_changeHolds, 3, none) := ⟨ma_T6 (i := 141) rfl rfl, rfl, ma_cio7⟩
theorem ma_mk98 : ma_mok (7, yX7_takeWish, cX7_takeWish, 3, (some (FieldType.object "CollectorHouse$Thing"))) := ⟨ma_T6 (i := 159) rfl rfl, rfl, ma_cio7⟩
theorem ma_mk99 : ma_mok (8, yX8_init, cX8_init, 3, none) := ⟨ma_T1 (i := 140) rfl rfl, rfl, ma_cio8⟩
theorem ma_mk100 : ma_mok (8, yX8_open, cX8_open, 2, none) := ⟨ma_T3 (i := 5) rfl rfl, rfl, ma_cio8⟩
theorem ma_mk101 : ma_mok (8, yX8_total, cX8_total, 1, (some (FieldType.int))) := ⟨ma_T3 (i := 30) rfl rfl, rfl, ma_cio8⟩
theorem ma_mk102 : ma_mok (8, yX8_findRoom, cX8_findRoom, 3, (some (FieldType.int))) := ⟨ma_T4 (i := 105) rfl rfl, rfl, ma_cio8⟩
theorem ma_mk103 : ma_mok (8, yX8_fit, cX8_fit, 2, (some (FieldType.int))) := ⟨ma_T4 (i := 112) rfl rfl, rfl, ma_cio8⟩
theorem ma_mk104 : ma_mok (8, yX8_fitFirst, cX8_fitFirst, 7, (some (FieldType.int))) := ⟨ma_T4 (i := 116) rfl rfl, rfl, ma_cio8⟩
theorem ma_mk105 : ma_mok (8, yX8_freeFrom, cX8_freeFrom, 4, (some (FieldType.int))) := ⟨ma_T4 (i := 123) rfl rfl, rfl, ma_cio8⟩
theorem ma_mk106 : ma_mok (8, yX8_freeEnd, cX8_freeEnd, 3, (some (FieldType.int))) := ⟨ma_T4 (i := 131) rfl rfl, rfl, ma_cio8⟩
theorem ma_mk107 : ma_mok (8, yX8_fitNext, cX8_fitNext, 3, (some (FieldType.int))) := ⟨ma_T4 (i := 135) rfl rfl, rfl, ma_cio8⟩
theorem ma_mk108 : ma_mok (8, yX8_fitByLength, cX8_fitByLength, 9, (some (FieldType.int))) := ⟨ma_T4 (i := 139) rfl rfl, rfl, ma_cio8⟩
theorem ma_mk109 : ma_mok (8, yX8_cleanAll, cX8_cleanAll, 1, (some (FieldType.int))) := ⟨ma_T4 (i := 169) rfl rfl, rfl, ma_cio8⟩
theorem ma_mk110 : ma_mok (8, yX8_noteMade, cX8_noteMade, 2, none) := ⟨ma_T5 (i := 136) rfl rfl, rfl, ma_cio8⟩
theorem ma_mk111 : ma_mok (8, yX8_blockPlace, cX8_blockPlace, 4, (some (FieldType.int))) := ⟨ma_T6 (i := 234) rfl rfl, rfl, ma_cio8⟩
theorem ma_mk112 : ma_mok (9, yX9_init, cX9_init, 7, none) := ⟨ma_T5 (i := 55) rfl rfl, rfl, ma_cio9⟩
theorem ma_mk113 : ma_mok (9, yX9_isReference, cX9_isReference, 2, (some (FieldType.boolean))) := ⟨ma_T5 (i := 123) rfl rfl, rfl, ma_cio9⟩
theorem ma_mk114 : ma_mok (9, yX9_hasWord, cX9_hasWord, 2, (some (FieldType.boolean))) := ⟨ma_T5 (i := 127) rfl rfl, rfl, ma_cio9⟩
theorem ma_mk115 : ma_mok (10, yX10_init, cX10_init, 2, none) := ⟨ma_T1 (i := 109) rfl rfl, rfl, ma_cio10⟩
theorem ma_mk116 : ma_mok (10, yX10_reachAll, cX10_reachAll, 1, none) := ⟨ma_T3 (i := 201) rfl rfl, rfl, ma_cio10⟩
theorem ma_mk117 : ma_mok (10, yX10_restart, cX10_restart, 2, none) := ⟨ma_T3 (i := 205) rfl rfl, rfl, ma_cio10⟩
theorem ma_mk118 : ma_mok (10, yX10_comeFromRoots, cX10_comeFromRoots, 3, none) := ⟨ma_T3 (i := 210) rfl rfl, rfl, ma_cio10⟩
theorem ma_mk119 : ma_mok (10, yX10_comes, cX10_comes, 2, none) := ⟨ma_T3 (i := 218) rfl rfl, rfl, ma_cio10⟩
theorem ma_mk120 : ma_mok (10, yX10_spread, cX10_spread, 5, (some (FieldType.int))) := ⟨ma_T3 (i := 222) rfl rfl, rfl, ma_cio10⟩
theorem ma_mk121 : ma_mok (10, yX10_blacken, cX10_blacken, 2, none) := ⟨ma_T3 (i := 226) rfl rfl, rfl, ma_cio10⟩
theorem ma_mk122 : ma_mok (10, yX10_keeps, cX10_keeps, 2, (some (FieldType.boolean))) := ⟨ma_T3 (i := 239) rfl rfl, rfl, ma_cio10⟩
theorem ma_mk123 : ma_mok (10, yX10_colourOf, cX10_colourOf, 2, (some (FieldType.int))) := ⟨ma_T4 (i := 3) rfl rfl, rfl, ma_cio10⟩
theorem ma_mk124 : ma_mok (10, yX10_thingInQueue, cX10_thingInQueue, 2, (some (FieldType.object "CollectorHouse$Thing"))) := ⟨ma_T4 (i := 97) rfl rfl, rfl, ma_cio10⟩
theorem ma_mk125 : ma_mok (10, yX10_isEmpty, cX10_isEmpty, 1, (some (FieldType.boolean))) := ⟨ma_T4 (i := 162) rfl rfl, rfl, ma_cio10⟩
theorem ma_mk126 : ma_mok (11, yX11_init, cX11_init, 1, none) := ⟨ma_T1 (i := 34) rfl rfl, rfl, ma_cio11⟩
theorem ma_mk127 : ma_mok (11, yX11_heap, cX11_heap, 2, (some (FieldType.int))) := ⟨ma_T2 (i := 123) rfl rfl, rfl, ma_cio11⟩
theorem ma_mk128 : ma_mok (11, yX11_readPolicy, cX11_readPolicy, 4, (some (FieldType.int))) := ⟨ma_T2 (i := 127) rfl rfl, rfl, ma_cio11⟩
theorem ma_mk129 : ma_mok (11, yX11_nextToken, cX11_nextToken, 2, (some (FieldType.boolean))) := ⟨ma_T2 (i := 131) rfl rfl, rfl, ma_cio11⟩
theorem ma_mk130 : ma_mok (11, yX11_policyToken, cX11_policyToken, 1, (some (FieldType.int))) := ⟨ma_T2 (i := 135) rfl rfl, rfl, ma_cio11⟩
theorem ma_mk131 : ma_mok (11, yX11_tokenIs, cX11_tokenIs, 3, (some (FieldType.boolean))) := ⟨ma_T2 (i := 140) rfl rfl, rfl, ma_cio11⟩
theorem ma_mk132 : ma_mok (11, yX11_partsOf, cX11_partsOf, 1, (some (FieldType.object "java/lang/String"))) := ⟨ma_T2 (i := 197) rfl rfl, rfl, ma_cio11⟩
theorem ma_mk133 : ma_mok (11, yX11_partToken, cX11_partToken, 2, (some (FieldType.int))) := ⟨ma_T2 (i := 207) rfl rfl, rfl, ma_cio11⟩
theorem ma_mk134 : ma_mok (11, yX11_numberToken, cX11_numberToken, 6, (some (FieldType.int))) := ⟨ma_T2 (i := 211) rfl rfl, rfl, ma_cio11⟩
theorem ma_mk135 : ma_mok (11, yX11_formToken, cX11_formToken, 1, (some (FieldType.int))) := ⟨ma_T2 (i := 218) rfl rfl, rfl, ma_cio11⟩
theorem ma_mk136 : ma_mok (11, yX11_barrierToken, cX11_barrierToken, 1, (some (FieldType.int))) := ⟨ma_T2 (i := 226) rfl rfl, rfl, ma_cio11⟩
theorem ma_mk137 : ma_mok (11, yX11_feed, cX11_feed, 6, (some (FieldType.int))) := ⟨ma_T3 (i := 49) rfl rfl, rfl, ma_cio11⟩
theorem ma_mk138 : ma_mok (11, yX11_addBytes, cX11_addBytes, 3, none) := ⟨ma_T3 (i := 119) rfl rfl, rfl, ma_cio11⟩
theorem ma_mk139 : ma_mok (11, yX11_end, cX11_end, 2, (some (FieldType.int))) := ⟨ma_T3 (i := 127) rfl rfl, rfl, ma_cio11⟩
theorem ma_mk140 : ma_mok (11, yX11_kind, cX11_kind, 3, (some (FieldType.int))) := ⟨ma_T3 (i := 150) rfl rfl, rfl, ma_cio11⟩
theorem ma_mk141 : ma_mok (11, yX11_make, cX11_make, 3, (some (FieldType.int))) := ⟨ma_T3 (i := 172) rfl rfl, rfl, ma_cio11⟩
theorem ma_mk142 : ma_mok (11, yX11_isSlot, cX11_isSlot, 1, (some (FieldType.boolean))) := ⟨ma_T3 (i := 175) rfl rfl, rfl, ma_cio11⟩
theorem ma_mk143 : ma_mok (11, yX11_addObject, cX11_addObject, 9, (some (FieldType.int))) := ⟨ma_T3 (i := 179) rfl rfl, rfl, ma_cio11⟩
theorem ma_mk144 : ma_mok (11, yX11_needCollector, cX11_needCollector, 1, (some (FieldType.object "CollectorHouse$Collector"))) := ⟨ma_T3 (i := 183) rfl rfl, rfl, ma_cio11⟩
theorem ma_mk145 : ma_mok (11, yX11_changeRoot, cX11_changeRoot, 5, (some (FieldType.object "CollectorHouse$Thing"))) := ⟨ma_T5 (i := 155) rfl rfl, rfl, ma_cio11⟩
theorem ma_mk146 : ma_mok (11, yX11_numberOf, cX11_numberOf, 1, (some (FieldType.int))) := ⟨ma_T5 (i := 162) rfl rfl, rfl, ma_cio11⟩
theorem ma_mk147 : ma_mok (11, yX11_row, cX11_row, 4, (some (FieldType.int))) := ⟨ma_T5 (i := 220) rfl rfl, rfl, ma_cio11⟩
theorem ma_mk148 : ma_mok (11, yX11_put, cX11_put, 5, (some (FieldType.int))) := ⟨ma_T5 (i := 230) rfl rfl, rfl, ma_cio11⟩
theorem ma_mk149 : ma_mok (11, yX11_needReached, cX11_needReached, 3, (some (FieldType.object "CollectorHouse$Thing"))) := ⟨ma_T5 (i := 234) rfl rfl, rfl, ma_cio11⟩
theorem ma_mk150 : ma_mok (11, yX11_link, cX11_link, 8, (some (FieldType.int))) := ⟨ma_T6 (i := 37) rfl rfl, rfl, ma_cio11⟩
theorem ma_mk151 : ma_mok (11, yX11_needReachedOrNothing, cX11_needReachedOrNothing, 2, (some (FieldType.object "CollectorHouse$Thing"))) := ⟨ma_T6 (i := 41) rfl rfl, rfl, ma_cio11⟩
theorem ma_mk152 : ma_mok (11, yX11_get, cX11_get, 4, (some (FieldType.int))) := ⟨ma_T6 (i := 61) rfl rfl, rfl, ma_cio11⟩
theorem ma_mk153 : ma_mok (11, yX11_root, cX11_root, 5, (some (FieldType.int))) := ⟨ma_T6 (i := 72) rfl rfl, rfl, ma_cio11⟩
theorem ma_mk154 : ma_mok (11, yX11_weak, cX11_weak, 5, (some (FieldType.int))) := ⟨ma_T6 (i := 79) rfl rfl, rfl, ma_cio11⟩
theorem ma_mk155 : ma_mok (11, yX11_strong, cX11_strong, 5, (some (FieldType.int))) := ⟨ma_T6 (i := 86) rfl rfl, rfl, ma_cio11⟩
theorem ma_mk156 : ma_mok (11, yX11_hold, cX11_hold, 5, (some (FieldType.int))) := ⟨ma_T6 (i := 107) rfl rfl, rfl, ma_cio11⟩
theorem ma_mk157 : ma_mok (11, yX11_wish, cX11_wish, 4, (some (FieldType.int))) := ⟨ma_T6 (i := 148) rfl rfl, rfl, ma_cio11⟩
theorem ma_mk158 : ma_mok (11, yX11_granted, cX11_granted, 4, (some (FieldType.int))) := ⟨ma_T6 (i := 155) rfl rfl, rfl, ma_cio11⟩
theorem ma_mk159 : ma_mok (11, yX11_clean, cX11_clean, 1, (some (FieldType.int))) := ⟨ma_T6 (i := 166) rfl rfl, rfl, ma_cio11⟩
theorem ma_mk160 : ma_mok (11, yX11_step, cX11_step, 4, (some (FieldType.int))) := ⟨ma_T6 (i := 185) rfl rfl, rfl, ma_cio11⟩
theorem ma_mk161 : ma_mok (11, yX11_about, cX11_about, 5, (some (FieldType.int))) := ⟨ma_T6 (i := 193) rfl rfl, rfl, ma_cio11⟩
theorem ma_mk162 : ma_mok (11, yX11_block, cX11_block, 5, (some (FieldType.int))) := ⟨ma_T6 (i := 227) rfl rfl, rfl, ma_cio11⟩
theorem ma_mk163 : ma_mok (11, yX11_count, cX11_count, 3, (some (FieldType.int))) := ⟨ma_T7 (i := 2) rfl rfl, rfl, ma_cio11⟩
theorem ma_mk164 : ma_mok (12, yX12_thrown, cX12_thrown, 1, (some (FieldType.int))) := ⟨ma_T7 (i := 66) rfl rfl, rfl, ma_cio12⟩
theorem ma_mk165 : ma_mok (12, yX12_init, cX12_init, 1, none) := ⟨ma_T7 (i := 71) rfl rfl, rfl, ma_cio12⟩
theorem ma_mk166 : ma_mok (12, yX12_feed, cX12_feed, 6, (some (FieldType.int))) := ⟨ma_T8 (i := 94) rfl rfl, rfl, ma_cio12⟩
theorem ma_mk167 : ma_mok (12, yX12_fails, cX12_fails, 2, (some (FieldType.boolean))) := ⟨ma_T8 (i := 98) rfl rfl, rfl, ma_cio12⟩
theorem ma_mk168 : ma_mok (12, yX12_four, cX12_four, 3, none) := ⟨ma_T8 (i := 102) rfl rfl, rfl, ma_cio12⟩
theorem ma_mk169 : ma_mok (12, yX12_end, cX12_end, 2, (some (FieldType.int))) := ⟨ma_T8 (i := 106) rfl rfl, rfl, ma_cio12⟩
theorem ma_mk170 : ma_mok (12, yX12_kind, cX12_kind, 4, (some (FieldType.int))) := ⟨ma_T8 (i := 110) rfl rfl, rfl, ma_cio12⟩
theorem ma_mk171 : ma_mok (12, yX12_heap, cX12_heap, 2, (some (FieldType.int))) := ⟨ma_T8 (i := 114) rfl rfl, rfl, ma_cio12⟩
theorem ma_mk172 : ma_mok (12, yX12_readPolicy, cX12_readPolicy, 1, (some (FieldType.boolean))) := ⟨ma_T8 (i := 118) rfl rfl, rfl, ma_cio12⟩
theorem ma_mk173 : ma_mok (12, yX12_token, cX12_token, 1, (some (FieldType.boolean))) := ⟨ma_T8 (i := 122) rfl rfl, rfl, ma_cio12⟩
theorem ma_mk174 : ma_mok (12, yX12_wrong, cX12_wrong, 2, (some (FieldType.boolean))) := ⟨ma_T8 (i := 126) rfl rfl, rfl, ma_cio12⟩
theorem ma_mk175 : ma_mok (12, yX12_is, cX12_is, 9, (some (FieldType.boolean))) := ⟨ma_T8 (i := 130) rfl rfl, rfl, ma_cio12⟩
theorem ma_mk176 : ma_mok (12, yX12_byteIs, cX12_byteIs, 3, (some (FieldType.boolean))) := ⟨ma_T8 (i := 134) rfl rfl, rfl, ma_cio12⟩
theorem ma_mk177 : ma_mok (12, yX12_number, cX12_number, 7, (some (FieldType.boolean))) := ⟨ma_T8 (i := 138) rfl rfl, rfl, ma_cio12⟩
theorem ma_mk178 : ma_mok (12, yX12_roomHere, cX12_roomHere, 1, (some (FieldType.boolean))) := ⟨ma_T8 (i := 142) rfl rfl, rfl, ma_cio12⟩
theorem ma_mk179 : ma_mok (12, yX12_form, cX12_form, 1, (some (FieldType.boolean))) := ⟨ma_T8 (i := 146) rfl rfl, rfl, ma_cio12⟩
theorem ma_mk180 : ma_mok (12, yX12_empty, cX12_empty, 2, none) := ⟨ma_T8 (i := 150) rfl rfl, rfl, ma_cio12⟩
theorem ma_mk181 : ma_mok (12, yX12_make, cX12_make, 3, (some (FieldType.int))) := ⟨ma_T8 (i := 154) rfl rfl, rfl, ma_cio12⟩
theorem ma_mk182 : ma_mok (12, yX12_isNamed, cX12_isNamed, 2, (some (FieldType.boolean))) := ⟨ma_T8 (i := 158) rfl rfl, rfl, ma_cio12⟩
theorem ma_mk183 : ma_mok (12, yX12_fresh, cX12_fresh, 7, (some (FieldType.int))) := ⟨ma_T8 (i := 162) rfl rfl, rfl, ma_cio12⟩
theorem ma_mk184 : ma_mok (12, yX12_findRoom, cX12_findRoom, 4, (some (FieldType.int))) := ⟨ma_T8 (i := 166) rfl rfl, rfl, ma_cio12⟩
theorem ma_mk185 : ma_mok (12, yX12_findInHalf, cX12_findInHalf, 4, (some (FieldType.int))) := ⟨ma_T8 (i := 170) rfl rfl, rfl, ma_cio12⟩
theorem ma_mk186 : ma_mok (12, yX12_cleanSlide, cX12_cleanSlide, 2, (some (FieldType.int))) := ⟨ma_T8 (i := 174) rfl rfl, rfl, ma_cio12⟩
theorem ma_mk187 : ma_mok (12, yX12_sweep, cX12_sweep, 1, (some (FieldType.int))) := ⟨ma_T8 (i := 178) rfl rfl, rfl, ma_cio12⟩
theorem ma_mk188 : ma_mok (12, yX12_keepReached, cX12_keepReached, 2, none) := ⟨ma_T8 (i := 182) rfl rfl, rfl, ma_cio12⟩
theorem ma_mk189 : ma_mok (12, yX12_keepNone, cX12_keepNone, 2, none) := ⟨ma_T8 (i := 186) rfl rfl, rfl, ma_cio12⟩
theorem ma_mk190 : ma_mok (12, yX12_keep, cX12_keep, 2, none) := ⟨ma_T8 (i := 190) rfl rfl, rfl, ma_cio12⟩
theorem ma_mk191 : ma_mok (12, yX12_keepAll, cX12_keepAll, 3, none) := ⟨ma_T8 (i := 194) rfl rfl, rfl, ma_cio12⟩
theorem ma_mk192 : ma_mok (12, yX12_reference, cX12_reference, 3, (some (FieldType.int))) := ⟨ma_T8 (i := 198) rfl rfl, rfl, ma_cio12⟩
theorem ma_mk193 : ma_mok (12, yX12_isReference, cX12_isReference, 3, (some (FieldType.boolean))) := ⟨ma_T8 (i := 202) rfl rfl, rfl, ma_cio12⟩
theorem ma_mk194 : ma_mok (12, yX12_grantAll, cX12_grantAll, 3, none) := ⟨ma_T8 (i := 206) rfl rfl, rfl, ma_cio12⟩
theorem ma_mk195 : ma_mok (12, yX12_wisher, cX12_wisher, 5, (some (FieldType.int))) := ⟨ma_T8 (i := 210) rfl rfl, rfl, ma_cio12⟩
theorem ma_mk196 : ma_mok (12, yX12_isOld, cX12_isOld, 2, (some (FieldType.boolean))) := ⟨ma_T8 (i := 214) rfl rfl, rfl, ma_cio12⟩
theorem ma_mk197 : ma_mok (12, yX12_toWishes, cX12_toWishes, 2, none) := ⟨ma_T8 (i := 218) rfl rfl, rfl, ma_cio12⟩
theorem ma_mk198 : ma_mok (12, yX12_unweak, cX12_unweak, 3, none) := ⟨ma_T8 (i := 222) rfl rfl, rfl, ma_cio12⟩
theorem ma_mk199 : ma_mok (12, yX12_unweakRest, cX12_unweakRest, 2, none) := ⟨ma_T8 (i := 226) rfl rfl, rfl, ma_cio12⟩
theorem ma_mk200 : ma_mok (12, yX12_removeRest, cX12_removeRest, 4, (some (FieldType.int))) := ⟨ma_T8 (i := 230) rfl rfl, rfl, ma_cio12⟩
theorem ma_mk201 : ma_mok (12, yX12_sizeOf, cX12_sizeOf, 2, (some (FieldType.int))) := ⟨ma_T8 (i := 234) rfl rfl, rfl, ma_cio12⟩
theorem ma_mk202 : ma_mok (12, yX12_uncountKept, cX12_uncountKept, 2, none) := ⟨ma_T8 (i := 238) rfl rfl, rfl, ma_cio12⟩
theorem ma_mk203 : ma_mok (12, yX12_remove, cX12_remove, 2, none) := ⟨ma_T9 (i := 2) rfl rfl, rfl, ma_cio12⟩
theorem ma_mk204 : ma_mok (12, yX12_slide, cX12_slide, 6, (some (FieldType.int))) := ⟨ma_T9 (i := 6) rfl rfl, rfl, ma_cio12⟩
theorem ma_mk205 : ma_mok (12, yX12_move, cX12_move, 3, none) := ⟨ma_T9 (i := 10) rfl rfl, rfl, ma_cio12⟩
theorem ma_mk206 : ma_mok (12, yX12_cleanHalves, cX12_cleanHalves, 2, (some (FieldType.int))) := ⟨ma_T9 (i := 14) rfl rfl, rfl, ma_cio12⟩
theorem ma_mk207 : ma_mok (12, yX12_come, cX12_come, 2, none) := ⟨ma_T9 (i := 18) rfl rfl, rfl, ma_cio12⟩
theorem ma_mk208 : ma_mok (12, yX12_comeAll, cX12_comeAll, 3, none) := ⟨ma_T9 (i := 22) rfl rfl, rfl, ma_cio12⟩
theorem ma_mk209 : ma_mok (12, yX12_comeWishers, cX12_comeWishers, 4, none) := ⟨ma_T9 (i := 26) rfl rfl, rfl, ma_cio12⟩
theorem ma_mk210 : ma_mok (12, yX12_findInYoung, cX12_findInYoung, 4, (some (FieldType.int))) := ⟨ma_T9 (i := 30) rfl rfl, rfl, ma_cio12⟩
theorem ma_mk211 : ma_mok (12, yX12_major, cX12_major, 2, (some (FieldType.int))) := ⟨ma_T9 (i := 34) rfl rfl, rfl, ma_cio12⟩
theorem ma_mk212 : ma_mok (12, yX12_findDirty, cX12_findDirty, 4, none) := ⟨ma_T9 (i := 38) rfl rfl, rfl, ma_cio12⟩
theorem ma_mk213 : ma_mok (12, yX12_cardOf, cX12_cardOf, 3, (some (FieldType.int))) := ⟨ma_T9 (i := 42) rfl rfl, rfl, ma_cio12⟩
theorem ma_mk214 : ma_mok (12, yX12_minor, cX12_minor, 4, (some (FieldType.int))) := ⟨ma_T9 (i := 46) rfl rfl, rfl, ma_cio12⟩
theorem ma_mk215 : ma_mok (12, yX12_isOldFull, cX12_isOldFull, 3, (some (FieldType.boolean))) := ⟨ma_T9 (i := 50) rfl rfl, rfl, ma_cio12⟩
theorem ma_mk216 : ma_mok (12, yX12_comeDirty, cX12_comeDirty, 5, none) := ⟨ma_T9 (i := 54) rfl rfl, rfl, ma_cio12⟩
theorem ma_mk217 : ma_mok (12, yX12_findInSteps, cX12_findInSteps, 5, (some (FieldType.int))) := ⟨ma_T9 (i := 58) rfl rfl, rfl, ma_cio12⟩
theorem ma_mk218 : ma_mok (12, yX12_freeWords, cX12_freeWords, 1, (some (FieldType.int))) := ⟨ma_T9 (i := 62) rfl rfl, rfl, ma_cio12⟩
theorem ma_mk219 : ma_mok (12, yX12_beginMarking, cX12_beginMarking, 2, none) := ⟨ma_T9 (i := 66) rfl rfl, rfl, ma_cio12⟩
theorem ma_mk220 : ma_mok (12, yX12_greyRoots, cX12_greyRoots, 4, none) := ⟨ma_T9 (i := 70) rfl rfl, rfl, ma_cio12⟩
theorem ma_mk221 : ma_mok (12, yX12_toGrey, cX12_toGrey, 2, none) := ⟨ma_T9 (i := 74) rfl rfl, rfl, ma_cio12⟩
theorem ma_mk222 : ma_mok (12, yX12_steps, cX12_steps, 5, (some (FieldType.int))) := ⟨ma_T9 (i := 78) rfl rfl, rfl, ma_cio12⟩
theorem ma_mk223 : ma_mok (12, yX12_lookEmpty, cX12_lookEmpty, 2, (some (FieldType.int))) := ⟨ma_T9 (i := 82) rfl rfl, rfl, ma_cio12⟩
theorem ma_mk224 : ma_mok (12, yX12_find, cX12_find, 5, (some (FieldType.int))) := ⟨ma_T9 (i := 86) rfl rfl, rfl, ma_cio12⟩
theorem ma_mk225 : ma_mok (12, yX12_firstFit, cX12_firstFit, 5, (some (FieldType.int))) := ⟨ma_T9 (i := 90) rfl rfl, rfl, ma_cio12⟩
theorem ma_mk226 : ma_mok (12, yX12_blockFrom, cX12_blockFrom, 5, (some (FieldType.int))) := ⟨ma_T9 (i := 94) rfl rfl, rfl, ma_cio12⟩
theorem ma_mk227 : ma_mok (12, yX12_startOf, cX12_startOf, 3, (some (FieldType.int))) := ⟨ma_T9 (i := 98) rfl rfl, rfl, ma_cio12⟩
theorem ma_mk228 : ma_mok (12, yX12_firstFitAhead, cX12_firstFitAhead, 4, (some (FieldType.int))) := ⟨ma_T9 (i := 102) rfl rfl, rfl, ma_cio12⟩
theorem ma_mk229 : ma_mok (12, yX12_whole, cX12_whole, 1, (some (FieldType.int))) := ⟨ma_T9 (i := 106) rfl rfl, rfl, ma_cio12⟩
theorem ma_mk230 : ma_mok (12, yX12_finish, cX12_finish, 3, (some (FieldType.int))) := ⟨ma_T9 (i := 110) rfl rfl, rfl, ma_cio12⟩
theorem ma_mk231 : ma_mok (12, yX12_findInRegions, cX12_findInRegions, 4, (some (FieldType.int))) := ⟨ma_T9 (i := 114) rfl rfl, rfl, ma_cio12⟩
theorem ma_mk232 : ma_mok (12, yX12_findInRegion, cX12_findInRegion, 3, (some (FieldType.int))) := ⟨ma_T9 (i := 118) rfl rfl, rfl, ma_cio12⟩
theorem ma_mk233 : ma_mok (12, yX12_emptyRegions, cX12_emptyRegions, 3, (some (FieldType.int))) := ⟨ma_T9 (i := 122) rfl rfl, rfl, ma_cio12⟩
theorem ma_mk234 : ma_mok (12, yX12_leastEmpty, cX12_leastEmpty, 2, (some (FieldType.int))) := ⟨ma_T9 (i := 126) rfl rfl, rfl, ma_cio12⟩
theorem ma_mk235 : ma_mok (12, yX12_cleanRegions, cX12_cleanRegions, 10, (some (FieldType.int))) := ⟨ma_T9 (i := 130) rfl rfl, rfl, ma_cio12⟩
theorem ma_mk236 : ma_mok (12, yX12_sparse, cX12_sparse, 3, (some (FieldType.int))) := ⟨ma_T9 (i := 134) rfl rfl, rfl, ma_cio12⟩
theorem ma_mk237 : ma_mok (12, yX12_findByForm, cX12_findByForm, 4, (some (FieldType.int))) := ⟨ma_T9 (i := 138) rfl rfl, rfl, ma_cio12⟩
theorem ma_mk238 : ma_mok (12, yX12_setRoot, cX12_setRoot, 4, none) := ⟨ma_T9 (i := 142) rfl rfl, rfl, ma_cio12⟩
theorem ma_mk239 : ma_mok (12, yX12_more, cX12_more, 2, none) := ⟨ma_T9 (i := 146) rfl rfl, rfl, ma_cio12⟩
theorem ma_mk240 : ma_mok (12, yX12_changes, cX12_changes, 3, none) := ⟨ma_T9 (i := 150) rfl rfl, rfl, ma_cio12⟩
theorem ma_mk241 : ma_mok (12, yX12_less, cX12_less, 5, none) := ⟨ma_T9 (i := 154) rfl rfl, rfl, ma_cio12⟩
theorem ma_mk242 : ma_mok (12, yX12_fall, cX12_fall, 2, none) := ⟨ma_T9 (i := 158) rfl rfl, rfl, ma_cio12⟩
theorem ma_mk243 : ma_mok (12, yX12_row, cX12_row, 4, (some (FieldType.int))) := ⟨ma_T9 (i := 162) rfl rfl, rfl, ma_cio12⟩
theorem ma_mk244 : ma_mok (12, yX12_put, cX12_put, 6, (some (FieldType.int))) := ⟨ma_T9 (i := 166) rfl rfl, rfl, ma_cio12⟩
theorem ma_mk245 : ma_mok (12, yX12_reached, cX12_reached, 3, (some (FieldType.int))) := ⟨ma_T9 (i := 170) rfl rfl, rfl, ma_cio12⟩
theorem ma_mk246 : ma_mok (12, yX12_placeOf, cX12_placeOf, 3, (some (FieldType.int))) := ⟨ma_T9 (i := 174) rfl rfl, rfl, ma_cio12⟩
theorem ma_mk247 : ma_mok (12, yX12_link, cX12_link, 9, (some (FieldType.int))) := ⟨ma_T9 (i := 178) rfl rfl, rfl, ma_cio12⟩
theorem ma_mk248 : ma_mok (12, yX12_numberOf, cX12_numberOf, 2, (some (FieldType.int))) := ⟨ma_T9 (i := 182) rfl rfl, rfl, ma_cio12⟩
theorem ma_mk249 : ma_mok (12, yX12_get, cX12_get, 4, (some (FieldType.int))) := ⟨ma_T9 (i := 186) rfl rfl, rfl, ma_cio12⟩
theorem ma_mk250 : ma_mok (12, yX12_root, cX12_root, 5, (some (FieldType.int))) := ⟨ma_T9 (i := 190) rfl rfl, rfl, ma_cio12⟩
theorem ma_mk251 : ma_mok (12, yX12_weak, cX12_weak, 5, (some (FieldType.int))) := ⟨ma_T9 (i := 194) rfl rfl, rfl, ma_cio12⟩
theorem ma_mk252 : ma_mok (12, yX12_strong, cX12_strong, 4, (some (FieldType.int))) := ⟨ma_T9 (i := 198) rfl rfl, rfl, ma_cio12⟩
theorem ma_mk253 : ma_mok (12, yX12_hold, cX12_hold, 5, (some (FieldType.int))) := ⟨ma_T9 (i := 202) rfl rfl, rfl, ma_cio12⟩
theorem ma_mk254 : ma_mok (12, yX12_wish, cX12_wish, 4, (some (FieldType.int))) := ⟨ma_T9 (i := 206) rfl rfl, rfl, ma_cio12⟩
theorem ma_mk255 : ma_mok (12, yX12_granted, cX12_granted, 4, (some (FieldType.int))) := ⟨ma_T9 (i := 210) rfl rfl, rfl, ma_cio12⟩
theorem ma_mk256 : ma_mok (12, yX12_clean, cX12_clean, 2, (some (FieldType.int))) := ⟨ma_T9 (i := 214) rfl rfl, rfl, ma_cio12⟩
theorem ma_mk257 : ma_mok (12, yX12_step, cX12_step, 4, (some (FieldType.int))) := ⟨ma_T9 (i := 218) rfl rfl, rfl, ma_cio12⟩
theorem ma_mk258 : ma_mok (12, yX12_about, cX12_about, 4, (some (FieldType.int))) := ⟨ma_T9 (i := 222) rfl rfl, rfl, ma_cio12⟩
theorem ma_mk259 : ma_mok (12, yX12_block, cX12_block, 6, (some (FieldType.int))) := ⟨ma_T9 (i := 226) rfl rfl, rfl, ma_cio12⟩
theorem ma_mk260 : ma_mok (12, yX12_count, cX12_count, 2, (some (FieldType.int))) := ⟨ma_T9 (i := 230) rfl rfl, rfl, ma_cio12⟩
theorem ma_mk261 : ma_mok (12, yX12_dirtyCards, cX12_dirtyCards, 3, (some (FieldType.int))) := ⟨ma_T9 (i := 234) rfl rfl, rfl, ma_cio12⟩
theorem ma_mk262 : ma_mok (13, yX1_init, cX1_init, 3, none) := ⟨ma_T1 (i := 143) rfl rfl, rfl, ma_cio13⟩
theorem ma_mk263 : ma_mok (13, yX1_slideDown, cX1_slideDown, 5, (some (FieldType.int))) := ⟨ma_T4 (i := 32) rfl rfl, rfl, ma_cio13⟩
theorem ma_mk264 : ma_mok (13, yX1_removeUnreached, cX1_removeUnreached, 1, (some (FieldType.int))) := ⟨ma_T4 (i := 177) rfl rfl, rfl, ma_cio13⟩
theorem ma_mk265 : ma_mok (13, yX1_noteChange, cX1_noteChange, 3, none) := ⟨ma_T5 (i := 179) rfl rfl, rfl, ma_cio13⟩
theorem ma_mk266 : ma_mok (13, yX1_noteFewer, cX1_noteFewer, 2, none) := ⟨ma_T5 (i := 213) rfl rfl, rfl, ma_cio13⟩
theorem ma_mk267 : ma_mok (13, yX1_noteReference, cX1_noteReference, 4, none) := ⟨ma_T6 (i := 53) rfl rfl, rfl, ma_cio13⟩
theorem ma_mk268 : ma_mok (13, yX1_noteStrong, cX1_noteStrong, 2, none) := ⟨ma_T6 (i := 99) rfl rfl, rfl, ma_cio13⟩
theorem ma_mk269 : ma_mok (13, yX1_canHold, cX1_canHold, 2, (some (FieldType.boolean))) := ⟨ma_T6 (i := 122) rfl rfl, rfl, ma_cio13⟩
theorem ma_mk270 : ma_mok (13, yX1_countOf, cX1_countOf, 2, (some (FieldType.int))) := ⟨ma_T6 (i := 206) rfl rfl, rfl, ma_cio13⟩
theorem ma_mk271 : ma_mok (13, yX1_colourOf, cX1_colourOf, 2, (some (FieldType.int))) := ⟨ma_T6 (i := 220) rfl rfl, rfl, ma_cio13⟩
theorem ma_mk272 : ma_mok (13, yX1_specials, cX1_specials, 1, (some (FieldType.int))) := ⟨ma_T7 (i := 17) rfl rfl, rfl, ma_cio13⟩
theorem ma_mk273 : ma_mok (13, yX1_topPlace, cX1_topPlace, 1, (some (FieldType.int))) := ⟨ma_T7 (i := 34) rfl rfl, rfl, ma_cio13⟩
theorem ma_mk274 : ma_mok (13, yX1_isMarking, cX1_isMarking, 1, (some (FieldType.boolean))) := ⟨ma_T7 (i := 47) rfl rfl, rfl, ma_cio13⟩
theorem ma_mk275 : ma_mok (13, yX1_oldTopOrRegion, cX1_oldTopOrRegion, 1, (some (FieldType.int))) := ⟨ma_T7 (i := 62) rfl rfl, rfl, ma_cio13⟩
theorem ma_mk276 : ma_mok (15, yJ7_fill_53178, cJ7_fill_53178, 4, none) := ⟨ma_T2 (i := 235) rfl rfl, rfl, ma_cio15⟩
theorem ma_mk277 : ma_mok (17, yJ0_length_8abf5, cJ0_length_8abf5, 1, (some (FieldType.int))) := ⟨ma_T2 (i := 144) rfl rfl, rfl, ma_cio17⟩
theorem ma_mk278 : ma_mok (17, yJ0_coder_7d493, cJ0_coder_7d493, 1, (some (FieldType.byte))) := ⟨ma_T2 (i := 148) rfl rfl, rfl, ma_cio17⟩
theorem ma_mk279 : ma_mok (17, yJ0_charAt_5068e, cJ0_charAt_5068e, 2, (some (FieldType.char))) := ⟨ma_T2 (i := 154) rfl rfl, rfl, ma_cio17⟩
theorem ma_mk280 : ma_mok (17, yJ0_isLatin1_aae02, cJ0_isLatin1_aae02, 1, (some (FieldType.boolean))) := ⟨ma_T2 (i := 158) rfl rfl, rfl, ma_cio17⟩
theorem ma_mk281 : ma_mok (17, yJ0_checkIndex_df160, cJ0_checkIndex_df160, 2, none) := ⟨ma_T2 (i := 164) rfl rfl, rfl, ma_cio17⟩
theorem ma_mk282 : ma_mok (18, yJ1_charAt_3b067, cJ1_charAt_3b067, 2, (some (FieldType.char))) := ⟨ma_T2 (i := 161) rfl rfl, rfl, ma_cio18⟩
theorem ma_mk283 : ma_mok (19, yJ3_checkIndex_8e157, cJ3_checkIndex_8e157, 3, (some (FieldType.int))) := ⟨ma_T2 (i := 169) rfl rfl, rfl, ma_cio19⟩
def ma_mdh_0 : List (Nat × MethodName × ByteArray × Nat × Option FieldType) := [(1, yX0_init, cX0_init, 3, none), (1, yX0_open, cX0_open, 2, none), (1, yX0_total, cX0_total, 1, (some (FieldType.int))), (1, yX0_findRoom, cX0_findRoom, 2, (some (FieldType.int))), (1, yX0_findOldRoom, cX0_findOldRoom, 2, (some (FieldType.int))), (1, yX0_cleanOld, cX0_cleanOld, 2, (some (FieldType.int))), (1, yX0_findDirty, cX0_findDirty, 4, none), (1, yX0_isYoung, cX0_isYoung, 2, (some (FieldType.boolean))), (1, yX0_noteReference, cX0_noteReference, 5, none), (1, yX0_cardOf, cX0_cardOf, 3, (some (FieldType.int))), (1, yX0_hasYoungRoom, cX0_hasYoungRoom, 2, (some (FieldType.boolean))), (1, yX0_cleanYoung, cX0_cleanYoung, 2, (some (FieldType.int))), (1, yX0_wordsGrowingOld, cX0_wordsGrowingOld, 4, (some (FieldType.int))), (1, yX0_comeFromDirty, cX0_comeFromDirty, 3, none), (1, yX0_comeFromDirtyWords, cX0_comeFromDirtyWords, 4, none), (1, yX0_moveKept, cX0_moveKept, 3, none), (1, yX0_moveOlder, cX0_moveOlder, 2, none), (1, yX0_noteMade, cX0_noteMade, 2, none), (1, yX0_canHold, cX0_canHold, 2, (some (FieldType.boolean))), (1, yX0_cleanAll, cX0_cleanAll, 2, (some (FieldType.int)))]
theorem ma_mdh_ok0 : ∀ q ∈ ma_mdh_0, ma_mok q := List.forall_mem_cons.mpr ⟨ma_mk0, List.forall_mem_cons.mpr ⟨ma_mk1, List.forall_mem_cons.mpr ⟨ma_mk2, List.forall_mem_cons.mpr ⟨ma_mk3, List.forall_mem_cons.mpr ⟨ma_mk4, List.forall_mem_cons.mpr ⟨ma_mk5, List.forall_mem_cons.mpr ⟨ma_mk6, List.forall_mem_cons.mpr ⟨ma_mk7, List.forall_mem_cons.mpr ⟨ma_mk8, List.forall_mem_cons.mpr ⟨ma_mk9, List.forall_mem_cons.mpr ⟨ma_mk10, List.forall_mem_cons.mpr ⟨ma_mk11, List.forall_mem_cons.mpr ⟨ma_mk12, List.forall_mem_cons.mpr ⟨ma_mk13, List.forall_mem_cons.mpr ⟨ma_mk14, List.forall_mem_cons.mpr ⟨ma_mk15, List.forall_mem_cons.mpr ⟨ma_mk16, List.forall_mem_cons.mpr ⟨ma_mk17, List.forall_mem_cons.mpr ⟨ma_mk18, List.forall_mem_cons.mpr ⟨ma_mk19, List.forall_mem_nil _⟩⟩⟩⟩⟩⟩⟩⟩⟩⟩⟩⟩⟩⟩⟩⟩⟩⟩⟩⟩
def ma_mdh_1 : List (Nat × MethodName × ByteArray × Nat × Option FieldType) := [(1, yX0_specials, cX0_specials, 3, (some (FieldType.int))), (1, yX0_topPlace, cX0_topPlace, 1, (some (FieldType.int))), (1, yX0_oldTopOrRegion, cX0_oldTopOrRegion, 1, (some (FieldType.int))), (2, yX2_init, cX2_init, 3, none), (2, yX2_noteFewer, cX2_noteFewer, 5, none), (2, yX2_fallIfUncounted, cX2_fallIfUncounted, 2, none), (2, yX2_dropWord, cX2_dropWord, 3, none), (2, yX2_countOf, cX2_countOf, 2, (some (FieldType.int))), (3, yX3_init, cX3_init, 3, none), (3, yX3_open, cX3_open, 2, none), (3, yX3_total, cX3_total, 1, (some (FieldType.int))), (3, yX3_findRoom, cX3_findRoom, 2, (some (FieldType.int))), (3, yX3_hasRoom, cX3_hasRoom, 2, (some (FieldType.boolean))), (3, yX3_cleanAll, cX3_cleanAll, 4, (some (FieldType.int))), (3, yX3_noteMade, cX3_noteMade, 2, none), (3, yX3_canHold, cX3_canHold, 2, (some (FieldType.boolean))), (3, yX3_topPlace, cX3_topPlace, 1, (some (FieldType.int))), (4, yX4_init, cX4_init, 3, none), (4, yX4_open, cX4_open, 2, none), (4, yX4_total, cX4_total, 1, (some (FieldType.int)))]
theorem ma_mdh_ok1 : ∀ q ∈ ma_mdh_1, ma_mok q := List.forall_mem_cons.mpr ⟨ma_mk20, List.forall_mem_cons.mpr ⟨ma_mk21, List.forall_mem_cons.mpr ⟨ma_mk22, List.forall_mem_cons.mpr ⟨ma_mk23, List.forall_mem_cons.mpr ⟨ma_mk24, List.forall_mem_cons.mpr ⟨ma_mk25, List.forall_mem_cons.mpr ⟨ma_mk26, List.forall_mem_cons.mpr ⟨ma_mk27, List.forall_mem_cons.mpr ⟨ma_mk28, List.forall_mem_cons.mpr ⟨ma_mk29, List.forall_mem_cons.mpr ⟨ma_mk30, List.forall_mem_cons.mpr ⟨ma_mk31, List.forall_mem_cons.mpr ⟨ma_mk32, List.forall_mem_cons.mpr ⟨ma_mk33, List.forall_mem_cons.mpr ⟨ma_mk34, List.forall_mem_cons.mpr ⟨ma_mk35, List.forall_mem_cons.mpr ⟨ma_mk36, List.forall_mem_cons.mpr ⟨ma_mk37, List.forall_mem_cons.mpr ⟨ma_mk38, List.forall_mem_cons.mpr ⟨ma_mk39, List.forall_mem_nil _⟩⟩⟩⟩⟩⟩⟩⟩⟩⟩⟩⟩⟩⟩⟩⟩⟩⟩⟩⟩
def ma_mdh_2 : List (Nat × MethodName × ByteArray × Nat × Option FieldType) := [(4, yX4_findRoom, cX4_findRoom, 2, (some (FieldType.int))), (4, yX4_fits, cX4_fits, 3, (some (FieldType.boolean))), (4, yX4_specials, cX4_specials, 3, (some (FieldType.int))), (4, yX4_cleanAll, cX4_cleanAll, 4, (some (FieldType.int))), (4, yX4_sumKept, cX4_sumKept, 3, none), (4, yX4_regionOf, cX4_regionOf, 2, (some (FieldType.int))), (4, yX4_emptyWhereNothingIsLeft, cX4_emptyWhereNothingIsLeft, 2, none), (4, yX4_chooseLeaving, cX4_chooseLeaving, 3, none), (4, yX4_fewestLeaving, cX4_fewestLeaving, 3, (some (FieldType.int))), (4, yX4_moveAll, cX4_moveAll, 5, (some (FieldType.boolean))), (4, yX4_topOf, cX4_topOf, 2, (some (FieldType.int))), (4, yX4_moveOut, cX4_moveOut, 3, (some (FieldType.boolean))), (4, yX4_leastEmpty, cX4_leastEmpty, 2, (some (FieldType.int))), (4, yX4_raiseTop, cX4_raiseTop, 3, none), (4, yX4_orElse, cX4_orElse, 2, (some (FieldType.int))), (4, yX4_topPlace, cX4_topPlace, 1, (some (FieldType.int))), (4, yX4_noteMade, cX4_noteMade, 2, none), (4, yX4_oldTopOrRegion, cX4_oldTopOrRegion, 1, (some (FieldType.int))), (5, yX5_init, cX5_init, 3, none), (5, yX5_open, cX5_open, 2, none)]
theorem ma_mdh_ok2 : ∀ q ∈ ma_mdh_2, ma_mok q := List.forall_mem_cons.mpr ⟨ma_mk40, List.forall_mem_cons.mpr ⟨ma_mk41, List.forall_mem_cons.mpr ⟨ma_mk42, List.forall_mem_cons.mpr ⟨ma_mk43, List.forall_mem_cons.mpr ⟨ma_mk44, List.forall_mem_cons.mpr ⟨ma_mk45, List.forall_mem_cons.mpr ⟨ma_mk46, List.forall_mem_cons.mpr ⟨ma_mk47, List.forall_mem_cons.mpr ⟨ma_mk48, List.forall_mem_cons.mpr ⟨ma_mk49, List.forall_mem_cons.mpr ⟨ma_mk50, List.forall_mem_cons.mpr ⟨ma_mk51, List.forall_mem_cons.mpr ⟨ma_mk52, List.forall_mem_cons.mpr ⟨ma_mk53, List.forall_mem_cons.mpr ⟨ma_mk54, List.forall_mem_cons.mpr ⟨ma_mk55, List.forall_mem_cons.mpr ⟨ma_mk56, List.forall_mem_cons.mpr ⟨ma_mk57, List.forall_mem_cons.mpr ⟨ma_mk58, List.forall_mem_cons.mpr ⟨ma_mk59, List.forall_mem_nil _⟩⟩⟩⟩⟩⟩⟩⟩⟩⟩⟩⟩⟩⟩⟩⟩⟩⟩⟩⟩
def ma_mdh_3 : List (Nat × MethodName × ByteArray × Nat × Option FieldType) := [(5, yX5_total, cX5_total, 1, (some (FieldType.int))), (5, yX5_findRoom, cX5_findRoom, 2, (some (FieldType.int))), (5, yX5_cleanAll, cX5_cleanAll, 2, (some (FieldType.int))), (5, yX5_noteMade, cX5_noteMade, 2, none), (5, yX5_topPlace, cX5_topPlace, 1, (some (FieldType.int))), (6, yX6_init, cX6_init, 3, none), (6, yX6_open, cX6_open, 2, none), (6, yX6_cleanAll, cX6_cleanAll, 2, (some (FieldType.int))), (6, yX6_begin, cX6_begin, 1, none), (6, yX6_newsCame, cX6_newsCame, 1, (some (FieldType.boolean))), (6, yX6_finish, cX6_finish, 1, (some (FieldType.int))), (6, yX6_findRoom, cX6_findRoom, 4, (some (FieldType.int))), (6, yX6_goOn, cX6_goOn, 3, (some (FieldType.int))), (6, yX6_noteMade, cX6_noteMade, 2, none), (6, yX6_noteChange, cX6_noteChange, 3, none), (6, yX6_noteStrong, cX6_noteStrong, 2, none), (6, yX6_colourOf, cX6_colourOf, 2, (some (FieldType.int))), (6, yX6_specials, cX6_specials, 1, (some (FieldType.int))), (6, yX6_isMarking, cX6_isMarking, 1, (some (FieldType.boolean))), (7, yX7_init, cX7_init, 1, none)]
theorem ma_mdh_ok3 : ∀ q ∈ ma_mdh_3, ma_mok q := List.forall_mem_cons.mpr ⟨ma_mk60, List.forall_mem_cons.mpr ⟨ma_mk61, List.forall_mem_cons.mpr ⟨ma_mk62, List.forall_mem_cons.mpr ⟨ma_mk63, List.forall_mem_cons.mpr ⟨ma_mk64, List.forall_mem_cons.mpr ⟨ma_mk65, List.forall_mem_cons.mpr ⟨ma_mk66, List.forall_mem_cons.mpr ⟨ma_mk67, List.forall_mem_cons.mpr ⟨ma_mk68, List.forall_mem_cons.mpr ⟨ma_mk69, List.forall_mem_cons.mpr ⟨ma_mk70, List.forall_mem_cons.mpr ⟨ma_mk71, List.forall_mem_cons.mpr ⟨ma_mk72, List.forall_mem_cons.mpr ⟨ma_mk73, List.forall_mem_cons.mpr ⟨ma_mk74, List.forall_mem_cons.mpr ⟨ma_mk75, List.forall_mem_cons.mpr ⟨ma_mk76, List.forall_mem_cons.mpr ⟨ma_mk77, List.forall_mem_cons.mpr ⟨ma_mk78, List.forall_mem_cons.mpr ⟨ma_mk79, List.forall_mem_nil _⟩⟩⟩⟩⟩⟩⟩⟩⟩⟩⟩⟩⟩⟩⟩⟩⟩⟩⟩⟩
def ma_mdh_4 : List (Nat × MethodName × ByteArray × Nat × Option FieldType) := [(7, yX7_forgetAll, cX7_forgetAll, 2, none), (7, yX7_thingAt, cX7_thingAt, 2, (some (FieldType.object "CollectorHouse$Thing"))), (7, yX7_referenceOf, cX7_referenceOf, 6, (some (FieldType.object "CollectorHouse$Thing"))), (7, yX7_grantWishes, cX7_grantWishes, 4, none), (7, yX7_grant, cX7_grant, 2, none), (7, yX7_clearWeak, cX7_clearWeak, 3, none), (7, yX7_removeOthers, cX7_removeOthers, 5, (some (FieldType.int))), (7, yX7_remove, cX7_remove, 4, none), (7, yX7_freeWords, cX7_freeWords, 4, none), (7, yX7_thingFrom, cX7_thingFrom, 3, (some (FieldType.object "CollectorHouse$Thing"))), (7, yX7_move, cX7_move, 5, none), (7, yX7_add, cX7_add, 4, none), (7, yX7_changeRoot, cX7_changeRoot, 4, (some (FieldType.object "CollectorHouse$Thing"))), (7, yX7_changeCounts, cX7_changeCounts, 2, none), (7, yX7_changeReference, cX7_changeReference, 5, (some (FieldType.object "CollectorHouse$Thing"))), (7, yX7_changeInt, cX7_changeInt, 6, (some (FieldType.int))), (7, yX7_wordOf, cX7_wordOf, 4, (some (FieldType.int))), (7, yX7_changeHolds, cX7_changeHolds, 3, none), (7, yX7_takeWish, cX7_takeWish, 3, (some (FieldType.object "CollectorHouse$Thing"))), (8, yX8_init, cX8_init, 3, none)]
theorem ma_mdh_ok4 : ∀ q ∈ ma_mdh_4, ma_mok q := List.forall_mem_cons.mpr ⟨ma_mk80, List.forall_mem_cons.mpr ⟨ma_mk81, List.forall_mem_cons.mpr ⟨ma_mk82, List.forall_mem_cons.mpr ⟨ma_mk83, List.forall_mem_cons.mpr ⟨ma_mk84, List.forall_mem_cons.mpr ⟨ma_mk85, List.forall_mem_cons.mpr ⟨ma_mk86, List.forall_mem_cons.mpr ⟨ma_mk87, List.forall_mem_cons.mpr ⟨ma_mk88, List.forall_mem_cons.mpr ⟨ma_mk89, List.forall_mem_cons.mpr ⟨ma_mk90, List.forall_mem_cons.mpr ⟨ma_mk91, List.forall_mem_cons.mpr ⟨ma_mk92, List.forall_mem_cons.mpr ⟨ma_mk93, List.forall_mem_cons.mpr ⟨ma_mk94, List.forall_mem_cons.mpr ⟨ma_mk95, List.forall_mem_cons.mpr ⟨ma_mk96, List.forall_mem_cons.mpr ⟨ma_mk97, List.forall_mem_cons.mpr ⟨ma_mk98, List.forall_mem_cons.mpr ⟨ma_mk99, List.forall_mem_nil _⟩⟩⟩⟩⟩⟩⟩⟩⟩⟩⟩⟩⟩⟩⟩⟩⟩⟩⟩⟩
def ma_mdh_5 : List (Nat × MethodName × ByteArray × Nat × Option FieldType) := [(8, yX8_open, cX8_open, 2, none), (8, yX8_total, cX8_total, 1, (some (FieldType.int))), (8, yX8_findRoom, cX8_findRoom, 3, (some (FieldType.int))), (8, yX8_fit, cX8_fit, 2, (some (FieldType.int))), (8, yX8_fitFirst, cX8_fitFirst, 7, (some (FieldType.int))), (8, yX8_freeFrom, cX8_freeFrom, 4, (some (FieldType.int))), (8, yX8_freeEnd, cX8_freeEnd, 3, (some (FieldType.int))), (8, yX8_fitNext, cX8_fitNext, 3, (some (FieldType.int))), (8, yX8_fitByLength, cX8_fitByLength, 9, (some (FieldType.int))), (8, yX8_cleanAll, cX8_cleanAll, 1, (some (FieldType.int))), (8, yX8_noteMade, cX8_noteMade, 2, none), (8, yX8_blockPlace, cX8_blockPlace, 4, (some (FieldType.int))), (9, yX9_init, cX9_init, 7, none), (9, yX9_isReference, cX9_isReference, 2, (some (FieldType.boolean))), (9, yX9_hasWord, cX9_hasWord, 2, (some (FieldType.boolean))), (10, yX10_init, cX10_init, 2, none), (10, yX10_reachAll, cX10_reachAll, 1, none), (10, yX10_restart, cX10_restart, 2, none), (10, yX10_comeFromRoots, cX10_comeFromRoots, 3, none), (10, yX10_comes, cX10_comes, 2, none)]
theorem ma_mdh_ok5 : ∀ q ∈ ma_mdh_5, ma_mok q := List.forall_mem_cons.mpr ⟨ma_mk100, List.forall_mem_cons.mpr ⟨ma_mk101, List.forall_mem_cons.mpr ⟨ma_mk102, List.forall_mem_cons.mpr ⟨ma_mk103, List.forall_mem_cons.mpr ⟨ma_mk104, List.forall_mem_cons.mpr ⟨ma_mk105, List.forall_mem_cons.mpr ⟨ma_mk106, List.forall_mem_cons.mpr ⟨ma_mk107, List.forall_mem_cons.mpr ⟨ma_mk108, List.forall_mem_cons.mpr ⟨ma_mk109, List.forall_mem_cons.mpr ⟨ma_mk110, List.forall_mem_cons.mpr ⟨ma_mk111, List.forall_mem_cons.mpr ⟨ma_mk112, List.forall_mem_cons.mpr ⟨ma_mk113, List.forall_mem_cons.mpr ⟨ma_mk114, List.forall_mem_cons.mpr ⟨ma_mk115, List.forall_mem_cons.mpr ⟨ma_mk116, List.forall_mem_cons.mpr ⟨ma_mk117, List.forall_mem_cons.mpr ⟨ma_mk118, List.forall_mem_cons.mpr ⟨ma_mk119, List.forall_mem_nil _⟩⟩⟩⟩⟩⟩⟩⟩⟩⟩⟩⟩⟩⟩⟩⟩⟩⟩⟩⟩
def ma_mdh_6 : List (Nat × MethodName × ByteArray × Nat × Option FieldType) := [(10, yX10_spread, cX10_spread, 5, (some (FieldType.int))), (10, yX10_blacken, cX10_blacken, 2, none), (10, yX10_keeps, cX10_keeps, 2, (some (FieldType.boolean))), (10, yX10_colourOf, cX10_colourOf, 2, (some (FieldType.int))), (10, yX10_thingInQueue, cX10_thingInQueue, 2, (some (FieldType.object "CollectorHouse$Thing"))), (10, yX10_isEmpty, cX10_isEmpty, 1, (some (FieldType.boolean))), (11, yX11_init, cX11_init, 1, none), (11, yX11_heap, cX11_heap, 2, (some (FieldType.int))), (11, yX11_readPolicy, cX11_readPolicy, 4, (some (FieldType.int))), (11, yX11_nextToken, cX11_nextToken, 2, (some (FieldType.boolean))), (11, yX11_policyToken, cX11_policyToken, 1, (some (FieldType.int))), (11, yX11_tokenIs, cX11_tokenIs, 3, (some (FieldType.boolean))), (11, yX11_partsOf, cX11_partsOf, 1, (some (FieldType.object "java/lang/String"))), (11, yX11_partToken, cX11_partToken, 2, (some (FieldType.int))), (11, yX11_numberToken, cX11_numberToken, 6, (some (FieldType.int))), (11, yX11_formToken, cX11_formToken, 1, (some (FieldType.int))), (11, yX11_barrierToken, cX11_barrierToken, 1, (some (FieldType.int))), (11, yX11_feed, cX11_feed, 6, (some (FieldType.int))), (11, yX11_addBytes, cX11_addBytes, 3, none), (11, yX11_end, cX11_end, 2, (some (FieldType.int)))]
theorem ma_mdh_ok6 : ∀ q ∈ ma_mdh_6, ma_mok q := List.forall_mem_cons.mpr ⟨ma_mk120, List.forall_mem_cons.mpr ⟨ma_mk121, List.forall_mem_cons.mpr ⟨ma_mk122, List.forall_mem_cons.mpr ⟨ma_mk123, List.forall_mem_cons.mpr ⟨ma_mk124, List.forall_mem_cons.mpr ⟨ma_mk125, List.forall_mem_cons.mpr ⟨ma_mk126, List.forall_mem_cons.mpr ⟨ma_mk127, List.forall_mem_cons.mpr ⟨ma_mk128, List.forall_mem_cons.mpr ⟨ma_mk129, List.forall_mem_cons.mpr ⟨ma_mk130, List.forall_mem_cons.mpr ⟨ma_mk131, List.forall_mem_cons.mpr ⟨ma_mk132, List.forall_mem_cons.mpr ⟨ma_mk133, List.forall_mem_cons.mpr ⟨ma_mk134, List.forall_mem_cons.mpr ⟨ma_mk135, List.forall_mem_cons.mpr ⟨ma_mk136, List.forall_mem_cons.mpr ⟨ma_mk137, List.forall_mem_cons.mpr ⟨ma_mk138, List.forall_mem_cons.mpr ⟨ma_mk139, List.forall_mem_nil _⟩⟩⟩⟩⟩⟩⟩⟩⟩⟩⟩⟩⟩⟩⟩⟩⟩⟩⟩⟩
def ma_mdh_7 : List (Nat × MethodName × ByteArray × Nat × Option FieldType) := [(11, yX11_kind, cX11_kind, 3, (some (FieldType.int))), (11, yX11_make, cX11_make, 3, (some (FieldType.int))), (11, yX11_isSlot, cX11_isSlot, 1, (some (FieldType.boolean))), (11, yX11_addObject, cX11_addObject, 9, (some (FieldType.int))), (11, yX11_needCollector, cX11_needCollector, 1, (some (FieldType.object "CollectorHouse$Collector"))), (11, yX11_changeRoot, cX11_changeRoot, 5, (some (FieldType.object "CollectorHouse$Thing"))), (11, yX11_numberOf, cX11_numberOf, 1, (some (FieldType.int))), (11, yX11_row, cX11_row, 4, (some (FieldType.int))), (11, yX11_put, cX11_put, 5, (some (FieldType.int))), (11, yX11_needReached, cX11_needReached, 3, (some (FieldType.object "CollectorHouse$Thing"))), (11, yX11_link, cX11_link, 8, (some (FieldType.int))), (11, yX11_needReachedOrNothing, cX11_needReachedOrNothing, 2, (some (FieldType.object "CollectorHouse$Thing"))), (11, yX11_get, cX11_get, 4, (some (FieldType.int))), (11, yX11_root, cX11_root, 5, (some (FieldType.int))), (11, yX11_weak, cX11_weak, 5, (some (FieldType.int))), (11, yX11_strong, cX11_strong, 5, (some (FieldType.int))), (11, yX11_hold, cX11_hold, 5, (some (FieldType.int))), (11, yX11_wish, cX11_wish, 4, (some (FieldType.int))), (11, yX11_granted, cX11_granted, 4, (some (FieldType.int))), (11, yX11_clean, cX11_clean, 1, (some (FieldType.int)))]
theorem ma_mdh_ok7 : ∀ q ∈ ma_mdh_7, ma_mok q := List.forall_mem_cons.mpr ⟨ma_mk140, List.forall_mem_cons.mpr ⟨ma_mk141, List.forall_mem_cons.mpr ⟨ma_mk142, List.forall_mem_cons.mpr ⟨ma_mk143, List.forall_mem_cons.mpr ⟨ma_mk144, List.forall_mem_cons.mpr ⟨ma_mk145, List.forall_mem_cons.mpr ⟨ma_mk146, List.forall_mem_cons.mpr ⟨ma_mk147, List.forall_mem_cons.mpr ⟨ma_mk148, List.forall_mem_cons.mpr ⟨ma_mk149, List.forall_mem_cons.mpr ⟨ma_mk150, List.forall_mem_cons.mpr ⟨ma_mk151, List.forall_mem_cons.mpr ⟨ma_mk152, List.forall_mem_cons.mpr ⟨ma_mk153, List.forall_mem_cons.mpr ⟨ma_mk154, List.forall_mem_cons.mpr ⟨ma_mk155, List.forall_mem_cons.mpr ⟨ma_mk156, List.forall_mem_cons.mpr ⟨ma_mk157, List.forall_mem_cons.mpr ⟨ma_mk158, List.forall_mem_cons.mpr ⟨ma_mk159, List.forall_mem_nil _⟩⟩⟩⟩⟩⟩⟩⟩⟩⟩⟩⟩⟩⟩⟩⟩⟩⟩⟩⟩
def ma_mdh_8 : List (Nat × MethodName × ByteArray × Nat × Option FieldType) := [(11, yX11_step, cX11_step, 4, (some (FieldType.int))), (11, yX11_about, cX11_about, 5, (some (FieldType.int))), (11, yX11_block, cX11_block, 5, (some (FieldType.int))), (11, yX11_count, cX11_count, 3, (some (FieldType.int))), (12, yX12_thrown, cX12_thrown, 1, (some (FieldType.int))), (12, yX12_init, cX12_init, 1, none), (12, yX12_feed, cX12_feed, 6, (some (FieldType.int))), (12, yX12_fails, cX12_fails, 2, (some (FieldType.boolean))), (12, yX12_four, cX12_four, 3, none), (12, yX12_end, cX12_end, 2, (some (FieldType.int))), (12, yX12_kind, cX12_kind, 4, (some (FieldType.int))), (12, yX12_heap, cX12_heap, 2, (some (FieldType.int))), (12, yX12_readPolicy, cX12_readPolicy, 1, (some (FieldType.boolean))), (12, yX12_token, cX12_token, 1, (some (FieldType.boolean))), (12, yX12_wrong, cX12_wrong, 2, (some (FieldType.boolean))), (12, yX12_is, cX12_is, 9, (some (FieldType.boolean))), (12, yX12_byteIs, cX12_byteIs, 3, (some (FieldType.boolean))), (12, yX12_number, cX12_number, 7, (some (FieldType.boolean))), (12, yX12_roomHere, cX12_roomHere, 1, (some (FieldType.boolean))), (12, yX12_form, cX12_form, 1, (some (FieldType.boolean)))]
theorem ma_mdh_ok8 : ∀ q ∈ ma_mdh_8, ma_mok q := List.forall_mem_cons.mpr ⟨ma_mk160, List.forall_mem_cons.mpr ⟨ma_mk161, List.forall_mem_cons.mpr ⟨ma_mk162, List.forall_mem_cons.mpr ⟨ma_mk163, List.forall_mem_cons.mpr ⟨ma_mk164, List.forall_mem_cons.mpr ⟨ma_mk165, List.forall_mem_cons.mpr ⟨ma_mk166, List.forall_mem_cons.mpr ⟨ma_mk167, List.forall_mem_cons.mpr ⟨ma_mk168, List.forall_mem_cons.mpr ⟨ma_mk169, List.forall_mem_cons.mpr ⟨ma_mk170, List.forall_mem_cons.mpr ⟨ma_mk171, List.forall_mem_cons.mpr ⟨ma_mk172, List.forall_mem_cons.mpr ⟨ma_mk173, List.forall_mem_cons.mpr ⟨ma_mk174, List.forall_mem_cons.mpr ⟨ma_mk175, List.forall_mem_cons.mpr ⟨ma_mk176, List.forall_mem_cons.mpr ⟨ma_mk177, List.forall_mem_cons.mpr ⟨ma_mk178, List.forall_mem_cons.mpr ⟨ma_mk179, List.forall_mem_nil _⟩⟩⟩⟩⟩⟩⟩⟩⟩⟩⟩⟩⟩⟩⟩⟩⟩⟩⟩⟩
def ma_mdh_9 : List (Nat × MethodName × ByteArray × Nat × Option FieldType) := [(12, yX12_empty, cX12_empty, 2, none), (12, yX12_make, cX12_make, 3, (some (FieldType.int))), (12, yX12_isNamed, cX12_isNamed, 2, (some (FieldType.boolean))), (12, yX12_fresh, cX12_fresh, 7, (some (FieldType.int))), (12, yX12_findRoom, cX12_findRoom, 4, (some (FieldType.int))), (12, yX12_findInHalf, cX12_findInHalf, 4, (some (FieldType.int))), (12, yX12_cleanSlide, cX12_cleanSlide, 2, (some (FieldType.int))), (12, yX12_sweep, cX12_sweep, 1, (some (FieldType.int))), (12, yX12_keepReached, cX12_keepReached, 2, none), (12, yX12_keepNone, cX12_keepNone, 2, none), (12, yX12_keep, cX12_keep, 2, none), (12, yX12_keepAll, cX12_keepAll, 3, none), (12, yX12_reference, cX12_reference, 3, (some (FieldType.int))), (12, yX12_isReference, cX12_isReference, 3, (some (FieldType.boolean))), (12, yX12_grantAll, cX12_grantAll, 3, none), (12, yX12_wisher, cX12_wisher, 5, (some (FieldType.int))), (12, yX12_isOld, cX12_isOld, 2, (some (FieldType.boolean))), (12, yX12_toWishes, cX12_toWishes, 2, none), (12, yX12_unweak, cX12_unweak, 3, none), (12, yX12_unweakRest, cX12_unweakRest, 2, none)]
theorem ma_mdh_ok9 : ∀ q ∈ ma_mdh_9, ma_mok q := List.forall_mem_cons.mpr ⟨ma_mk180, List.forall_mem_cons.mpr ⟨ma_mk181, List.forall_mem_cons.mpr ⟨ma_mk182, List.forall_mem_cons.mpr ⟨ma_mk183, List.forall_mem_cons.mpr ⟨ma_mk184, List.forall_mem_cons.mpr ⟨ma_mk185, List.forall_mem_cons.mpr ⟨ma_mk186, List.forall_mem_cons.mpr ⟨ma_mk187, List.forall_mem_cons.mpr ⟨ma_mk188, List.forall_mem_cons.mpr ⟨ma_mk189, List.forall_mem_cons.mpr ⟨ma_mk190, List.forall_mem_cons.mpr ⟨ma_mk191, List.forall_mem_cons.mpr ⟨ma_mk192, List.forall_mem_cons.mpr ⟨ma_mk193, List.forall_mem_cons.mpr ⟨ma_mk194, List.forall_mem_cons.mpr ⟨ma_mk195, List.forall_mem_cons.mpr ⟨ma_mk196, List.forall_mem_cons.mpr ⟨ma_mk197, List.forall_mem_cons.mpr ⟨ma_mk198, List.forall_mem_cons.mpr ⟨ma_mk199, List.forall_mem_nil _⟩⟩⟩⟩⟩⟩⟩⟩⟩⟩⟩⟩⟩⟩⟩⟩⟩⟩⟩⟩
def ma_mdh_10 : List (Nat × MethodName × ByteArray × Nat × Option FieldType) := [(12, yX12_removeRest, cX12_removeRest, 4, (some (FieldType.int))), (12, yX12_sizeOf, cX12_sizeOf, 2, (some (FieldType.int))), (12, yX12_uncountKept, cX12_uncountKept, 2, none), (12, yX12_remove, cX12_remove, 2, none), (12, yX12_slide, cX12_slide, 6, (some (FieldType.int))), (12, yX12_move, cX12_move, 3, none), (12, yX12_cleanHalves, cX12_cleanHalves, 2, (some (FieldType.int))), (12, yX12_come, cX12_come, 2, none), (12, yX12_comeAll, cX12_comeAll, 3, none), (12, yX12_comeWishers, cX12_comeWishers, 4, none), (12, yX12_findInYoung, cX12_findInYoung, 4, (some (FieldType.int))), (12, yX12_major, cX12_major, 2, (some (FieldType.int))), (12, yX12_findDirty, cX12_findDirty, 4, none), (12, yX12_cardOf, cX12_cardOf, 3, (some (FieldType.int))), (12, yX12_minor, cX12_minor, 4, (some (FieldType.int))), (12, yX12_isOldFull, cX12_isOldFull, 3, (some (FieldType.boolean))), (12, yX12_comeDirty, cX12_comeDirty, 5, none), (12, yX12_findInSteps, cX12_findInSteps, 5, (some (FieldType.int))), (12, yX12_freeWords, cX12_freeWords, 1, (some (FieldType.int))), (12, yX12_beginMarking, cX12_beginMarking, 2, none)]
theorem ma_mdh_ok10 : ∀ q ∈ ma_mdh_10, ma_mok q := List.forall_mem_cons.mpr ⟨ma_mk200, List.forall_mem_cons.mpr ⟨ma_mk201, List.forall_mem_cons.mpr ⟨ma_mk202, List.forall_mem_cons.mpr ⟨ma_mk203, List.forall_mem_cons.mpr ⟨ma_mk204, List.forall_mem_cons.mpr ⟨ma_mk205, List.forall_mem_cons.mpr ⟨ma_mk206, List.forall_mem_cons.mpr ⟨ma_mk207, List.forall_mem_cons.mpr ⟨ma_mk208, List.forall_mem_cons.mpr ⟨ma_mk209, List.forall_mem_cons.mpr ⟨ma_mk210, List.forall_mem_cons.mpr ⟨ma_mk211, List.forall_mem_cons.mpr ⟨ma_mk212, List.forall_mem_cons.mpr ⟨ma_mk213, List.forall_mem_cons.mpr ⟨ma_mk214, List.forall_mem_cons.mpr ⟨ma_mk215, List.forall_mem_cons.mpr ⟨ma_mk216, List.forall_mem_cons.mpr ⟨ma_mk217, List.forall_mem_cons.mpr ⟨ma_mk218, List.forall_mem_cons.mpr ⟨ma_mk219, List.forall_mem_nil _⟩⟩⟩⟩⟩⟩⟩⟩⟩⟩⟩⟩⟩⟩⟩⟩⟩⟩⟩⟩
def ma_mdh_11 : List (Nat × MethodName × ByteArray × Nat × Option FieldType) := [(12, yX12_greyRoots, cX12_greyRoots, 4, none), (12, yX12_toGrey, cX12_toGrey, 2, none), (12, yX12_steps, cX12_steps, 5, (some (FieldType.int))), (12, yX12_lookEmpty, cX12_lookEmpty, 2, (some (FieldType.int))), (12, yX12_find, cX12_find, 5, (some (FieldType.int))), (12, yX12_firstFit, cX12_firstFit, 5, (some (FieldType.int))), (12, yX12_blockFrom, cX12_blockFrom, 5, (some (FieldType.int))), (12, yX12_startOf, cX12_startOf, 3, (some (FieldType.int))), (12, yX12_firstFitAhead, cX12_firstFitAhead, 4, (some (FieldType.int))), (12, yX12_whole, cX12_whole, 1, (some (FieldType.int))), (12, yX12_finish, cX12_finish, 3, (some (FieldType.int))), (12, yX12_findInRegions, cX12_findInRegions, 4, (some (FieldType.int))), (12, yX12_findInRegion, cX12_findInRegion, 3, (some (FieldType.int))), (12, yX12_emptyRegions, cX12_emptyRegions, 3, (some (FieldType.int))), (12, yX12_leastEmpty, cX12_leastEmpty, 2, (some (FieldType.int))), (12, yX12_cleanRegions, cX12_cleanRegions, 10, (some (FieldType.int))), (12, yX12_sparse, cX12_sparse, 3, (some (FieldType.int))), (12, yX12_findByForm, cX12_findByForm, 4, (some (FieldType.int))), (12, yX12_setRoot, cX12_setRoot, 4, none), (12, yX12_more, cX12_more, 2, none)]
theorem ma_mdh_ok11 : ∀ q ∈ ma_mdh_11, ma_mok q := List.forall_mem_cons.mpr ⟨ma_mk220, List.forall_mem_cons.mpr ⟨ma_mk221, List.forall_mem_cons.mpr ⟨ma_mk222, List.forall_mem_cons.mpr ⟨ma_mk223, List.forall_mem_cons.mpr ⟨ma_mk224, List.forall_mem_cons.mpr ⟨ma_mk225, List.forall_mem_cons.mpr ⟨ma_mk226, List.forall_mem_cons.mpr ⟨ma_mk227, List.forall_mem_cons.mpr ⟨ma_mk228, List.forall_mem_cons.mpr ⟨ma_mk229, List.forall_mem_cons.mpr ⟨ma_mk230, List.forall_mem_cons.mpr ⟨ma_mk231, List.forall_mem_cons.mpr ⟨ma_mk232, List.forall_mem_cons.mpr ⟨ma_mk233, List.forall_mem_cons.mpr ⟨ma_mk234, List.forall_mem_cons.mpr ⟨ma_mk235, List.forall_mem_cons.mpr ⟨ma_mk236, List.forall_mem_cons.mpr ⟨ma_mk237, List.forall_mem_cons.mpr ⟨ma_mk238, List.forall_mem_cons.mpr ⟨ma_mk239, List.forall_mem_nil _⟩⟩⟩⟩⟩⟩⟩⟩⟩⟩⟩⟩⟩⟩⟩⟩⟩⟩⟩⟩
def ma_mdh_12 : List (Nat × MethodName × ByteArray × Nat × Option FieldType) := [(12, yX12_changes, cX12_changes, 3, none), (12, yX12_less, cX12_less, 5, none), (12, yX12_fall, cX12_fall, 2, none), (12, yX12_row, cX12_row, 4, (some (FieldType.int))), (12, yX12_put, cX12_put, 6, (some (FieldType.int))), (12, yX12_reached, cX12_reached, 3, (some (FieldType.int))), (12, yX12_placeOf, cX12_placeOf, 3, (some (FieldType.int))), (12, yX12_link, cX12_link, 9, (some (FieldType.int))), (12, yX12_numberOf, cX12_numberOf, 2, (some (FieldType.int))), (12, yX12_get, cX12_get, 4, (some (FieldType.int))), (12, yX12_root, cX12_root, 5, (some (FieldType.int))), (12, yX12_weak, cX12_weak, 5, (some (FieldType.int))), (12, yX12_strong, cX12_strong, 4, (some (FieldType.int))), (12, yX12_hold, cX12_hold, 5, (some (FieldType.int))), (12, yX12_wish, cX12_wish, 4, (some (FieldType.int))), (12, yX12_granted, cX12_granted, 4, (some (FieldType.int))), (12, yX12_clean, cX12_clean, 2, (some (FieldType.int))), (12, yX12_step, cX12_step, 4, (some (FieldType.int))), (12, yX12_about, cX12_about, 4, (some (FieldType.int))), (12, yX12_block, cX12_block, 6, (some (FieldType.int)))]
theorem ma_mdh_ok12 : ∀ q ∈ ma_mdh_12, ma_mok q := List.forall_mem_cons.mpr ⟨ma_mk240, List.forall_mem_cons.mpr ⟨ma_mk241, List.forall_mem_cons.mpr ⟨ma_mk242, List.forall_mem_cons.mpr ⟨ma_mk243, List.forall_mem_cons.mpr ⟨ma_mk244, List.forall_mem_cons.mpr ⟨ma_mk245, List.forall_mem_cons.mpr ⟨ma_mk246, List.forall_mem_cons.mpr ⟨ma_mk247, List.forall_mem_cons.mpr ⟨ma_mk248, List.forall_mem_cons.mpr ⟨ma_mk249, List.forall_mem_cons.mpr ⟨ma_mk250, List.forall_mem_cons.mpr ⟨ma_mk251, List.forall_mem_cons.mpr ⟨ma_mk252, List.forall_mem_cons.mpr ⟨ma_mk253, List.forall_mem_cons.mpr ⟨ma_mk254, List.forall_mem_cons.mpr ⟨ma_mk255, List.forall_mem_cons.mpr ⟨ma_mk256, List.forall_mem_cons.mpr ⟨ma_mk257, List.forall_mem_cons.mpr ⟨ma_mk258, List.forall_mem_cons.mpr ⟨ma_mk259, List.forall_mem_nil _⟩⟩⟩⟩⟩⟩⟩⟩⟩⟩⟩⟩⟩⟩⟩⟩⟩⟩⟩⟩
def ma_mdh_13 : List (Nat × MethodName × ByteArray × Nat × Option FieldType) := [(12, yX12_count, cX12_count, 2, (some (FieldType.int))), (12, yX12_dirtyCards, cX12_dirtyCards, 3, (some (FieldType.int))), (13, yX1_init, cX1_init, 3, none), (13, yX1_slideDown, cX1_slideDown, 5, (some (FieldType.int))), (13, yX1_removeUnreached, cX1_removeUnreached, 1, (some (FieldType.int))), (13, yX1_noteChange, cX1_noteChange, 3, none), (13, yX1_noteFewer, cX1_noteFewer, 2, none), (13, yX1_noteReference, cX1_noteReference, 4, none), (13, yX1_noteStrong, cX1_noteStrong, 2, none), (13, yX1_canHold, cX1_canHold, 2, (some (FieldType.boolean))), (13, yX1_countOf, cX1_countOf, 2, (some (FieldType.int))), (13, yX1_colourOf, cX1_colourOf, 2, (some (FieldType.int))), (13, yX1_specials, cX1_specials, 1, (some (FieldType.int))), (13, yX1_topPlace, cX1_topPlace, 1, (some (FieldType.int))), (13, yX1_isMarking, cX1_isMarking, 1, (some (FieldType.boolean))), (13, yX1_oldTopOrRegion, cX1_oldTopOrRegion, 1, (some (FieldType.int))), (15, yJ7_fill_53178, cJ7_fill_53178, 4, none), (17, yJ0_length_8abf5, cJ0_length_8abf5, 1, (some (FieldType.int))), (17, yJ0_coder_7d493, cJ0_coder_7d493, 1, (some (FieldType.byte))), (17, yJ0_charAt_5068e, cJ0_charAt_5068e, 2, (some (FieldType.char)))]
theorem ma_mdh_ok13 : ∀ q ∈ ma_mdh_13, ma_mok q := List.forall_mem_cons.mpr ⟨ma_mk260, List.forall_mem_cons.mpr ⟨ma_mk261, List.forall_mem_cons.mpr ⟨ma_mk262, List.forall_mem_cons.mpr ⟨ma_mk263, List.forall_mem_cons.mpr ⟨ma_mk264, List.forall_mem_cons.mpr ⟨ma_mk265, List.forall_mem_cons.mpr ⟨ma_mk266, List.forall_mem_cons.mpr ⟨ma_mk267, List.forall_mem_cons.mpr ⟨ma_mk268, List.forall_mem_cons.mpr ⟨ma_mk269, List.forall_mem_cons.mpr ⟨ma_mk270, List.forall_mem_cons.mpr ⟨ma_mk271, List.forall_mem_cons.mpr ⟨ma_mk272, List.forall_mem_cons.mpr ⟨ma_mk273, List.forall_mem_cons.mpr ⟨ma_mk274, List.forall_mem_cons.mpr ⟨ma_mk275, List.forall_mem_cons.mpr ⟨ma_mk276, List.forall_mem_cons.mpr ⟨ma_mk277, List.forall_mem_cons.mpr ⟨ma_mk278, List.forall_mem_cons.mpr ⟨ma_mk279, List.forall_mem_nil _⟩⟩⟩⟩⟩⟩⟩⟩⟩⟩⟩⟩⟩⟩⟩⟩⟩⟩⟩⟩
def ma_mdh_14 : List (Nat × MethodName × ByteArray × Nat × Option FieldType) := [(17, yJ0_isLatin1_aae02, cJ0_isLatin1_aae02, 1, (some (FieldType.boolean))), (17, yJ0_checkIndex_df160, cJ0_checkIndex_df160, 2, none), (18, yJ1_charAt_3b067, cJ1_charAt_3b067, 2, (some (FieldType.char))), (19, yJ3_checkIndex_8e157, cJ3_checkIndex_8e157, 3, (some (FieldType.int)))]
theorem ma_mdh_ok14 : ∀ q ∈ ma_mdh_14, ma_mok q := List.forall_mem_cons.mpr ⟨ma_mk280, List.forall_mem_cons.mpr ⟨ma_mk281, List.forall_mem_cons.mpr ⟨ma_mk282, List.forall_mem_cons.mpr ⟨ma_mk283, List.forall_mem_nil _⟩⟩⟩⟩
def ma_mdh : List (Nat × MethodName × ByteArray × Nat × Option FieldType) := ma_mdh_0 ++ (ma_mdh_1 ++ (ma_mdh_2 ++ (ma_mdh_3 ++ (ma_mdh_4 ++ (ma_mdh_5 ++ (ma_mdh_6 ++ (ma_mdh_7 ++ (ma_mdh_8 ++ (ma_mdh_9 ++ (ma_mdh_10 ++ (ma_mdh_11 ++ (ma_mdh_12 ++ (ma_mdh_13 ++ (ma_mdh_14))))))))))))))
theorem ma_mdh_ok : ∀ q ∈ ma_mdh, ma_mok q := by
  intro q hq
  rcases List.mem_append.mp hq with hq | hq
  · exact ma_mdh_ok0 q hq
  rcases List.mem_append.mp hq with hq | hq
  · exact ma_mdh_ok1 q hq
  rcases List.mem_append.mp hq with hq | hq
  · exact ma_mdh_ok2 q hq
  rcases List.mem_append.mp hq with hq | hq
  · exact ma_mdh_ok3 q hq
  rcases List.mem_append.mp hq with hq | hq
  · exact ma_mdh_ok4 q hq
  rcases List.mem_append.mp hq with hq | hq
  · exact ma_mdh_ok5 q hq
  rcases List.mem_append.mp hq with hq | hq
  · exact ma_mdh_ok6 q hq
  rcases List.mem_append.mp hq with hq | hq
  · exact ma_mdh_ok7 q hq
  rcases List.mem_append.mp hq with hq | hq
  · exact ma_mdh_ok8 q hq
  rcases List.mem_append.mp hq with hq | hq
  · exact ma_mdh_ok9 q hq
  rcases List.mem_append.mp hq with hq | hq
  · exact ma_mdh_ok10 q hq
  rcases List.mem_append.mp hq with hq | hq
  · exact ma_mdh_ok11 q hq
  rcases List.mem_append.mp hq with hq | hq
  · exact ma_mdh_ok12 q hq
  rcases List.mem_append.mp hq with hq | hq
  · exact ma_mdh_ok13 q hq
  exact ma_mdh_ok14 q hq
def ma_md (M : Nat) : Option (Nat × MethodName × ByteArray × Nat × Option FieldType) := ma_mdh[M]?
theorem ma_md_spec {M o nL : Nat} {y : MethodName} {cc : ByteArray} {ret : Option FieldType} (h : ma_md M = some (o, y, cc, nL, ret)) : Cond.code y cc nL ret ∈ ma_TB ∧ Cond.initialized y.cls ∈ ma_TB ∧ y.cls = ma_cn o ∧ plainName y.cls = true ∧ y.cls ≠ "java/lang/invoke/MethodHandle" ∧ y.cls ≠ "java/lang/invoke/VarHandle" := by
  obtain ⟨h1, h2, h3⟩ := ma_mdh_ok _ (List.mem_of_getElem? h)
  have h2 : y.cls = ma_cn o := h2
  obtain ⟨g1, g2, g3, g4⟩ := h3
  rw [h2]
  exact ⟨h1, g1, rfl, g2, g3, g4⟩

