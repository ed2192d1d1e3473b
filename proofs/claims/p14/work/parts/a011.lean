/-! from 91.zzz -/
/-! the levels of the class -/
def zI_f (c k : Nat) : Bool := zfz c k
def zI_s : List (Nat × Nat × Int × Int) := [(69, 5, 0, 512), (69, 6, 0, 512), (75, 3, 0, 512), (75, 4, 0, 512), (88, 3, 0, 512), (88, 4, 0, 512)]
def zI_a : List (Nat × Nat × Int × Int) := []
def zI_r : List Nat := [70]
def zI_x (_ : Nat → Nat → Int32) : Prop := True
abbrev zI (f : Nat → Nat → Int32) (r : Nat → Nat → Option Nat) (C Z N : Nat) (S : ma_S) : Prop := zG zI_f zI_s zI_a zI_r zI_x f r C Z N S
theorem zI_t (c k : Nat) (h : 126 ≤ c) : zI_f c k = false := by
  unfold zI_f zfz
  simp only [Bool.and_eq_false_iff, Bool.or_eq_false_iff, decide_eq_false_iff_not]
  omega
def zJ79_f (c k : Nat) : Bool := zfz c k && decide (c ≠ 79)
def zJ79_s : List (Nat × Nat × Int × Int) := [(69, 5, 0, 512), (69, 6, 0, 512), (75, 3, 0, 512), (75, 4, 0, 512), (88, 3, 0, 512), (88, 4, 0, 512), (79, 2, 0, 1500), (79, 4, 0, 400000)]
def zJ79_a : List (Nat × Nat × Int × Int) := []
def zJ79_r : List Nat := [70]
def zJ79_x (_ : Nat → Nat → Int32) : Prop := True
abbrev zJ79 (f : Nat → Nat → Int32) (r : Nat → Nat → Option Nat) (C Z N : Nat) (S : ma_S) : Prop := zG zJ79_f zJ79_s zJ79_a zJ79_r zJ79_x f r C Z N S
theorem zJ79_dn {f : Nat → Nat → Int32} {r : Nat → Nat → Option Nat} {C Z N : Nat} {S : ma_S} (h : zJ79 f r C Z N S) : zI (mI S) (mR S) C Z N S := zG_dn h (by decide) (by decide) (by decide) (fun _ => trivial)
theorem zJ79_up {f : Nat → Nat → Int32} {r : Nat → Nat → Option Nat} {C Z N : Nat} {S S1 : ma_S} (h : zJ79 f r C Z N S) (h1 : zI (mI S) (mR S) C Z N S1) : zJ79 f r C Z N S1 := by
  refine zG_up h h1 (fun c k z => ?_) (by decide) ?_ (by decide) (fun _ _ h => h)
  · unfold zJ79_f at z
    unfold zI_f
    simp only [Bool.and_eq_true] at z
    exact z.1
  · intro q hq
    cases hq
def zJ84_f (c k : Nat) : Bool := zfz c k && decide (c ≠ 84) && decide (c ≠ 85) && decide (c ≠ 86)
def zJ84_s : List (Nat × Nat × Int × Int) := [(69, 5, 0, 512), (69, 6, 0, 512), (75, 3, 0, 512), (75, 4, 0, 512), (88, 3, 0, 512), (88, 4, 0, 512), (84, 0, 0, 1500), (84, 2, 0, 400000), (84, 7, 0, 512)]
def zJ84_a : List (Nat × Nat × Int × Int) := []
def zJ84_r : List Nat := [70, 85]
def zJ84_x (_ : Nat → Nat → Int32) : Prop := True
abbrev zJ84 (f : Nat → Nat → Int32) (r : Nat → Nat → Option Nat) (C Z N : Nat) (S : ma_S) : Prop := zG zJ84_f zJ84_s zJ84_a zJ84_r zJ84_x f r C Z N S
theorem zJ84_dn {f : Nat → Nat → Int32} {r : Nat → Nat → Option Nat} {C Z N : Nat} {S : ma_S} (h : zJ84 f r C Z N S) : zI (mI S) (mR S) C Z N S := zG_dn h (by decide) (by decide) (by decide) (fun _ => trivial)
theorem zJ84_up {f : Nat → Nat → Int32} {r : Nat → Nat → Option Nat} {C Z N : Nat} {S S1 : ma_S} (h : zJ84 f r C Z N S) (h1 : zI (mI S) (mR S) C Z N S1) : zJ84 f r C Z N S1 := by
  refine zG_up h h1 (fun c k z => ?_) (by decide) ?_ (by decide) (fun _ _ h => h)
  · unfold zJ84_f at z
    unfold zI_f
    simp only [Bool.and_eq_true] at z
    exact z.1.1.1
  · intro q hq
    cases hq
def zJ87_f (c k : Nat) : Bool := zfz c k && decide (c ≠ 87)
def zJ87_s : List (Nat × Nat × Int × Int) := [(69, 5, 0, 512), (69, 6, 0, 512), (75, 3, 0, 512), (75, 4, 0, 512), (88, 3, 0, 512), (88, 4, 0, 512), (87, 0, 0, 1500), (87, 2, 0, 400000), (87, 6, -1, 1500), (87, 8, 0, 1)]
def zJ87_a : List (Nat × Nat × Int × Int) := []
def zJ87_r : List Nat := [70]
def zJ87_x (_ : Nat → Nat → Int32) : Prop := True
abbrev zJ87 (f : Nat → Nat → Int32) (r : Nat → Nat → Option Nat) (C Z N : Nat) (S : ma_S) : Prop := zG zJ87_f zJ87_s zJ87_a zJ87_r zJ87_x f r C Z N S
theorem zJ87_dn {f : Nat → Nat → Int32} {r : Nat → Nat → Option Nat} {C Z N : Nat} {S : ma_S} (h : zJ87 f r C Z N S) : zI (mI S) (mR S) C Z N S := zG_dn h (by decide) (by decide) (by decide) (fun _ => trivial)
theorem zJ87_up {f : Nat → Nat → Int32} {r : Nat → Nat → Option Nat} {C Z N : Nat} {S S1 : ma_S} (h : zJ87 f r C Z N S) (h1 : zI (mI S) (mR S) C Z N S1) : zJ87 f r C Z N S1 := by
  refine zG_up h h1 (fun c k z => ?_) (by decide) ?_ (by decide) (fun _ _ h => h)
  · unfold zJ87_f at z
    unfold zI_f
    simp only [Bool.and_eq_true] at z
    exact z.1
  · intro q hq
    cases hq
def zJ80_f (c k : Nat) : Bool := zfz c k && decide (c ≠ 80)
def zJ80_s : List (Nat × Nat × Int × Int) := [(69, 5, 0, 512), (69, 6, 0, 512), (75, 3, 0, 512), (75, 4, 0, 512), (88, 3, 0, 512), (88, 4, 0, 512), (80, 2, 0, 1500), (80, 3, 0, 400000)]
def zJ80_a : List (Nat × Nat × Int × Int) := []
def zJ80_r : List Nat := [70]
def zJ80_x (_ : Nat → Nat → Int32) : Prop := True
abbrev zJ80 (f : Nat → Nat → Int32) (r : Nat → Nat → Option Nat) (C Z N : Nat) (S : ma_S) : Prop := zG zJ80_f zJ80_s zJ80_a zJ80_r zJ80_x f r C Z N S
theorem zJ80_dn {f : Nat → Nat → Int32} {r : Nat → Nat → Option Nat} {C Z N : Nat} {S : ma_S} (h : zJ80 f r C Z N S) : zI (mI S) (mR S) C Z N S := zG_dn h (by decide) (by decide) (by decide) (fun _ => trivial)
theorem zJ80_up {f : Nat → Nat → Int32} {r : Nat → Nat → Option Nat} {C Z N : Nat} {S S1 : ma_S} (h : zJ80 f r C Z N S) (h1 : zI (mI S) (mR S) C Z N S1) : zJ80 f r C Z N S1 := by
  refine zG_up h h1 (fun c k z => ?_) (by decide) ?_ (by decide) (fun _ _ h => h)
  · unfold zJ80_f at z
    unfold zI_f
    simp only [Bool.and_eq_true] at z
    exact z.1
  · intro q hq
    cases hq
def zJ81_f (c k : Nat) : Bool := zfz c k && decide (c ≠ 81)
def zJ81_s : List (Nat × Nat × Int × Int) := [(69, 5, 0, 512), (69, 6, 0, 512), (75, 3, 0, 512), (75, 4, 0, 512), (88, 3, 0, 512), (88, 4, 0, 512), (81, 2, 0, 1500), (81, 3, 0, 1500), (81, 4, 0, 400000)]
def zJ81_a : List (Nat × Nat × Int × Int) := []
def zJ81_r : List Nat := [70]
def zJ81_x (m : Nat → Nat → Int32) : Prop := 0 ≤ (m 81 3).toInt ∧ (m 81 3).toInt ≤ (m 81 2).toInt
abbrev zJ81 (f : Nat → Nat → Int32) (r : Nat → Nat → Option Nat) (C Z N : Nat) (S : ma_S) : Prop := zG zJ81_f zJ81_s zJ81_a zJ81_r zJ81_x f r C Z N S
theorem zJ81_dn {f : Nat → Nat → Int32} {r : Nat → Nat → Option Nat} {C Z N : Nat} {S : ma_S} (h : zJ81 f r C Z N S) : zI (mI S) (mR S) C Z N S := zG_dn h (by decide) (by decide) (by decide) (fun _ => trivial)
theorem zJ81_up {f : Nat → Nat → Int32} {r : Nat → Nat → Option Nat} {C Z N : Nat} {S S1 : ma_S} (h : zJ81 f r C Z N S) (h1 : zI (mI S) (mR S) C Z N S1) : zJ81 f r C Z N S1 := by
  refine zG_up h h1 (fun c k z => ?_) (by decide) ?_ (by decide) (fun g _ h => by
    unfold zJ81_x at h ⊢
    rw [g 81 2 rfl, g 81 3 rfl]
    exact h)
  · unfold zJ81_f at z
    unfold zI_f
    simp only [Bool.and_eq_true] at z
    exact z.1
  · intro q hq
    cases hq
def zJ82_f (c k : Nat) : Bool := zfz c k && decide (c ≠ 82) && decide (c ≠ 83)
def zJ82_s : List (Nat × Nat × Int × Int) := [(69, 5, 0, 512), (69, 6, 0, 512), (75, 3, 0, 512), (75, 4, 0, 512), (88, 3, 0, 512), (88, 4, 0, 512), (82, 2, 0, 1500), (82, 3, 0, 1500), (82, 6, 0, 400000), (82, 7, 0, 3000), (82, 8, 0, 400000)]
def zJ82_a : List (Nat × Nat × Int × Int) := []
def zJ82_r : List Nat := [70]
def zJ82_x (m : Nat → Nat → Int32) : Prop := (m 82 3).toInt ≤ (m 82 7).toInt ∧ (m 82 7).toInt ≤ (m 82 3).toInt + (m 82 2).toInt
abbrev zJ82 (f : Nat → Nat → Int32) (r : Nat → Nat → Option Nat) (C Z N : Nat) (S : ma_S) : Prop := zG zJ82_f zJ82_s zJ82_a zJ82_r zJ82_x f r C Z N S
theorem zJ82_t (c k : Nat) (h : 126 ≤ c) : zJ82_f c k = false := by
  unfold zJ82_f zfz
  simp only [Bool.and_eq_false_iff, Bool.or_eq_false_iff, decide_eq_false_iff_not]
  omega
theorem zJ82_xt {S : ma_S} {c k : Nat} {x : Int32} (hc : 126 ≤ c) (h : zJ82_x (mI S)) : zJ82_x (mI (ma_put S c k (.inl x))) := by
  have rd : ∀ c₉ k₉, c₉ < 126 → mI (ma_put S c k (.inl x)) c₉ k₉ = mI S c₉ k₉ := fun c₉ k₉ z => if_neg (fun w => by omega)
  unfold zJ82_x at h ⊢
  simp only [rd _ _ (by decide : 81 < 126), rd _ _ (by decide : 82 < 126)]
  exact h
theorem zJ82_dn {f : Nat → Nat → Int32} {r : Nat → Nat → Option Nat} {C Z N : Nat} {S : ma_S} (h : zJ82 f r C Z N S) : zI (mI S) (mR S) C Z N S := zG_dn h (by decide) (by decide) (by decide) (fun _ => trivial)
theorem zJ82_up {f : Nat → Nat → Int32} {r : Nat → Nat → Option Nat} {C Z N : Nat} {S S1 : ma_S} (h : zJ82 f r C Z N S) (h1 : zI (mI S) (mR S) C Z N S1) : zJ82 f r C Z N S1 := by
  refine zG_up h h1 (fun c k z => ?_) (by decide) ?_ (by decide) (fun g _ h => by
    unfold zJ82_x at h ⊢
    rw [g 82 2 rfl, g 82 3 rfl, g 82 7 rfl]
    exact h)
  · unfold zJ82_f at z
    unfold zI_f
    simp only [Bool.and_eq_true] at z
    exact z.1.1
  · intro q hq
    cases hq
def zK81_f (c k : Nat) : Bool := zfz c k && decide (c ≠ 81)
def zK81_s : List (Nat × Nat × Int × Int) := [(69, 5, 0, 512), (69, 6, 0, 512), (75, 3, 0, 512), (75, 4, 0, 512), (88, 3, 0, 512), (88, 4, 0, 512), (81, 2, 0, 1500), (81, 3, 0, 1500), (81, 4, 0, 400000)]
def zK81_a : List (Nat × Nat × Int × Int) := []
def zK81_r : List Nat := [70]
def zK81_x (_ : Nat → Nat → Int32) : Prop := True
abbrev zK81 (f : Nat → Nat → Int32) (r : Nat → Nat → Option Nat) (C Z N : Nat) (S : ma_S) : Prop := zG zK81_f zK81_s zK81_a zK81_r zK81_x f r C Z N S
def zK82_f (c k : Nat) : Bool := zfz c k && decide (c ≠ 82) && decide (c ≠ 83)
def zK82_s : List (Nat × Nat × Int × Int) := [(69, 5, 0, 512), (69, 6, 0, 512), (75, 3, 0, 512), (75, 4, 0, 512), (88, 3, 0, 512), (88, 4, 0, 512), (82, 2, 0, 1500), (82, 3, 0, 1500), (82, 6, 0, 400000), (82, 7, 0, 3000), (82, 8, 0, 400000)]
def zK82_a : List (Nat × Nat × Int × Int) := []
def zK82_r : List Nat := [70]
def zK82_x (_ : Nat → Nat → Int32) : Prop := True
abbrev zK82 (f : Nat → Nat → Int32) (r : Nat → Nat → Option Nat) (C Z N : Nat) (S : ma_S) : Prop := zG zK82_f zK82_s zK82_a zK82_r zK82_x f r C Z N S
/-! from 92.0tabs -/
/-! tables that the backward rows use -/
set_option maxRecDepth 100000 in
theorem hm_1 : ma_md 1 = some (1, yX0_open, cX0_open, 2, none) := rfl
set_option maxRecDepth 100000 in
theorem hm_2 : ma_md 2 = some (1, yX0_total, cX0_total, 1, (some (FieldType.int))) := rfl
set_option maxRecDepth 100000 in
theorem hm_3 : ma_md 3 = some (1, yX0_findRoom, cX0_findRoom, 2, (some (FieldType.int))) := rfl
set_option maxRecDepth 100000 in
theorem hm_4 : ma_md 4 = some (1, yX0_findOldRoom, cX0_findOldRoom, 2, (some (FieldType.int))) := rfl
set_option maxRecDepth 100000 in
theorem hm_5 : ma_md 5 = some (1, yX0_cleanOld, cX0_cleanOld, 2, (some (FieldType.int))) := rfl
set_option maxRecDepth 100000 in
theorem hm_6 : ma_md 6 = some (1, yX0_findDirty, cX0_findDirty, 4, none) := rfl
set_option maxRecDepth 100000 in
theorem hm_7 : ma_md 7 = some (1, yX0_isYoung, cX0_isYoung, 2, (some (FieldType.boolean))) := rfl
set_option maxRecDepth 100000 in
theorem hm_8 : ma_md 8 = some (1, yX0_noteReference, cX0_noteReference, 5, none) := rfl
set_option maxRecDepth 100000 in
theorem hm_9 : ma_md 9 = some (1, yX0_cardOf, cX0_cardOf, 3, (some (FieldType.int))) := rfl
set_option maxRecDepth 100000 in
theorem hm_10 : ma_md 10 = some (1, yX0_hasYoungRoom, cX0_hasYoungRoom, 2, (some (FieldType.boolean))) := rfl
set_option maxRecDepth 100000 in
theorem hm_11 : ma_md 11 = some (1, yX0_cleanYoung, cX0_cleanYoung, 2, (some (FieldType.int))) := rfl
set_option maxRecDepth 100000 in
theorem hm_12 : ma_md 12 = some (1, yX0_wordsGrowingOld, cX0_wordsGrowingOld, 4, (some (FieldType.int))) := rfl
set_option maxRecDepth 100000 in
theorem hm_13 : ma_md 13 = some (1, yX0_comeFromDirty, cX0_comeFromDirty, 3, none) := rfl
set_option maxRecDepth 100000 in
theorem hm_14 : ma_md 14 = some (1, yX0_comeFromDirtyWords, cX0_comeFromDirtyWords, 4, none) := rfl
set_option maxRecDepth 100000 in
theorem hm_15 : ma_md 15 = some (1, yX0_moveKept, cX0_moveKept, 3, none) := rfl
set_option maxRecDepth 100000 in
theorem hm_16 : ma_md 16 = some (1, yX0_moveOlder, cX0_moveOlder, 2, none) := rfl
set_option maxRecDepth 100000 in
theorem hm_17 : ma_md 17 = some (1, yX0_noteMade, cX0_noteMade, 2, none) := rfl
set_option maxRecDepth 100000 in
theorem hm_18 : ma_md 18 = some (1, yX0_canHold, cX0_canHold, 2, (some (FieldType.boolean))) := rfl
set_option maxRecDepth 100000 in
theorem hm_19 : ma_md 19 = some (1, yX0_cleanAll, cX0_cleanAll, 2, (some (FieldType.int))) := rfl
set_option maxRecDepth 100000 in
theorem hm_20 : ma_md 20 = some (1, yX0_specials, cX0_specials, 3, (some (FieldType.int))) := rfl
set_option maxRecDepth 100000 in
theorem hm_21 : ma_md 21 = some (1, yX0_topPlace, cX0_topPlace, 1, (some (FieldType.int))) := rfl
set_option maxRecDepth 100000 in
theorem hm_22 : ma_md 22 = some (1, yX0_oldTopOrRegion, cX0_oldTopOrRegion, 1, (some (FieldType.int))) := rfl
set_option maxRecDepth 100000 in
theorem hm_24 : ma_md 24 = some (2, yX2_noteFewer, cX2_noteFewer, 5, none) := rfl
set_option maxRecDepth 100000 in
theorem hm_25 : ma_md 25 = some (2, yX2_fallIfUncounted, cX2_fallIfUncounted, 2, none) := rfl
set_option maxRecDepth 100000 in
theorem hm_26 : ma_md 26 = some (2, yX2_dropWord, cX2_dropWord, 3, none) := rfl
set_option maxRecDepth 100000 in
theorem hm_27 : ma_md 27 = some (2, yX2_countOf, cX2_countOf, 2, (some (FieldType.int))) := rfl
set_option maxRecDepth 100000 in
theorem hm_29 : ma_md 29 = some (3, yX3_open, cX3_open, 2, none) := rfl
set_option maxRecDepth 100000 in
theorem hm_30 : ma_md 30 = some (3, yX3_total, cX3_total, 1, (some (FieldType.int))) := rfl
set_option maxRecDepth 100000 in
theorem hm_31 : ma_md 31 = some (3, yX3_findRoom, cX3_findRoom, 2, (some (FieldType.int))) := rfl
set_option maxRecDepth 100000 in
theorem hm_32 : ma_md 32 = some (3, yX3_hasRoom, cX3_hasRoom, 2, (some (FieldType.boolean))) := rfl
set_option maxRecDepth 100000 in
theorem hm_33 : ma_md 33 = some (3, yX3_cleanAll, cX3_cleanAll, 4, (some (FieldType.int))) := rfl
set_option maxRecDepth 100000 in
theorem hm_34 : ma_md 34 = some (3, yX3_noteMade, cX3_noteMade, 2, none) := rfl
set_option maxRecDepth 100000 in
theorem hm_36 : ma_md 36 = some (3, yX3_topPlace, cX3_topPlace, 1, (some (FieldType.int))) := rfl
set_option maxRecDepth 100000 in
theorem hm_59 : ma_md 59 = some (5, yX5_open, cX5_open, 2, none) := rfl
set_option maxRecDepth 100000 in
theorem hm_60 : ma_md 60 = some (5, yX5_total, cX5_total, 1, (some (FieldType.int))) := rfl
set_option maxRecDepth 100000 in
theorem hm_61 : ma_md 61 = some (5, yX5_findRoom, cX5_findRoom, 2, (some (FieldType.int))) := rfl
set_option maxRecDepth 100000 in
theorem hm_62 : ma_md 62 = some (5, yX5_cleanAll, cX5_cleanAll, 2, (some (FieldType.int))) := rfl
set_option maxRecDepth 100000 in
theorem hm_63 : ma_md 63 = some (5, yX5_noteMade, cX5_noteMade, 2, none) := rfl
set_option maxRecDepth 100000 in
theorem hm_64 : ma_md 64 = some (5, yX5_topPlace, cX5_topPlace, 1, (some (FieldType.int))) := rfl
set_option maxRecDepth 100000 in
theorem hm_66 : ma_md 66 = some (6, yX6_open, cX6_open, 2, none) := rfl
set_option maxRecDepth 100000 in
theorem hm_67 : ma_md 67 = some (6, yX6_cleanAll, cX6_cleanAll, 2, (some (FieldType.int))) := rfl
set_option maxRecDepth 100000 in
theorem hm_68 : ma_md 68 = some (6, yX6_begin, cX6_begin, 1, none) := rfl
set_option maxRecDepth 100000 in
theorem hm_69 : ma_md 69 = some (6, yX6_newsCame, cX6_newsCame, 1, (some (FieldType.boolean))) := rfl
set_option maxRecDepth 100000 in
theorem hm_70 : ma_md 70 = some (6, yX6_finish, cX6_finish, 1, (some (FieldType.int))) := rfl
set_option maxRecDepth 100000 in
theorem hm_71 : ma_md 71 = some (6, yX6_findRoom, cX6_findRoom, 4, (some (FieldType.int))) := rfl
set_option maxRecDepth 100000 in
theorem hm_72 : ma_md 72 = some (6, yX6_goOn, cX6_goOn, 3, (some (FieldType.int))) := rfl
set_option maxRecDepth 100000 in
theorem hm_73 : ma_md 73 = some (6, yX6_noteMade, cX6_noteMade, 2, none) := rfl
set_option maxRecDepth 100000 in
theorem hm_74 : ma_md 74 = some (6, yX6_noteChange, cX6_noteChange, 3, none) := rfl
set_option maxRecDepth 100000 in
theorem hm_75 : ma_md 75 = some (6, yX6_noteStrong, cX6_noteStrong, 2, none) := rfl
set_option maxRecDepth 100000 in
theorem hm_76 : ma_md 76 = some (6, yX6_colourOf, cX6_colourOf, 2, (some (FieldType.int))) := rfl
set_option maxRecDepth 100000 in
theorem hm_77 : ma_md 77 = some (6, yX6_specials, cX6_specials, 1, (some (FieldType.int))) := rfl
set_option maxRecDepth 100000 in
theorem hm_78 : ma_md 78 = some (6, yX6_isMarking, cX6_isMarking, 1, (some (FieldType.boolean))) := rfl
set_option maxRecDepth 100000 in
theorem hm_81 : ma_md 81 = some (7, yX7_thingAt, cX7_thingAt, 2, (some (FieldType.object "CollectorHouse$Thing"))) := rfl
set_option maxRecDepth 100000 in
theorem hm_82 : ma_md 82 = some (7, yX7_referenceOf, cX7_referenceOf, 6, (some (FieldType.object "CollectorHouse$Thing"))) := rfl
set_option maxRecDepth 100000 in
theorem hm_83 : ma_md 83 = some (7, yX7_grantWishes, cX7_grantWishes, 4, none) := rfl
set_option maxRecDepth 100000 in
theorem hm_84 : ma_md 84 = some (7, yX7_grant, cX7_grant, 2, none) := rfl
set_option maxRecDepth 100000 in
theorem hm_85 : ma_md 85 = some (7, yX7_clearWeak, cX7_clearWeak, 3, none) := rfl
set_option maxRecDepth 100000 in
theorem hm_86 : ma_md 86 = some (7, yX7_removeOthers, cX7_removeOthers, 5, (some (FieldType.int))) := rfl
set_option maxRecDepth 100000 in
theorem hm_87 : ma_md 87 = some (7, yX7_remove, cX7_remove, 4, none) := rfl
set_option maxRecDepth 100000 in
theorem hm_88 : ma_md 88 = some (7, yX7_freeWords, cX7_freeWords, 4, none) := rfl
set_option maxRecDepth 100000 in
theorem hm_89 : ma_md 89 = some (7, yX7_thingFrom, cX7_thingFrom, 3, (some (FieldType.object "CollectorHouse$Thing"))) := rfl
set_option maxRecDepth 100000 in
theorem hm_90 : ma_md 90 = some (7, yX7_move, cX7_move, 5, none) := rfl
set_option maxRecDepth 100000 in
theorem hm_92 : ma_md 92 = some (7, yX7_changeRoot, cX7_changeRoot, 4, (some (FieldType.object "CollectorHouse$Thing"))) := rfl
set_option maxRecDepth 100000 in
theorem hm_93 : ma_md 93 = some (7, yX7_changeCounts, cX7_changeCounts, 2, none) := rfl
set_option maxRecDepth 100000 in
theorem hm_94 : ma_md 94 = some (7, yX7_changeReference, cX7_changeReference, 5, (some (FieldType.object "CollectorHouse$Thing"))) := rfl
set_option maxRecDepth 100000 in
theorem hm_95 : ma_md 95 = some (7, yX7_changeInt, cX7_changeInt, 6, (some (FieldType.int))) := rfl
set_option maxRecDepth 100000 in
theorem hm_96 : ma_md 96 = some (7, yX7_wordOf, cX7_wordOf, 4, (some (FieldType.int))) := rfl
set_option maxRecDepth 100000 in
theorem hm_97 : ma_md 97 = some (7, yX7_changeHolds, cX7_changeHolds, 3, none) := rfl
set_option maxRecDepth 100000 in
theorem hm_98 : ma_md 98 = some (7, yX7_takeWish, cX7_takeWish, 3, (some (FieldType.object "CollectorHouse$Thing"))) := rfl
set_option maxRecDepth 100000 in
theorem hm_100 : ma_md 100 = some (8, yX8_open, cX8_open, 2, none) := rfl
set_option maxRecDepth 100000 in
theorem hm_101 : ma_md 101 = some (8, yX8_total, cX8_total, 1, (some (FieldType.int))) := rfl
set_option maxRecDepth 100000 in
theorem hm_102 : ma_md 102 = some (8, yX8_findRoom, cX8_findRoom, 3, (some (FieldType.int))) := rfl
set_option maxRecDepth 100000 in
theorem hm_103 : ma_md 103 = some (8, yX8_fit, cX8_fit, 2, (some (FieldType.int))) := rfl
set_option maxRecDepth 100000 in
theorem hm_104 : ma_md 104 = some (8, yX8_fitFirst, cX8_fitFirst, 7, (some (FieldType.int))) := rfl
set_option maxRecDepth 100000 in
theorem hm_105 : ma_md 105 = some (8, yX8_freeFrom, cX8_freeFrom, 4, (some (FieldType.int))) := rfl
set_option maxRecDepth 100000 in
theorem hm_106 : ma_md 106 = some (8, yX8_freeEnd, cX8_freeEnd, 3, (some (FieldType.int))) := rfl
set_option maxRecDepth 100000 in
theorem hm_107 : ma_md 107 = some (8, yX8_fitNext, cX8_fitNext, 3, (some (FieldType.int))) := rfl
set_option maxRecDepth 100000 in
theorem hm_108 : ma_md 108 = some (8, yX8_fitByLength, cX8_fitByLength, 9, (some (FieldType.int))) := rfl
set_option maxRecDepth 100000 in
theorem hm_109 : ma_md 109 = some (8, yX8_cleanAll, cX8_cleanAll, 1, (some (FieldType.int))) := rfl
set_option maxRecDepth 100000 in
theorem hm_110 : ma_md 110 = some (8, yX8_noteMade, cX8_noteMade, 2, none) := rfl
set_option maxRecDepth 100000 in
theorem hm_113 : ma_md 113 = some (9, yX9_isReference, cX9_isReference, 2, (some (FieldType.boolean))) := rfl
set_option maxRecDepth 100000 in
theorem hm_114 : ma_md 114 = some (9, yX9_hasWord, cX9_hasWord, 2, (some (FieldType.boolean))) := rfl
set_option maxRecDepth 100000 in
theorem hm_116 : ma_md 116 = some (10, yX10_reachAll, cX10_reachAll, 1, none) := rfl
set_option maxRecDepth 100000 in
theorem hm_117 : ma_md 117 = some (10, yX10_restart, cX10_restart, 2, none) := rfl
set_option maxRecDepth 100000 in
theorem hm_118 : ma_md 118 = some (10, yX10_comeFromRoots, cX10_comeFromRoots, 3, none) := rfl
set_option maxRecDepth 100000 in
theorem hm_119 : ma_md 119 = some (10, yX10_comes, cX10_comes, 2, none) := rfl
set_option maxRecDepth 100000 in
theorem hm_120 : ma_md 120 = some (10, yX10_spread, cX10_spread, 5, (some (FieldType.int))) := rfl
set_option maxRecDepth 100000 in
theorem hm_121 : ma_md 121 = some (10, yX10_blacken, cX10_blacken, 2, none) := rfl
set_option maxRecDepth 100000 in
theorem hm_122 : ma_md 122 = some (10, yX10_keeps, cX10_keeps, 2, (some (FieldType.boolean))) := rfl
set_option maxRecDepth 100000 in
theorem hm_123 : ma_md 123 = some (10, yX10_colourOf, cX10_colourOf, 2, (some (FieldType.int))) := rfl
set_option maxRecDepth 100000 in
theorem hm_124 : ma_md 124 = some (10, yX10_thingInQueue, cX10_thingInQueue, 2, (some (FieldType.object "CollectorHouse$Thing"))) := rfl
set_option maxRecDepth 100000 in
theorem hm_125 : ma_md 125 = some (10, yX10_isEmpty, cX10_isEmpty, 1, (some (FieldType.boolean))) := rfl
set_option maxRecDepth 100000 in
theorem hm_146 : ma_md 146 = some (11, yX11_numberOf, cX11_numberOf, 1, (some (FieldType.int))) := rfl
set_option maxRecDepth 100000 in
theorem hm_263 : ma_md 263 = some (13, yX1_slideDown, cX1_slideDown, 5, (some (FieldType.int))) := rfl
set_option maxRecDepth 100000 in
theorem hm_264 : ma_md 264 = some (13, yX1_removeUnreached, cX1_removeUnreached, 1, (some (FieldType.int))) := rfl
set_option maxRecDepth 100000 in
theorem hm_276 : ma_md 276 = some (15, yJ7_fill_53178, cJ7_fill_53178, 4, none) := rfl
theorem s_66 : zs 66 = some (20, 4) := rfl
theorem s_69 : zs 69 = some (7, 13) := rfl
theorem s_70 : zs 70 = some (24, 512) := rfl
theorem s_71 : zs 71 = some (20, 4500) := rfl
theorem s_72 : zs 72 = some (20, 16) := rfl
theorem s_73 : zs 73 = some (20, 16) := rfl
theorem s_74 : zs 74 = some (20, 512) := rfl
theorem s_75 : zs 75 = some (10, 6) := rfl
theorem s_76 : zs 76 = some (20, 512) := rfl
theorem s_77 : zs 77 = some (20, 512) := rfl
theorem s_79 : zs 79 = some (8, 5) := rfl
theorem s_80 : zs 80 = some (5, 4) := rfl
theorem s_81 : zs 81 = some (3, 5) := rfl
theorem s_82 : zs 82 = some (1, 10) := rfl
theorem s_83 : zs 83 = some (20, 375) := rfl
theorem s_84 : zs 84 = some (2, 8) := rfl
theorem s_85 : zs 85 = some (24, 512) := rfl
theorem s_86 : zs 86 = some (20, 512) := rfl
theorem s_87 : zs 87 = some (6, 9) := rfl
theorem s_88 : zs 88 = some (10, 6) := rfl
theorem s_89 : zs 89 = some (20, 512) := rfl
theorem s_90 : zs 90 = some (20, 512) := rfl
theorem s_91 : zs 91 = some (4, 9) := rfl
theorem r_69_0 : zfi 69 0 = some 70 := rfl
theorem r_69_1 : zfi 69 1 = some 71 := rfl
theorem r_69_2 : zfi 69 2 = some 72 := rfl
theorem r_69_3 : zfi 69 3 = some 73 := rfl
theorem r_69_4 : zfi 69 4 = some 74 := rfl
theorem r_75_0 : zfi 75 0 = some 69 := rfl
theorem r_75_1 : zfi 75 1 = some 76 := rfl
theorem r_75_2 : zfi 75 2 = some 77 := rfl
theorem r_79_0 : zfi 79 0 = some 69 := rfl
theorem r_79_1 : zfi 79 1 = some 75 := rfl
theorem r_80_0 : zfi 80 0 = some 69 := rfl
theorem r_80_1 : zfi 80 1 = some 75 := rfl
theorem r_81_0 : zfi 81 0 = some 69 := rfl
theorem r_81_1 : zfi 81 1 = some 75 := rfl
theorem r_82_0 : zfi 82 0 = some 69 := rfl
theorem r_82_1 : zfi 82 1 = some 75 := rfl
theorem r_82_9 : zfi 82 9 = some 83 := rfl
theorem r_84_3 : zfi 84 3 = some 69 := rfl
theorem r_84_4 : zfi 84 4 = some 75 := rfl
theorem r_84_5 : zfi 84 5 = some 85 := rfl
theorem r_84_6 : zfi 84 6 = some 86 := rfl
theorem r_87_3 : zfi 87 3 = some 69 := rfl
theorem r_87_5 : zfi 87 5 = some 88 := rfl
theorem r_88_0 : zfi 88 0 = some 69 := rfl
theorem r_88_1 : zfi 88 1 = some 89 := rfl
theorem r_88_2 : zfi 88 2 = some 90 := rfl
theorem r_91_0 : zfi 91 0 = some 69 := rfl
theorem r_91_1 : zfi 91 1 = some 75 := rfl
theorem f_1_9_1 : ma_fld 1 9 1 = some 9 := by decide +kernel
theorem f_1_15_1 : ma_fld 1 15 1 = some 2 := by decide +kernel
theorem f_1_19_1 : ma_fld 1 19 1 = some 3 := by decide +kernel
theorem f_1_22_1 : ma_fld 1 22 1 = some 4 := by decide +kernel
theorem f_1_25_1 : ma_fld 1 25 1 = some 5 := by decide +kernel
theorem f_1_28_1 : ma_fld 1 28 1 = some 6 := by decide +kernel
theorem f_1_31_1 : ma_fld 1 31 1 = some 7 := by decide +kernel
theorem f_1_34_1 : ma_fld 1 34 1 = some 8 := by decide +kernel
theorem f_1_62_9 : ma_fld 1 62 9 = some 4 := by decide +kernel
theorem f_1_67_9 : ma_fld 1 67 9 = some 2 := by decide +kernel
theorem f_1_70_1 : ma_fld 1 70 1 = some 1 := by decide +kernel
theorem f_1_80_1 : ma_fld 1 80 1 = some 0 := by decide +kernel
theorem f_1_119_7 : ma_fld 1 119 7 = some 6 := by decide +kernel
theorem f_1_126_9 : ma_fld 1 126 9 = some 5 := by decide +kernel
theorem f_1_147_10 : ma_fld 1 147 10 = some 4 := by decide +kernel
theorem f_2_11_2 : ma_fld 2 11 2 = some 5 := by decide +kernel
theorem f_2_17_2 : ma_fld 2 17 2 = some 6 := by decide +kernel
theorem f_2_21_9 : ma_fld 2 21 9 = some 6 := by decide +kernel
theorem f_2_25_2 : ma_fld 2 25 2 = some 7 := by decide +kernel
theorem f_2_41_2 : ma_fld 2 41 2 = some 3 := by decide +kernel
theorem f_2_57_9 : ma_fld 2 57 9 = some 8 := by decide +kernel
theorem f_3_9_3 : ma_fld 3 9 3 = some 2 := by decide +kernel
theorem f_3_15_3 : ma_fld 3 15 3 = some 3 := by decide +kernel
theorem f_3_18_3 : ma_fld 3 18 3 = some 4 := by decide +kernel
theorem f_3_29_9 : ma_fld 3 29 9 = some 4 := by decide +kernel
theorem f_3_34_9 : ma_fld 3 34 9 = some 2 := by decide +kernel
theorem f_3_40_3 : ma_fld 3 40 3 = some 1 := by decide +kernel
theorem f_3_44_10 : ma_fld 3 44 10 = some 4 := by decide +kernel
theorem f_3_53_3 : ma_fld 3 53 3 = some 0 := by decide +kernel
theorem f_5_9_5 : ma_fld 5 9 5 = some 2 := by decide +kernel
theorem f_5_15_5 : ma_fld 5 15 5 = some 3 := by decide +kernel
theorem f_5_22_9 : ma_fld 5 22 9 = some 4 := by decide +kernel
theorem f_5_27_9 : ma_fld 5 27 9 = some 2 := by decide +kernel
theorem f_6_14_6 : ma_fld 6 14 6 = some 5 := by decide +kernel
theorem f_6_24_6 : ma_fld 6 24 6 = some 6 := by decide +kernel
theorem f_6_28_6 : ma_fld 6 28 6 = some 7 := by decide +kernel
theorem f_6_31_6 : ma_fld 6 31 6 = some 8 := by decide +kernel
theorem f_6_35_6 : ma_fld 6 35 6 = some 0 := by decide +kernel
theorem f_6_38_6 : ma_fld 6 38 6 = some 3 := by decide +kernel
theorem f_6_42_7 : ma_fld 6 42 7 = some 8 := by decide +kernel
theorem f_6_104_10 : ma_fld 6 104 10 = some 4 := by decide +kernel
theorem f_6_107_10 : ma_fld 6 107 10 = some 3 := by decide +kernel
theorem f_7_11_7 : ma_fld 7 11 7 = some 0 := by decide +kernel
theorem f_7_17_7 : ma_fld 7 17 7 = some 1 := by decide +kernel
theorem f_7_21_7 : ma_fld 7 21 7 = some 2 := by decide +kernel
theorem f_7_24_7 : ma_fld 7 24 7 = some 3 := by decide +kernel
theorem f_7_27_7 : ma_fld 7 27 7 = some 4 := by decide +kernel
theorem f_7_36_7 : ma_fld 7 36 7 = some 5 := by decide +kernel
theorem f_7_40_7 : ma_fld 7 40 7 = some 6 := by decide +kernel
theorem f_7_43_7 : ma_fld 7 43 7 = some 7 := by decide +kernel
theorem f_7_46_7 : ma_fld 7 46 7 = some 8 := by decide +kernel
theorem f_7_49_7 : ma_fld 7 49 7 = some 9 := by decide +kernel
theorem f_7_52_7 : ma_fld 7 52 7 = some 10 := by decide +kernel
theorem f_7_55_7 : ma_fld 7 55 7 = some 11 := by decide +kernel
theorem f_7_61_9 : ma_fld 7 61 9 = some 4 := by decide +kernel
theorem f_7_64_9 : ma_fld 7 64 9 = some 2 := by decide +kernel
theorem f_7_67_9 : ma_fld 7 67 9 = some 0 := by decide +kernel
theorem f_7_74_9 : ma_fld 7 74 9 = some 3 := by decide +kernel
theorem f_7_98_9 : ma_fld 7 98 9 = some 6 := by decide +kernel
theorem f_7_101_9 : ma_fld 7 101 9 = some 7 := by decide +kernel
theorem f_7_108_9 : ma_fld 7 108 9 = some 8 := by decide +kernel
theorem f_8_9_2 : ma_fld 8 9 2 = some 0 := by decide +kernel
theorem f_8_9_6 : ma_fld 8 9 6 = some 0 := by decide +kernel
theorem f_8_9_8 : ma_fld 8 9 8 = some 2 := by decide +kernel
theorem f_8_15_2 : ma_fld 8 15 2 = some 1 := by decide +kernel
theorem f_8_15_6 : ma_fld 8 15 6 = some 1 := by decide +kernel
theorem f_8_15_8 : ma_fld 8 15 8 = some 3 := by decide +kernel
theorem f_8_18_2 : ma_fld 8 18 2 = some 2 := by decide +kernel
theorem f_8_18_6 : ma_fld 8 18 6 = some 2 := by decide +kernel
theorem f_8_18_8 : ma_fld 8 18 8 = some 4 := by decide +kernel
theorem f_8_29_9 : ma_fld 8 29 9 = some 4 := by decide +kernel
theorem f_8_34_9 : ma_fld 8 34 9 = some 2 := by decide +kernel
theorem f_8_46_2 : ma_fld 8 46 2 = some 3 := by decide +kernel
theorem f_8_46_6 : ma_fld 8 46 6 = some 3 := by decide +kernel
theorem f_8_46_8 : ma_fld 8 46 8 = some 0 := by decide +kernel
theorem f_8_67_7 : ma_fld 8 67 7 = some 12 := by decide +kernel
theorem f_9_16_9 : ma_fld 9 16 9 = some 2 := by decide +kernel
theorem f_9_19_9 : ma_fld 9 19 9 = some 3 := by decide +kernel
theorem f_10_9_10 : ma_fld 10 9 10 = some 1 := by decide +kernel
theorem f_10_15_10 : ma_fld 10 15 10 = some 2 := by decide +kernel
theorem f_10_18_10 : ma_fld 10 18 10 = some 0 := by decide +kernel
theorem f_10_28_10 : ma_fld 10 28 10 = some 3 := by decide +kernel
theorem f_10_32_10 : ma_fld 10 32 10 = some 4 := by decide +kernel
theorem f_10_35_10 : ma_fld 10 35 10 = some 5 := by decide +kernel
theorem f_10_49_9 : ma_fld 10 49 9 = some 4 := by decide +kernel
theorem f_10_58_9 : ma_fld 10 58 9 = some 0 := by decide +kernel
theorem f_10_61_7 : ma_fld 10 61 7 = some 2 := by decide +kernel
theorem f_10_74_7 : ma_fld 10 74 7 = some 5 := by decide +kernel
theorem f_10_77_7 : ma_fld 10 77 7 = some 4 := by decide +kernel
theorem f_10_80_7 : ma_fld 10 80 7 = some 6 := by decide +kernel
theorem f_10_83_9 : ma_fld 10 83 9 = some 7 := by decide +kernel
theorem f_10_89_9 : ma_fld 10 89 9 = some 2 := by decide +kernel
theorem f_11_182_9 : ma_fld 11 182 9 = some 0 := by decide +kernel
theorem f_13_9_1 : ma_fld 13 9 1 = some 0 := by decide +kernel
theorem f_13_9_2 : ma_fld 13 9 2 = some 3 := by decide +kernel
theorem f_13_9_3 : ma_fld 13 9 3 = some 0 := by decide +kernel
theorem f_13_9_4 : ma_fld 13 9 4 = some 0 := by decide +kernel
theorem f_13_9_5 : ma_fld 13 9 5 = some 0 := by decide +kernel
theorem f_13_9_8 : ma_fld 13 9 8 = some 0 := by decide +kernel
theorem f_13_15_2 : ma_fld 13 15 2 = some 4 := by decide +kernel
theorem f_13_15_3 : ma_fld 13 15 3 = some 1 := by decide +kernel
theorem f_13_15_4 : ma_fld 13 15 4 = some 1 := by decide +kernel
theorem f_13_15_5 : ma_fld 13 15 5 = some 1 := by decide +kernel
theorem f_13_15_8 : ma_fld 13 15 8 = some 1 := by decide +kernel
theorem f_13_38_9 : ma_fld 13 38 9 = some 2 := by decide +kernel
theorem f_13_44_9 : ma_fld 13 44 9 = some 7 := by decide +kernel
theorem f_13_51_9 : ma_fld 13 51 9 = some 4 := by decide +kernel
theorem p_1_15_1 : ma_pk 1 15 1 2 = true := by decide +kernel
theorem p_1_19_1 : ma_pk 1 19 1 3 = true := by decide +kernel
theorem p_1_22_1 : ma_pk 1 22 1 4 = true := by decide +kernel
theorem p_1_25_1 : ma_pk 1 25 1 5 = true := by decide +kernel
theorem p_1_28_1 : ma_pk 1 28 1 6 = true := by decide +kernel
theorem p_1_31_1 : ma_pk 1 31 1 7 = true := by decide +kernel
theorem p_1_34_1 : ma_pk 1 34 1 8 = true := by decide +kernel
theorem p_1_126_9 : ma_pk 1 126 9 5 = true := by decide +kernel
theorem p_2_25_2 : ma_pk 2 25 2 7 = true := by decide +kernel
theorem p_3_9_3 : ma_pk 3 9 3 2 = true := by decide +kernel
theorem p_3_15_3 : ma_pk 3 15 3 3 = true := by decide +kernel
theorem p_3_18_3 : ma_pk 3 18 3 4 = true := by decide +kernel
theorem p_5_9_5 : ma_pk 5 9 5 2 = true := by decide +kernel
theorem p_5_15_5 : ma_pk 5 15 5 3 = true := by decide +kernel
theorem p_6_24_6 : ma_pk 6 24 6 6 = true := by decide +kernel
theorem p_6_28_6 : ma_pk 6 28 6 7 = true := by decide +kernel
theorem p_6_31_6 : ma_pk 6 31 6 8 = true := by decide +kernel
theorem p_7_36_7 : ma_pk 7 36 7 5 = true := by decide +kernel
theorem p_7_43_7 : ma_pk 7 43 7 7 = true := by decide +kernel
theorem p_7_46_7 : ma_pk 7 46 7 8 = true := by decide +kernel
theorem p_7_49_7 : ma_pk 7 49 7 9 = true := by decide +kernel
theorem p_7_52_7 : ma_pk 7 52 7 10 = true := by decide +kernel
theorem p_7_55_7 : ma_pk 7 55 7 11 = true := by decide +kernel
theorem p_7_61_9 : ma_pk 7 61 9 4 = true := by decide +kernel
theorem p_7_98_9 : ma_pk 7 98 9 6 = true := by decide +kernel
theorem p_7_101_9 : ma_pk 7 101 9 7 = true := by decide +kernel
theorem p_7_108_9 : ma_pk 7 108 9 8 = true := by decide +kernel
theorem p_8_9_2 : ma_pk 8 9 2 0 = true := by decide +kernel
theorem p_8_9_6 : ma_pk 8 9 6 0 = true := by decide +kernel
theorem p_8_9_8 : ma_pk 8 9 8 2 = true := by decide +kernel
theorem p_8_15_2 : ma_pk 8 15 2 1 = true := by decide +kernel
theorem p_8_15_6 : ma_pk 8 15 6 1 = true := by decide +kernel
theorem p_8_15_8 : ma_pk 8 15 8 3 = true := by decide +kernel
theorem p_8_18_2 : ma_pk 8 18 2 2 = true := by decide +kernel
theorem p_8_18_6 : ma_pk 8 18 6 2 = true := by decide +kernel
theorem p_8_18_8 : ma_pk 8 18 8 4 = true := by decide +kernel
theorem p_8_67_7 : ma_pk 8 67 7 12 = true := by decide +kernel
theorem p_10_28_10 : ma_pk 10 28 10 3 = true := by decide +kernel
theorem p_10_32_10 : ma_pk 10 32 10 4 = true := by decide +kernel
theorem p_10_35_10 : ma_pk 10 35 10 5 = true := by decide +kernel
theorem v_1_43_1 : ma_vl 1 43 1 = some (1, 4, 1) := by decide +kernel
theorem v_1_47_1 : ma_vl 1 47 1 = some (1, 10, 1) := by decide +kernel
theorem v_1_51_1 : ma_vl 1 51 1 = some (1, 11, 0) := by decide +kernel
theorem v_1_55_1 : ma_vl 1 55 1 = some (1, 5, 0) := by decide +kernel
theorem v_1_58_1 : ma_vl 1 58 1 = some (1, 7, 1) := by decide +kernel
theorem v_1_74_10 : ma_vl 1 74 10 = some (0, 116, 0) := by decide +kernel
theorem v_1_84_7 : ma_vl 1 84 7 = some (0, 83, 1) := by decide +kernel
theorem v_1_90_7 : ma_vl 1 90 7 = some (0, 86, 1) := by decide +kernel
theorem v_1_94_1 : ma_vl 1 94 1 = some (2, 263, 1) := by decide +kernel
theorem v_1_97_1 : ma_vl 1 97 1 = some (1, 6, 0) := by decide +kernel
theorem v_1_100_1 : ma_vl 1 100 1 = some (1, 12, 0) := by decide +kernel
theorem v_1_103_10 : ma_vl 1 103 10 = some (0, 117, 1) := by decide +kernel
theorem v_1_107_10 : ma_vl 1 107 10 = some (0, 118, 0) := by decide +kernel
theorem v_1_110_1 : ma_vl 1 110 1 = some (1, 13, 0) := by decide +kernel
theorem v_1_113_10 : ma_vl 1 113 10 = some (0, 120, 1) := by decide +kernel
theorem v_1_116_1 : ma_vl 1 116 1 = some (1, 15, 0) := by decide +kernel
theorem v_1_122_7 : ma_vl 1 122 7 = some (0, 81, 1) := by decide +kernel
theorem v_1_129_7 : ma_vl 1 129 7 = some (0, 89, 1) := by decide +kernel
theorem v_1_132_1 : ma_vl 1 132 1 = some (1, 14, 1) := by decide +kernel
theorem v_1_136_1 : ma_vl 1 136 1 = some (1, 9, 2) := by decide +kernel
theorem v_1_140_7 : ma_vl 1 140 7 = some (0, 82, 2) := by decide +kernel
theorem v_1_144_10 : ma_vl 1 144 10 = some (0, 119, 1) := by decide +kernel
theorem v_1_150_10 : ma_vl 1 150 10 = some (0, 124, 1) := by decide +kernel
theorem v_1_153_1 : ma_vl 1 153 1 = some (1, 16, 1) := by decide +kernel
theorem v_1_156_7 : ma_vl 1 156 7 = some (0, 90, 2) := by decide +kernel
theorem v_1_160_1 : ma_vl 1 160 1 = some (0, 8, 3) := by decide +kernel
theorem v_2_28_2 : ma_vl 2 28 2 = some (1, 25, 1) := by decide +kernel
theorem v_2_33_9 : ma_vl 2 33 9 = some (0, 114, 1) := by decide +kernel
theorem v_2_37_2 : ma_vl 2 37 2 = some (1, 26, 2) := by decide +kernel
theorem v_2_45_7 : ma_vl 2 45 7 = some (0, 87, 1) := by decide +kernel
theorem v_2_50_9 : ma_vl 2 50 9 = some (0, 113, 1) := by decide +kernel
theorem v_2_53_7 : ma_vl 2 53 7 = some (0, 94, 3) := by decide +kernel
theorem v_2_61_7 : ma_vl 2 61 7 = some (0, 84, 1) := by decide +kernel
theorem v_3_21_3 : ma_vl 3 21 3 = some (1, 32, 1) := by decide +kernel
theorem v_3_25_3 : ma_vl 3 25 3 = some (0, 33, 0) := by decide +kernel
theorem v_3_37_3 : ma_vl 3 37 3 = some (2, 264, 0) := by decide +kernel
theorem v_3_49_10 : ma_vl 3 49 10 = some (0, 124, 1) := by decide +kernel
theorem v_3_57_7 : ma_vl 3 57 7 = some (0, 90, 2) := by decide +kernel
theorem v_5_18_5 : ma_vl 5 18 5 = some (0, 62, 0) := by decide +kernel
theorem v_5_30_5 : ma_vl 5 30 5 = some (2, 264, 0) := by decide +kernel
theorem v_5_33_5 : ma_vl 5 33 5 = some (2, 263, 1) := by decide +kernel
theorem v_6_47_6 : ma_vl 6 47 6 = some (1, 68, 0) := by decide +kernel
theorem v_6_51_6 : ma_vl 6 51 6 = some (0, 72, 1) := by decide +kernel
theorem v_6_55_6 : ma_vl 6 55 6 = some (2, 103, 1) := by decide +kernel
theorem v_6_58_6 : ma_vl 6 58 6 = some (0, 67, 0) := by decide +kernel
theorem v_6_66_10 : ma_vl 6 66 10 = some (0, 121, 1) := by decide +kernel
theorem v_6_69_10 : ma_vl 6 69 10 = some (0, 120, 1) := by decide +kernel
theorem v_6_72_6 : ma_vl 6 72 6 = some (1, 69, 0) := by decide +kernel
theorem v_6_76_6 : ma_vl 6 76 6 = some (1, 70, 0) := by decide +kernel
theorem v_6_79_10 : ma_vl 6 79 10 = some (0, 125, 0) := by decide +kernel
theorem v_6_82_10 : ma_vl 6 82 10 = some (0, 117, 1) := by decide +kernel
theorem v_6_86_10 : ma_vl 6 86 10 = some (0, 118, 0) := by decide +kernel
theorem v_6_89_7 : ma_vl 6 89 7 = some (0, 83, 1) := by decide +kernel
theorem v_6_93_7 : ma_vl 6 93 7 = some (0, 86, 1) := by decide +kernel
theorem v_6_97_10 : ma_vl 6 97 10 = some (0, 119, 1) := by decide +kernel
theorem v_6_100_10 : ma_vl 6 100 10 = some (0, 123, 1) := by decide +kernel
theorem v_7_78_7 : ma_vl 7 78 7 = some (0, 82, 2) := by decide +kernel
theorem v_7_86_7 : ma_vl 7 86 7 = some (0, 95, 3) := by decide +kernel
theorem v_7_94_7 : ma_vl 7 94 7 = some (0, 81, 1) := by decide +kernel
theorem v_7_104_7 : ma_vl 7 104 7 = some (0, 85, 1) := by decide +kernel
theorem v_7_112_7 : ma_vl 7 112 7 = some (1, 88, 2) := by decide +kernel
theorem v_7_128_10 : ma_vl 7 128 10 = some (0, 122, 1) := by decide +kernel
theorem v_7_134_7 : ma_vl 7 134 7 = some (0, 84, 1) := by decide +kernel
theorem v_7_137_10 : ma_vl 7 137 10 = some (0, 119, 1) := by decide +kernel
theorem v_7_140_10 : ma_vl 7 140 10 = some (0, 120, 1) := by decide +kernel
theorem v_7_144_7 : ma_vl 7 144 7 = some (0, 87, 1) := by decide +kernel
theorem v_8_21_2 : ma_vl 8 21 2 = some (0, 103, 1) := by decide +kernel
theorem v_8_21_8 : ma_vl 8 21 8 = some (0, 103, 1) := by decide +kernel
theorem v_8_25_2 : ma_vl 8 25 2 = some (0, 109, 0) := by decide +kernel
theorem v_8_25_8 : ma_vl 8 25 8 = some (0, 109, 0) := by decide +kernel
theorem v_8_37_2 : ma_vl 8 37 2 = some (2, 264, 0) := by decide +kernel
theorem v_8_37_8 : ma_vl 8 37 8 = some (2, 264, 0) := by decide +kernel
theorem v_8_40_2 : ma_vl 8 40 2 = some (0, 105, 1) := by decide +kernel
theorem v_8_40_6 : ma_vl 8 40 6 = some (0, 105, 1) := by decide +kernel
theorem v_8_40_8 : ma_vl 8 40 8 = some (0, 105, 1) := by decide +kernel
theorem v_8_43_2 : ma_vl 8 43 2 = some (0, 106, 1) := by decide +kernel
theorem v_8_43_6 : ma_vl 8 43 6 = some (0, 106, 1) := by decide +kernel
theorem v_8_43_8 : ma_vl 8 43 8 = some (0, 106, 1) := by decide +kernel
theorem v_8_50_7 : ma_vl 8 50 7 = some (0, 89, 1) := by decide +kernel
theorem v_8_56_2 : ma_vl 8 56 2 = some (1, 104, 3) := by decide +kernel
theorem v_8_56_6 : ma_vl 8 56 6 = some (1, 104, 3) := by decide +kernel
theorem v_8_56_8 : ma_vl 8 56 8 = some (1, 104, 3) := by decide +kernel
theorem v_8_60_2 : ma_vl 8 60 2 = some (1, 107, 1) := by decide +kernel
theorem v_8_60_6 : ma_vl 8 60 6 = some (1, 107, 1) := by decide +kernel
theorem v_8_60_8 : ma_vl 8 60 8 = some (1, 107, 1) := by decide +kernel
theorem v_8_63_2 : ma_vl 8 63 2 = some (1, 108, 2) := by decide +kernel
theorem v_8_63_6 : ma_vl 8 63 6 = some (1, 108, 2) := by decide +kernel
theorem v_8_63_8 : ma_vl 8 63 8 = some (1, 108, 2) := by decide +kernel
theorem v_9_26_9 : ma_vl 9 26 9 = some (0, 114, 1) := by decide +kernel
theorem v_10_38_10 : ma_vl 10 38 10 = some (0, 117, 1) := by decide +kernel
theorem v_10_42_10 : ma_vl 10 42 10 = some (0, 118, 0) := by decide +kernel
theorem v_10_45_10 : ma_vl 10 45 10 = some (0, 120, 1) := by decide +kernel
theorem v_10_54_10 : ma_vl 10 54 10 = some (0, 123, 1) := by decide +kernel
theorem v_10_66_7 : ma_vl 10 66 7 = some (0, 81, 1) := by decide +kernel
theorem v_10_70_10 : ma_vl 10 70 10 = some (0, 119, 1) := by decide +kernel
theorem v_10_86_10 : ma_vl 10 86 10 = some (0, 121, 1) := by decide +kernel
theorem v_10_92_7 : ma_vl 10 92 7 = some (0, 82, 2) := by decide +kernel
theorem v_13_19_10 : ma_vl 13 19 10 = some (0, 116, 0) := by decide +kernel
theorem v_13_24_7 : ma_vl 13 24 7 = some (0, 83, 1) := by decide +kernel
theorem v_13_30_7 : ma_vl 13 30 7 = some (0, 86, 1) := by decide +kernel
theorem v_13_34_7 : ma_vl 13 34 7 = some (0, 89, 1) := by decide +kernel
theorem v_13_47_7 : ma_vl 13 47 7 = some (0, 90, 2) := by decide +kernel
theorem sl_1_37 : ma_sl 1 37 = some (5, 276, 2) := by decide +kernel
theorem pn_1_37 : ma_prt 1 37 = none := by decide +kernel
theorem sl_7_82 : ma_sl 7 82 = some (8, 146, 1) := by decide +kernel
theorem pn_7_82 : ma_prt 7 82 = none := by decide +kernel
theorem sl_7_90 : ma_sl 7 90 = some (5, 93, 2) := by decide +kernel
theorem pn_7_90 : ma_prt 7 90 = none := by decide +kernel
theorem sl_10_22 : ma_sl 10 22 = some (5, 276, 2) := by decide +kernel
theorem pn_10_22 : ma_prt 10 22 = none := by decide +kernel
theorem pr_7_116 : ma_prt 7 116 = some 1 := by decide +kernel
theorem pr_7_122 : ma_prt 7 122 = some 3 := by decide +kernel
theorem lc_2_32 : ma_lct 2 32 = some (1000000 : Int32) := by decide +kernel
theorem il_6_20 : (ma_fd 6 20 0 true 6 9).map (fun q => q.2.1) = some (7, 100, 1) := by decide +kernel
theorem ip_6_20 : ma_prt 6 20 = none := by decide +kernel
theorem il_6_62 : (ma_fd 6 62 0 true 6 9).map (fun q => q.2.1) = some (7, 110, 1) := by decide +kernel
theorem ip_6_62 : ma_prt 6 62 = none := by decide +kernel

