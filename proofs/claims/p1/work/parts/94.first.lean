/-! THE FIRST CALL on fresh objects -/
theorem zt {c A B : Prop} [Decidable c] (hc : c) (h : A) : if c then A else B := by rw [if_pos hc]; exact h
theorem zf {c A B : Prop} [Decidable c] (hc : ¬ c) (h : B) : if c then A else B := by rw [if_neg hc]; exact h
theorem zd {c A B : Prop} [Decidable c] (h1 : c → A) (h2 : ¬ c → B) : if c then A else B := by
  by_cases hc : c
  · exact zt hc (h1 hc)
  · exact zf hc (h2 hc)
theorem zi_x {K : Int32 → ma_S → Prop} {E : Nat → ma_S → Prop} {x : Nat} {S : ma_S} (h : E x S) : zi K E (.inr x) S := h
theorem zi_n {K : Int32 → ma_S → Prop} {E : Nat → ma_S → Prop} {v : Int32} {S : ma_S} (h : K v S) : zi K E (.inl (some (.inl v))) S := h
theorem zv_n {K : ma_S → Prop} {E : Nat → ma_S → Prop} {S : ma_S} (h : K S) : zv K E (.inl none) S := h
theorem zfi_n {K : Int32 → ma_S → Prop} {v : Int32} {S : ma_S} (h : K v S) : zfi_ K (some (.inl v)) S := h
theorem gg_1 : 0 ≤ ((0 : Int32) + (1 : Int32)) ∧ ((0 : Int32) + (1 : Int32)).toNatClampNeg < 6 := by decide
theorem gg_2 : 0 ≤ ((0 : Int32) + (2 : Int32)) ∧ ((0 : Int32) + (2 : Int32)).toNatClampNeg < 6 := by decide
theorem gg_3 : 0 ≤ ((0 : Int32) + (3 : Int32)) ∧ ((0 : Int32) + (3 : Int32)).toNatClampNeg < 6 := by decide
theorem gg_4 : 0 ≤ ((0 : Int32) + (4 : Int32)) ∧ ((0 : Int32) + (4 : Int32)).toNatClampNeg < 6 := by decide
theorem gg_5 : 0 ≤ ((0 : Int32) + (5 : Int32)) ∧ ((0 : Int32) + (5 : Int32)).toNatClampNeg < 6 := by decide
def zL : ma_L := [(0, .inr (.inr (some 30))), (1, .inr (.inr (some 64))), (2, .inr (.inr (some 94))), (3, .inr (.inr (some 125))), (4, .inl 0)]
/-- fresh objects: the house stands; no byte, no kind, no heap -/
def zP (S : ma_S) : Prop := zO S ∧ mI S 64 1 = 0 ∧ mI S 64 7 = 0 ∧ mR S 64 11 = none ∧ mI S 94 3 = 0 ∧ mI S 94 7 = 0 ∧ mI S 94 8 = 0 ∧ mI S 94 10 = 0
theorem hd_2_2 : ma_hd method_4_code 4 2 4 [(0, 9, 12, 19)] = some 1 := by decide +kernel
theorem hd_3_2 : ma_hd method_5_code 5 2 5 [(0, 10, 13, 19), (0, 10, 17, 25)] = some 1 := by decide +kernel
theorem hd_4_2 : ma_hd method_6_code 5 2 5 [(0, 10, 13, 19), (0, 10, 17, 25)] = some 1 := by decide +kernel
theorem hd_5_2 : ma_hd method_7_code 6 2 7 [(0, 12, 15, 19), (0, 12, 19, 25)] = some 1 := by decide +kernel
theorem hd_5_3 : ma_hd method_7_code 6 3 7 [(0, 12, 15, 19), (0, 12, 19, 25)] = some 2 := by decide +kernel
theorem hd_6_3 : ma_hd method_8_code 6 3 7 [(0, 12, 15, 25), (0, 12, 19, 38), (0, 12, 23, 13), (0, 12, 27, 40)] = some 1 := by decide +kernel
theorem hd_7_3 : ma_hd method_9_code 6 3 7 [(0, 12, 15, 25), (0, 12, 19, 38), (0, 12, 23, 13), (0, 12, 27, 40)] = some 1 := by decide +kernel
theorem hd_8_3 : ma_hd method_10_code 5 3 5 [(0, 10, 13, 25), (0, 10, 17, 38), (0, 10, 21, 13)] = some 1 := by decide +kernel
theorem hd_9_2 : ma_hd method_11_code 5 2 5 [(0, 10, 13, 19), (0, 10, 17, 25), (0, 10, 21, 38)] = some 1 := by decide +kernel
theorem hd_9_3 : ma_hd method_11_code 5 3 5 [(0, 10, 13, 19), (0, 10, 17, 25), (0, 10, 21, 38)] = some 2 := by decide +kernel
theorem hd_10_2 : ma_hd method_12_code 5 2 5 [(0, 10, 13, 19), (0, 10, 17, 25), (0, 10, 21, 38)] = some 1 := by decide +kernel
theorem hd_10_3 : ma_hd method_12_code 5 3 5 [(0, 10, 13, 19), (0, 10, 17, 25), (0, 10, 21, 38)] = some 2 := by decide +kernel
theorem hd_11_2 : ma_hd method_13_code 5 2 5 [(0, 10, 13, 19), (0, 10, 17, 25)] = some 1 := by decide +kernel
theorem hd_11_3 : ma_hd method_13_code 5 3 5 [(0, 10, 13, 19), (0, 10, 17, 25)] = some 2 := by decide +kernel
theorem hd_12_3 : ma_hd method_14_code 5 3 5 [(0, 10, 13, 25), (0, 10, 17, 38), (0, 10, 21, 61)] = some 1 := by decide +kernel
theorem hd_13_3 : ma_hd method_15_code 4 3 4 [(0, 9, 12, 25), (0, 9, 15, 38)] = some 1 := by decide +kernel
theorem hd_14_2 : ma_hd method_16_code 4 2 4 [(0, 9, 12, 19), (0, 9, 15, 25)] = some 1 := by decide +kernel
theorem hd_14_3 : ma_hd method_16_code 4 3 4 [(0, 9, 12, 19), (0, 9, 15, 25)] = some 2 := by decide +kernel
theorem hd_15_3 : ma_hd method_17_code 3 3 3 [(0, 8, 11, 25)] = some 1 := by decide +kernel
theorem hd_16_2 : ma_hd method_18_code 4 2 4 [(0, 9, 12, 19), (0, 9, 15, 25), (0, 9, 18, 61)] = some 1 := by decide +kernel
theorem hd_16_3 : ma_hd method_18_code 4 3 4 [(0, 9, 12, 19), (0, 9, 15, 25), (0, 9, 18, 61)] = some 2 := by decide +kernel
theorem hd_17_2 : ma_hd method_19_code 5 2 5 [(0, 10, 13, 19), (0, 10, 17, 25), (0, 10, 21, 38)] = some 1 := by decide +kernel
theorem hd_17_3 : ma_hd method_19_code 5 3 5 [(0, 10, 13, 19), (0, 10, 17, 25), (0, 10, 21, 38)] = some 2 := by decide +kernel
theorem hd_18_2 : ma_hd method_20_code 5 2 5 [(0, 10, 13, 19), (0, 10, 17, 25), (0, 10, 21, 61), (0, 10, 25, 13)] = some 1 := by decide +kernel
theorem hd_18_3 : ma_hd method_20_code 5 3 5 [(0, 10, 13, 19), (0, 10, 17, 25), (0, 10, 21, 61), (0, 10, 25, 13)] = some 2 := by decide +kernel
theorem hd_19_2 : ma_hd method_21_code 4 2 4 [(0, 9, 12, 19), (0, 9, 15, 25)] = some 1 := by decide +kernel
theorem hd_19_3 : ma_hd method_21_code 4 3 4 [(0, 9, 12, 19), (0, 9, 15, 25)] = some 2 := by decide +kernel
theorem p1_5 {ys : Nat → Int32} {Q : Option ma_V → ma_S → Prop} {S : ma_S} (F : zP S) (K : ∀ S', zO S' → mC S' ≤ mC S + 1 → mZ S' ≤ mZ S + 6 → ma_fp (6, ys) 0 13 494 1461 zL [] S' Q) : ma_fp (6, ys) 0 13 494 445 zL [] S Q := by
  obtain ⟨hS, f1, f7, f11, m3, m7, m8, m10⟩ := F
  refine gf_0_445 0 (by decide) (by decide) hS ?_
  refine ⟨gg_1, ?_⟩
  refine zd (fun h1 => ?_) (fun h1 => ?_)
  · skip
    refine ⟨gg_2, ?_⟩
    refine ⟨gg_3, ?_⟩
    refine gf_5_0 _ _ _ (by decide) (by decide) hS ?_
    refine g_147_0 _ _ _ (by decide) (by decide) hS ?_
    refine zd (fun h2 => ?_) (fun h2 => ?_)
    · skip
      refine zi_x ⟨1, hd_5_2, zfi_n ⟨hS, ?_⟩⟩
      refine ⟨gg_1, ?_⟩
      first | refine zt (by assumption) ?_ | refine zf (by assumption) ?_
      refine ⟨gg_2, ?_⟩
      refine ⟨gg_3, ?_⟩
      refine g_243_0 _ _ _ (by decide) (by decide) hS ?_
      repeat (first | refine zt (by first | assumption | exact Int32.not_lt.mp (by assumption) | exact Int32.not_le.mpr (by assumption) | exact Int32.not_le.mp (by assumption) | exact Int32.not_lt.mpr (by assumption)) ?_ | refine zf (by first | assumption | exact Int32.not_lt.mp (by assumption) | exact Int32.not_le.mpr (by assumption) | exact Int32.not_le.mp (by assumption) | exact Int32.not_lt.mpr (by assumption)) ?_)
      exact zi_n ⟨hS, zt rfl (zf (by decide) (K _ hS (Nat.le_refl _) (Nat.le_refl _)))⟩
    · skip
      refine zd (fun h3 => ?_) (fun h3 => ?_)
      · skip
        refine zi_x ⟨1, hd_5_2, zfi_n ⟨hS, ?_⟩⟩
        refine ⟨gg_1, ?_⟩
        first | refine zt (by assumption) ?_ | refine zf (by assumption) ?_
        refine ⟨gg_2, ?_⟩
        refine ⟨gg_3, ?_⟩
        refine g_243_0 _ _ _ (by decide) (by decide) hS ?_
        repeat (first | refine zt (by first | assumption | exact Int32.not_lt.mp (by assumption) | exact Int32.not_le.mpr (by assumption) | exact Int32.not_le.mp (by assumption) | exact Int32.not_lt.mpr (by assumption)) ?_ | refine zf (by first | assumption | exact Int32.not_lt.mp (by assumption) | exact Int32.not_le.mpr (by assumption) | exact Int32.not_le.mp (by assumption) | exact Int32.not_lt.mpr (by assumption)) ?_)
        exact zi_n ⟨hS, zt rfl (zf (by decide) (K _ hS (Nat.le_refl _) (Nat.le_refl _)))⟩
      · skip
        refine zd (fun h4 => ?_) (fun h4 => ?_)
        · skip
          refine zi_x ⟨1, hd_5_2, zfi_n ⟨hS, ?_⟩⟩
          refine ⟨gg_1, ?_⟩
          first | refine zt (by assumption) ?_ | refine zf (by assumption) ?_
          refine ⟨gg_2, ?_⟩
          refine ⟨gg_3, ?_⟩
          refine g_243_0 _ _ _ (by decide) (by decide) hS ?_
          repeat (first | refine zt (by first | assumption | exact Int32.not_lt.mp (by assumption) | exact Int32.not_le.mpr (by assumption) | exact Int32.not_le.mp (by assumption) | exact Int32.not_lt.mpr (by assumption)) ?_ | refine zf (by first | assumption | exact Int32.not_lt.mp (by assumption) | exact Int32.not_le.mpr (by assumption) | exact Int32.not_le.mp (by assumption) | exact Int32.not_lt.mpr (by assumption)) ?_)
          exact zi_n ⟨hS, zt rfl (zf (by decide) (K _ hS (Nat.le_refl _) (Nat.le_refl _)))⟩
        · skip
          refine zd (fun h5 => ?_) (fun h5 => ?_)
          · skip
            refine zi_x ⟨1, hd_5_2, zfi_n ⟨hS, ?_⟩⟩
            refine ⟨gg_1, ?_⟩
            first | refine zt (by assumption) ?_ | refine zf (by assumption) ?_
            refine ⟨gg_2, ?_⟩
            refine ⟨gg_3, ?_⟩
            refine g_243_0 _ _ _ (by decide) (by decide) hS ?_
            repeat (first | refine zt (by first | assumption | exact Int32.not_lt.mp (by assumption) | exact Int32.not_le.mpr (by assumption) | exact Int32.not_le.mp (by assumption) | exact Int32.not_lt.mpr (by assumption)) ?_ | refine zf (by first | assumption | exact Int32.not_lt.mp (by assumption) | exact Int32.not_le.mpr (by assumption) | exact Int32.not_le.mp (by assumption) | exact Int32.not_lt.mpr (by assumption)) ?_)
            exact zi_n ⟨hS, zt rfl (zf (by decide) (K _ hS (Nat.le_refl _) (Nat.le_refl _)))⟩
          · skip
            refine zd (fun h6 => ?_) (fun h6 => ?_)
            · skip
              refine g_143_0 _ _ _ _ (by decide) (by decide) hS ⟨fun _ => ?_, fun c hc => absurd (f11.symm.trans hc) (by intro z; cases z)⟩
              refine zi_x ?_
              refine zi_x ⟨2, hd_5_3, zfi_n ⟨hS, ?_⟩⟩
              refine ⟨gg_1, ?_⟩
              first | refine zt (by assumption) ?_ | refine zf (by assumption) ?_
              refine ⟨gg_2, ?_⟩
              refine ⟨gg_3, ?_⟩
              refine g_243_0 _ _ _ (by decide) (by decide) hS ?_
              repeat (first | refine zt (by first | assumption | exact Int32.not_lt.mp (by assumption) | exact Int32.not_le.mpr (by assumption) | exact Int32.not_le.mp (by assumption) | exact Int32.not_lt.mpr (by assumption)) ?_ | refine zf (by first | assumption | exact Int32.not_lt.mp (by assumption) | exact Int32.not_le.mpr (by assumption) | exact Int32.not_le.mp (by assumption) | exact Int32.not_lt.mpr (by assumption)) ?_)
              exact zi_n ⟨hS, zt rfl (zf (by decide) (K _ hS (Nat.le_refl _) (Nat.le_refl _)))⟩
            · skip
              refine g_143_0 _ _ _ _ (by decide) (by decide) hS ⟨fun _ => ?_, fun c hc => absurd (f11.symm.trans hc) (by intro z; cases z)⟩
              refine zi_x ?_
              refine zi_x ⟨2, hd_5_3, zfi_n ⟨hS, ?_⟩⟩
              refine ⟨gg_1, ?_⟩
              first | refine zt (by assumption) ?_ | refine zf (by assumption) ?_
              refine ⟨gg_2, ?_⟩
              refine ⟨gg_3, ?_⟩
              refine g_243_0 _ _ _ (by decide) (by decide) hS ?_
              repeat (first | refine zt (by first | assumption | exact Int32.not_lt.mp (by assumption) | exact Int32.not_le.mpr (by assumption) | exact Int32.not_le.mp (by assumption) | exact Int32.not_lt.mpr (by assumption)) ?_ | refine zf (by first | assumption | exact Int32.not_lt.mp (by assumption) | exact Int32.not_le.mpr (by assumption) | exact Int32.not_le.mp (by assumption) | exact Int32.not_lt.mpr (by assumption)) ?_)
              exact zi_n ⟨hS, zt rfl (zf (by decide) (K _ hS (Nat.le_refl _) (Nat.le_refl _)))⟩
  · skip
    refine ⟨gg_2, ?_⟩
    refine ⟨gg_3, ?_⟩
    refine gf_5_0 _ _ _ (by decide) (by decide) hS ?_
    refine g_147_0 _ _ _ (by decide) (by decide) hS ?_
    refine zd (fun h7 => ?_) (fun h7 => ?_)
    · skip
      refine zi_x ⟨1, hd_5_2, zfi_n ⟨hS, ?_⟩⟩
      refine ⟨gg_1, ?_⟩
      first | refine zt (by assumption) ?_ | refine zf (by assumption) ?_
      refine ⟨gg_2, ?_⟩
      refine ⟨gg_3, ?_⟩
      refine g_243_0 _ _ _ (by decide) (by decide) hS ?_
      repeat (first | refine zt (by first | assumption | exact Int32.not_lt.mp (by assumption) | exact Int32.not_le.mpr (by assumption) | exact Int32.not_le.mp (by assumption) | exact Int32.not_lt.mpr (by assumption)) ?_ | refine zf (by first | assumption | exact Int32.not_lt.mp (by assumption) | exact Int32.not_le.mpr (by assumption) | exact Int32.not_le.mp (by assumption) | exact Int32.not_lt.mpr (by assumption)) ?_)
      exact zi_n ⟨hS, zt rfl (zf (by decide) (K _ hS (Nat.le_refl _) (Nat.le_refl _)))⟩
    · skip
      refine zd (fun h8 => ?_) (fun h8 => ?_)
      · skip
        refine zi_x ⟨1, hd_5_2, zfi_n ⟨hS, ?_⟩⟩
        refine ⟨gg_1, ?_⟩
        first | refine zt (by assumption) ?_ | refine zf (by assumption) ?_
        refine ⟨gg_2, ?_⟩
        refine ⟨gg_3, ?_⟩
        refine g_243_0 _ _ _ (by decide) (by decide) hS ?_
        repeat (first | refine zt (by first | assumption | exact Int32.not_lt.mp (by assumption) | exact Int32.not_le.mpr (by assumption) | exact Int32.not_le.mp (by assumption) | exact Int32.not_lt.mpr (by assumption)) ?_ | refine zf (by first | assumption | exact Int32.not_lt.mp (by assumption) | exact Int32.not_le.mpr (by assumption) | exact Int32.not_le.mp (by assumption) | exact Int32.not_lt.mpr (by assumption)) ?_)
        exact zi_n ⟨hS, zt rfl (zf (by decide) (K _ hS (Nat.le_refl _) (Nat.le_refl _)))⟩
      · skip
        refine zd (fun h9 => ?_) (fun h9 => ?_)
        · skip
          refine zi_x ⟨1, hd_5_2, zfi_n ⟨hS, ?_⟩⟩
          refine ⟨gg_1, ?_⟩
          first | refine zt (by assumption) ?_ | refine zf (by assumption) ?_
          refine ⟨gg_2, ?_⟩
          refine ⟨gg_3, ?_⟩
          refine g_243_0 _ _ _ (by decide) (by decide) hS ?_
          repeat (first | refine zt (by first | assumption | exact Int32.not_lt.mp (by assumption) | exact Int32.not_le.mpr (by assumption) | exact Int32.not_le.mp (by assumption) | exact Int32.not_lt.mpr (by assumption)) ?_ | refine zf (by first | assumption | exact Int32.not_lt.mp (by assumption) | exact Int32.not_le.mpr (by assumption) | exact Int32.not_le.mp (by assumption) | exact Int32.not_lt.mpr (by assumption)) ?_)
          exact zi_n ⟨hS, zt rfl (zf (by decide) (K _ hS (Nat.le_refl _) (Nat.le_refl _)))⟩
        · skip
          refine zd (fun h10 => ?_) (fun h10 => ?_)
          · skip
            refine zi_x ⟨1, hd_5_2, zfi_n ⟨hS, ?_⟩⟩
            refine ⟨gg_1, ?_⟩
            first | refine zt (by assumption) ?_ | refine zf (by assumption) ?_
            refine ⟨gg_2, ?_⟩
            refine ⟨gg_3, ?_⟩
            refine g_243_0 _ _ _ (by decide) (by decide) hS ?_
            repeat (first | refine zt (by first | assumption | exact Int32.not_lt.mp (by assumption) | exact Int32.not_le.mpr (by assumption) | exact Int32.not_le.mp (by assumption) | exact Int32.not_lt.mpr (by assumption)) ?_ | refine zf (by first | assumption | exact Int32.not_lt.mp (by assumption) | exact Int32.not_le.mpr (by assumption) | exact Int32.not_le.mp (by assumption) | exact Int32.not_lt.mpr (by assumption)) ?_)
            exact zi_n ⟨hS, zt rfl (zf (by decide) (K _ hS (Nat.le_refl _) (Nat.le_refl _)))⟩
          · skip
            refine zd (fun h11 => ?_) (fun h11 => ?_)
            · skip
              refine g_143_0 _ _ _ _ (by decide) (by decide) hS ⟨fun _ => ?_, fun c hc => absurd (f11.symm.trans hc) (by intro z; cases z)⟩
              refine zi_x ?_
              refine zi_x ⟨2, hd_5_3, zfi_n ⟨hS, ?_⟩⟩
              refine ⟨gg_1, ?_⟩
              first | refine zt (by assumption) ?_ | refine zf (by assumption) ?_
              refine ⟨gg_2, ?_⟩
              refine ⟨gg_3, ?_⟩
              refine g_243_0 _ _ _ (by decide) (by decide) hS ?_
              repeat (first | refine zt (by first | assumption | exact Int32.not_lt.mp (by assumption) | exact Int32.not_le.mpr (by assumption) | exact Int32.not_le.mp (by assumption) | exact Int32.not_lt.mpr (by assumption)) ?_ | refine zf (by first | assumption | exact Int32.not_lt.mp (by assumption) | exact Int32.not_le.mpr (by assumption) | exact Int32.not_le.mp (by assumption) | exact Int32.not_lt.mpr (by assumption)) ?_)
              exact zi_n ⟨hS, zt rfl (zf (by decide) (K _ hS (Nat.le_refl _) (Nat.le_refl _)))⟩
            · skip
              refine g_143_0 _ _ _ _ (by decide) (by decide) hS ⟨fun _ => ?_, fun c hc => absurd (f11.symm.trans hc) (by intro z; cases z)⟩
              refine zi_x ?_
              refine zi_x ⟨2, hd_5_3, zfi_n ⟨hS, ?_⟩⟩
              refine ⟨gg_1, ?_⟩
              first | refine zt (by assumption) ?_ | refine zf (by assumption) ?_
              refine ⟨gg_2, ?_⟩
              refine ⟨gg_3, ?_⟩
              refine g_243_0 _ _ _ (by decide) (by decide) hS ?_
              repeat (first | refine zt (by first | assumption | exact Int32.not_lt.mp (by assumption) | exact Int32.not_le.mpr (by assumption) | exact Int32.not_le.mp (by assumption) | exact Int32.not_lt.mpr (by assumption)) ?_ | refine zf (by first | assumption | exact Int32.not_lt.mp (by assumption) | exact Int32.not_le.mpr (by assumption) | exact Int32.not_le.mp (by assumption) | exact Int32.not_lt.mpr (by assumption)) ?_)
              exact zi_n ⟨hS, zt rfl (zf (by decide) (K _ hS (Nat.le_refl _) (Nat.le_refl _)))⟩
theorem p1_6 {ys : Nat → Int32} {Q : Option ma_V → ma_S → Prop} {S : ma_S} (F : zP S) (K : ∀ S', zO S' → mC S' ≤ mC S + 1 → mZ S' ≤ mZ S + 6 → ma_fp (6, ys) 0 13 494 1461 zL [] S' Q) : ma_fp (6, ys) 0 13 494 541 zL [] S Q := by
  obtain ⟨hS, f1, f7, f11, m3, m7, m8, m10⟩ := F
  refine gf_0_541 0 (by decide) (by decide) hS ?_
  refine ⟨gg_1, ?_⟩
  refine ⟨gg_2, ?_⟩
  refine ⟨gg_3, ?_⟩
  refine gf_6_0 _ _ _ (by decide) (by decide) hS ?_
  refine g_148_0 _ _ _ (by decide) (by decide) hS ?_
  refine ⟨fun _ => ?_, fun c hc => absurd (f11.symm.trans hc) (by intro z; cases z)⟩
  refine zi_x ⟨1, hd_6_3, zfi_n ⟨hS, ?_⟩⟩
  refine ⟨gg_1, ?_⟩
  refine ⟨gg_2, ?_⟩
  refine ⟨gg_3, ?_⟩
  refine g_244_0 _ _ _ (by decide) (by decide) hS ?_
  repeat (first | refine zt (by first | assumption | exact Int32.not_lt.mp (by assumption) | exact Int32.not_le.mpr (by assumption) | exact Int32.not_le.mp (by assumption) | exact Int32.not_lt.mpr (by assumption)) ?_ | refine zf (by first | assumption | exact Int32.not_lt.mp (by assumption) | exact Int32.not_le.mpr (by assumption) | exact Int32.not_le.mp (by assumption) | exact Int32.not_lt.mpr (by assumption)) ?_)
  exact zi_n ⟨hS, zt rfl (zf (by decide) (K _ hS (Nat.le_refl _) (Nat.le_refl _)))⟩
theorem p1_7 {ys : Nat → Int32} {Q : Option ma_V → ma_S → Prop} {S : ma_S} (F : zP S) (K : ∀ S', zO S' → mC S' ≤ mC S + 1 → mZ S' ≤ mZ S + 6 → ma_fp (6, ys) 0 13 494 1461 zL [] S' Q) : ma_fp (6, ys) 0 13 494 621 zL [] S Q := by
  obtain ⟨hS, f1, f7, f11, m3, m7, m8, m10⟩ := F
  refine gf_0_621 0 (by decide) (by decide) hS ?_
  refine ⟨gg_1, ?_⟩
  refine ⟨gg_2, ?_⟩
  refine ⟨gg_3, ?_⟩
  refine gf_7_0 _ _ _ (by decide) (by decide) hS ?_
  refine g_150_0 _ _ _ (by decide) (by decide) hS ?_
  refine ⟨fun _ => ?_, fun c hc => absurd (f11.symm.trans hc) (by intro z; cases z)⟩
  refine zi_x ⟨1, hd_7_3, zfi_n ⟨hS, ?_⟩⟩
  refine ⟨gg_1, ?_⟩
  refine ⟨gg_2, ?_⟩
  refine ⟨gg_3, ?_⟩
  refine g_247_0 _ _ _ (by decide) (by decide) hS ?_
  repeat (first | refine zt (by first | assumption | exact Int32.not_lt.mp (by assumption) | exact Int32.not_le.mpr (by assumption) | exact Int32.not_le.mp (by assumption) | exact Int32.not_lt.mpr (by assumption)) ?_ | refine zf (by first | assumption | exact Int32.not_lt.mp (by assumption) | exact Int32.not_le.mpr (by assumption) | exact Int32.not_le.mp (by assumption) | exact Int32.not_lt.mpr (by assumption)) ?_)
  exact zi_n ⟨hS, zt rfl (zf (by decide) (K _ hS (Nat.le_refl _) (Nat.le_refl _)))⟩
theorem p1_8 {ys : Nat → Int32} {Q : Option ma_V → ma_S → Prop} {S : ma_S} (F : zP S) (K : ∀ S', zO S' → mC S' ≤ mC S + 1 → mZ S' ≤ mZ S + 6 → ma_fp (6, ys) 0 13 494 1461 zL [] S' Q) : ma_fp (6, ys) 0 13 494 701 zL [] S Q := by
  obtain ⟨hS, f1, f7, f11, m3, m7, m8, m10⟩ := F
  refine gf_0_701 0 (by decide) (by decide) hS ?_
  refine ⟨gg_1, ?_⟩
  refine ⟨gg_2, ?_⟩
  refine gf_8_0 _ _ (by decide) (by decide) hS ?_
  refine g_152_0 _ _ (by decide) (by decide) hS ?_
  refine ⟨fun _ => ?_, fun c hc => absurd (f11.symm.trans hc) (by intro z; cases z)⟩
  refine zi_x ⟨1, hd_8_3, zfi_n ⟨hS, ?_⟩⟩
  refine ⟨gg_1, ?_⟩
  refine ⟨gg_2, ?_⟩
  refine g_249_0 _ _ (by decide) (by decide) hS ?_
  repeat (first | refine zt (by first | assumption | exact Int32.not_lt.mp (by assumption) | exact Int32.not_le.mpr (by assumption) | exact Int32.not_le.mp (by assumption) | exact Int32.not_lt.mpr (by assumption)) ?_ | refine zf (by first | assumption | exact Int32.not_lt.mp (by assumption) | exact Int32.not_le.mpr (by assumption) | exact Int32.not_le.mp (by assumption) | exact Int32.not_lt.mpr (by assumption)) ?_)
  exact zi_n ⟨hS, zt rfl (zf (by decide) (K _ hS (Nat.le_refl _) (Nat.le_refl _)))⟩
theorem p1_9 {ys : Nat → Int32} {Q : Option ma_V → ma_S → Prop} {S : ma_S} (F : zP S) (K : ∀ S', zO S' → mC S' ≤ mC S + 1 → mZ S' ≤ mZ S + 6 → ma_fp (6, ys) 0 13 494 1461 zL [] S' Q) : ma_fp (6, ys) 0 13 494 769 zL [] S Q := by
  obtain ⟨hS, f1, f7, f11, m3, m7, m8, m10⟩ := F
  refine gf_0_769 0 (by decide) (by decide) hS ?_
  refine ⟨gg_1, ?_⟩
  refine ⟨gg_2, ?_⟩
  refine gf_9_0 _ _ (by decide) (by decide) hS ?_
  refine g_153_0 _ _ (by decide) (by decide) hS ?_
  refine zd (fun h12 => ?_) (fun h12 => ?_)
  · skip
    refine zi_x ⟨1, hd_9_2, zfi_n ⟨hS, ?_⟩⟩
    refine ⟨gg_1, ?_⟩
    refine ⟨gg_2, ?_⟩
    refine g_250_0 _ _ (by decide) (by decide) hS ?_
    repeat (first | refine zt (by first | assumption | exact Int32.not_lt.mp (by assumption) | exact Int32.not_le.mpr (by assumption) | exact Int32.not_le.mp (by assumption) | exact Int32.not_lt.mpr (by assumption)) ?_ | refine zf (by first | assumption | exact Int32.not_lt.mp (by assumption) | exact Int32.not_le.mpr (by assumption) | exact Int32.not_le.mp (by assumption) | exact Int32.not_lt.mpr (by assumption)) ?_)
    exact zi_n ⟨hS, zt rfl (zf (by decide) (K _ hS (Nat.le_refl _) (Nat.le_refl _)))⟩
  · skip
    refine zd (fun h13 => ?_) (fun h13 => ?_)
    · skip
      refine zi_x ⟨1, hd_9_2, zfi_n ⟨hS, ?_⟩⟩
      refine ⟨gg_1, ?_⟩
      refine ⟨gg_2, ?_⟩
      refine g_250_0 _ _ (by decide) (by decide) hS ?_
      repeat (first | refine zt (by first | assumption | exact Int32.not_lt.mp (by assumption) | exact Int32.not_le.mpr (by assumption) | exact Int32.not_le.mp (by assumption) | exact Int32.not_lt.mpr (by assumption)) ?_ | refine zf (by first | assumption | exact Int32.not_lt.mp (by assumption) | exact Int32.not_le.mpr (by assumption) | exact Int32.not_le.mp (by assumption) | exact Int32.not_lt.mpr (by assumption)) ?_)
      exact zi_n ⟨hS, zt rfl (zf (by decide) (K _ hS (Nat.le_refl _) (Nat.le_refl _)))⟩
    · skip
      refine ⟨fun _ => ?_, fun c hc => absurd (f11.symm.trans hc) (by intro z; cases z)⟩
      refine zi_x ⟨2, hd_9_3, zfi_n ⟨hS, ?_⟩⟩
      refine ⟨gg_1, ?_⟩
      refine ⟨gg_2, ?_⟩
      refine g_250_0 _ _ (by decide) (by decide) hS ?_
      repeat (first | refine zt (by first | assumption | exact Int32.not_lt.mp (by assumption) | exact Int32.not_le.mpr (by assumption) | exact Int32.not_le.mp (by assumption) | exact Int32.not_lt.mpr (by assumption)) ?_ | refine zf (by first | assumption | exact Int32.not_lt.mp (by assumption) | exact Int32.not_le.mpr (by assumption) | exact Int32.not_le.mp (by assumption) | exact Int32.not_lt.mpr (by assumption)) ?_)
      exact zi_n ⟨hS, zt rfl (zf (by decide) (K _ hS (Nat.le_refl _) (Nat.le_refl _)))⟩
theorem p1_10 {ys : Nat → Int32} {Q : Option ma_V → ma_S → Prop} {S : ma_S} (F : zP S) (K : ∀ S', zO S' → mC S' ≤ mC S + 1 → mZ S' ≤ mZ S + 6 → ma_fp (6, ys) 0 13 494 1461 zL [] S' Q) : ma_fp (6, ys) 0 13 494 837 zL [] S Q := by
  obtain ⟨hS, f1, f7, f11, m3, m7, m8, m10⟩ := F
  refine gf_0_837 0 (by decide) (by decide) hS ?_
  refine ⟨gg_1, ?_⟩
  refine ⟨gg_2, ?_⟩
  refine gf_10_0 _ _ (by decide) (by decide) hS ?_
  refine g_154_0 _ _ (by decide) (by decide) hS ?_
  refine zd (fun h14 => ?_) (fun h14 => ?_)
  · skip
    refine zi_x ⟨1, hd_10_2, zfi_n ⟨hS, ?_⟩⟩
    refine ⟨gg_1, ?_⟩
    refine ⟨gg_2, ?_⟩
    refine g_251_0 _ _ (by decide) (by decide) hS ?_
    repeat (first | refine zt (by first | assumption | exact Int32.not_lt.mp (by assumption) | exact Int32.not_le.mpr (by assumption) | exact Int32.not_le.mp (by assumption) | exact Int32.not_lt.mpr (by assumption)) ?_ | refine zf (by first | assumption | exact Int32.not_lt.mp (by assumption) | exact Int32.not_le.mpr (by assumption) | exact Int32.not_le.mp (by assumption) | exact Int32.not_lt.mpr (by assumption)) ?_)
    exact zi_n ⟨hS, zt rfl (zf (by decide) (K _ hS (Nat.le_refl _) (Nat.le_refl _)))⟩
  · skip
    refine zd (fun h15 => ?_) (fun h15 => ?_)
    · skip
      refine zi_x ⟨1, hd_10_2, zfi_n ⟨hS, ?_⟩⟩
      refine ⟨gg_1, ?_⟩
      refine ⟨gg_2, ?_⟩
      refine g_251_0 _ _ (by decide) (by decide) hS ?_
      repeat (first | refine zt (by first | assumption | exact Int32.not_lt.mp (by assumption) | exact Int32.not_le.mpr (by assumption) | exact Int32.not_le.mp (by assumption) | exact Int32.not_lt.mpr (by assumption)) ?_ | refine zf (by first | assumption | exact Int32.not_lt.mp (by assumption) | exact Int32.not_le.mpr (by assumption) | exact Int32.not_le.mp (by assumption) | exact Int32.not_lt.mpr (by assumption)) ?_)
      exact zi_n ⟨hS, zt rfl (zf (by decide) (K _ hS (Nat.le_refl _) (Nat.le_refl _)))⟩
    · skip
      refine ⟨fun _ => ?_, fun c hc => absurd (f11.symm.trans hc) (by intro z; cases z)⟩
      refine zi_x ⟨2, hd_10_3, zfi_n ⟨hS, ?_⟩⟩
      refine ⟨gg_1, ?_⟩
      refine ⟨gg_2, ?_⟩
      refine g_251_0 _ _ (by decide) (by decide) hS ?_
      repeat (first | refine zt (by first | assumption | exact Int32.not_lt.mp (by assumption) | exact Int32.not_le.mpr (by assumption) | exact Int32.not_le.mp (by assumption) | exact Int32.not_lt.mpr (by assumption)) ?_ | refine zf (by first | assumption | exact Int32.not_lt.mp (by assumption) | exact Int32.not_le.mpr (by assumption) | exact Int32.not_le.mp (by assumption) | exact Int32.not_lt.mpr (by assumption)) ?_)
      exact zi_n ⟨hS, zt rfl (zf (by decide) (K _ hS (Nat.le_refl _) (Nat.le_refl _)))⟩
theorem p1_11 {ys : Nat → Int32} {Q : Option ma_V → ma_S → Prop} {S : ma_S} (F : zP S) (K : ∀ S', zO S' → mC S' ≤ mC S + 1 → mZ S' ≤ mZ S + 6 → ma_fp (6, ys) 0 13 494 1461 zL [] S' Q) : ma_fp (6, ys) 0 13 494 905 zL [] S Q := by
  obtain ⟨hS, f1, f7, f11, m3, m7, m8, m10⟩ := F
  refine gf_0_905 0 (by decide) (by decide) hS ?_
  refine ⟨gg_1, ?_⟩
  refine ⟨gg_2, ?_⟩
  refine gf_11_0 _ _ (by decide) (by decide) hS ?_
  refine g_155_0 _ _ (by decide) (by decide) hS ?_
  refine zd (fun h16 => ?_) (fun h16 => ?_)
  · skip
    refine zi_x ⟨1, hd_11_2, zfi_n ⟨hS, ?_⟩⟩
    refine ⟨gg_1, ?_⟩
    refine ⟨gg_2, ?_⟩
    refine g_252_0 _ _ (by decide) (by decide) hS ?_
    repeat (first | refine zt (by first | assumption | exact Int32.not_lt.mp (by assumption) | exact Int32.not_le.mpr (by assumption) | exact Int32.not_le.mp (by assumption) | exact Int32.not_lt.mpr (by assumption)) ?_ | refine zf (by first | assumption | exact Int32.not_lt.mp (by assumption) | exact Int32.not_le.mpr (by assumption) | exact Int32.not_le.mp (by assumption) | exact Int32.not_lt.mpr (by assumption)) ?_)
    exact zi_n ⟨hS, zt rfl (zf (by decide) (K _ hS (Nat.le_refl _) (Nat.le_refl _)))⟩
  · skip
    refine zd (fun h17 => ?_) (fun h17 => ?_)
    · skip
      refine zi_x ⟨1, hd_11_2, zfi_n ⟨hS, ?_⟩⟩
      refine ⟨gg_1, ?_⟩
      refine ⟨gg_2, ?_⟩
      refine g_252_0 _ _ (by decide) (by decide) hS ?_
      repeat (first | refine zt (by first | assumption | exact Int32.not_lt.mp (by assumption) | exact Int32.not_le.mpr (by assumption) | exact Int32.not_le.mp (by assumption) | exact Int32.not_lt.mpr (by assumption)) ?_ | refine zf (by first | assumption | exact Int32.not_lt.mp (by assumption) | exact Int32.not_le.mpr (by assumption) | exact Int32.not_le.mp (by assumption) | exact Int32.not_lt.mpr (by assumption)) ?_)
      exact zi_n ⟨hS, zt rfl (zf (by decide) (K _ hS (Nat.le_refl _) (Nat.le_refl _)))⟩
    · skip
      refine zd (fun h18 => ?_) (fun h18 => ?_)
      · skip
        refine zi_x ⟨1, hd_11_2, zfi_n ⟨hS, ?_⟩⟩
        refine ⟨gg_1, ?_⟩
        refine ⟨gg_2, ?_⟩
        refine g_252_0 _ _ (by decide) (by decide) hS ?_
        repeat (first | refine zt (by first | assumption | exact Int32.not_lt.mp (by assumption) | exact Int32.not_le.mpr (by assumption) | exact Int32.not_le.mp (by assumption) | exact Int32.not_lt.mpr (by assumption)) ?_ | refine zf (by first | assumption | exact Int32.not_lt.mp (by assumption) | exact Int32.not_le.mpr (by assumption) | exact Int32.not_le.mp (by assumption) | exact Int32.not_lt.mpr (by assumption)) ?_)
        exact zi_n ⟨hS, zt rfl (zf (by decide) (K _ hS (Nat.le_refl _) (Nat.le_refl _)))⟩
      · skip
        refine zd (fun h19 => ?_) (fun h19 => ?_)
        · skip
          refine zi_x ⟨1, hd_11_2, zfi_n ⟨hS, ?_⟩⟩
          refine ⟨gg_1, ?_⟩
          refine ⟨gg_2, ?_⟩
          refine g_252_0 _ _ (by decide) (by decide) hS ?_
          repeat (first | refine zt (by first | assumption | exact Int32.not_lt.mp (by assumption) | exact Int32.not_le.mpr (by assumption) | exact Int32.not_le.mp (by assumption) | exact Int32.not_lt.mpr (by assumption)) ?_ | refine zf (by first | assumption | exact Int32.not_lt.mp (by assumption) | exact Int32.not_le.mpr (by assumption) | exact Int32.not_le.mp (by assumption) | exact Int32.not_lt.mpr (by assumption)) ?_)
          exact zi_n ⟨hS, zt rfl (zf (by decide) (K _ hS (Nat.le_refl _) (Nat.le_refl _)))⟩
        · skip
          refine ⟨fun _ => ?_, fun c hc => absurd (f11.symm.trans hc) (by intro z; cases z)⟩
          refine zi_x ⟨2, hd_11_3, zfi_n ⟨hS, ?_⟩⟩
          refine ⟨gg_1, ?_⟩
          refine ⟨gg_2, ?_⟩
          refine g_252_0 _ _ (by decide) (by decide) hS ?_
          repeat (first | refine zt (by first | assumption | exact Int32.not_lt.mp (by assumption) | exact Int32.not_le.mpr (by assumption) | exact Int32.not_le.mp (by assumption) | exact Int32.not_lt.mpr (by assumption)) ?_ | refine zf (by first | assumption | exact Int32.not_lt.mp (by assumption) | exact Int32.not_le.mpr (by assumption) | exact Int32.not_le.mp (by assumption) | exact Int32.not_lt.mpr (by assumption)) ?_)
          exact zi_n ⟨hS, zt rfl (zf (by decide) (K _ hS (Nat.le_refl _) (Nat.le_refl _)))⟩
theorem p1_12 {ys : Nat → Int32} {Q : Option ma_V → ma_S → Prop} {S : ma_S} (F : zP S) (K : ∀ S', zO S' → mC S' ≤ mC S + 1 → mZ S' ≤ mZ S + 6 → ma_fp (6, ys) 0 13 494 1461 zL [] S' Q) : ma_fp (6, ys) 0 13 494 973 zL [] S Q := by
  obtain ⟨hS, f1, f7, f11, m3, m7, m8, m10⟩ := F
  refine gf_0_973 0 (by decide) (by decide) hS ?_
  refine ⟨gg_1, ?_⟩
  refine ⟨gg_2, ?_⟩
  refine zd (fun h20 => ?_) (fun h20 => ?_)
  · skip
    refine gf_12_0 _ _ (by decide) (by decide) hS ?_
    refine g_156_0 _ _ (by decide) (by decide) hS ?_
    refine ⟨fun _ => ?_, fun c hc => absurd (f11.symm.trans hc) (by intro z; cases z)⟩
    refine zi_x ⟨1, hd_12_3, zfi_n ⟨hS, ?_⟩⟩
    refine ⟨gg_1, ?_⟩
    refine ⟨gg_2, ?_⟩
    first | refine zt (by assumption) ?_ | refine zf (by assumption) ?_
    refine g_253_0 _ _ (by decide) (by decide) hS ?_
    repeat (first | refine zt (by first | assumption | exact Int32.not_lt.mp (by assumption) | exact Int32.not_le.mpr (by assumption) | exact Int32.not_le.mp (by assumption) | exact Int32.not_lt.mpr (by assumption)) ?_ | refine zf (by first | assumption | exact Int32.not_lt.mp (by assumption) | exact Int32.not_le.mpr (by assumption) | exact Int32.not_le.mp (by assumption) | exact Int32.not_lt.mpr (by assumption)) ?_)
    exact zi_n ⟨hS, zt rfl (zf (by decide) (K _ hS (Nat.le_refl _) (Nat.le_refl _)))⟩
  · skip
    refine gf_12_0 _ _ (by decide) (by decide) hS ?_
    refine g_156_0 _ _ (by decide) (by decide) hS ?_
    refine ⟨fun _ => ?_, fun c hc => absurd (f11.symm.trans hc) (by intro z; cases z)⟩
    refine zi_x ⟨1, hd_12_3, zfi_n ⟨hS, ?_⟩⟩
    refine ⟨gg_1, ?_⟩
    refine ⟨gg_2, ?_⟩
    first | refine zt (by assumption) ?_ | refine zf (by assumption) ?_
    refine g_253_0 _ _ (by decide) (by decide) hS ?_
    repeat (first | refine zt (by first | assumption | exact Int32.not_lt.mp (by assumption) | exact Int32.not_le.mpr (by assumption) | exact Int32.not_le.mp (by assumption) | exact Int32.not_lt.mpr (by assumption)) ?_ | refine zf (by first | assumption | exact Int32.not_lt.mp (by assumption) | exact Int32.not_le.mpr (by assumption) | exact Int32.not_le.mp (by assumption) | exact Int32.not_lt.mpr (by assumption)) ?_)
    exact zi_n ⟨hS, zt rfl (zf (by decide) (K _ hS (Nat.le_refl _) (Nat.le_refl _)))⟩
theorem p1_13 {ys : Nat → Int32} {Q : Option ma_V → ma_S → Prop} {S : ma_S} (F : zP S) (K : ∀ S', zO S' → mC S' ≤ mC S + 1 → mZ S' ≤ mZ S + 6 → ma_fp (6, ys) 0 13 494 1461 zL [] S' Q) : ma_fp (6, ys) 0 13 494 1057 zL [] S Q := by
  obtain ⟨hS, f1, f7, f11, m3, m7, m8, m10⟩ := F
  refine gf_0_1057 0 (by decide) (by decide) hS ?_
  refine ⟨gg_1, ?_⟩
  refine gf_13_0 _ (by decide) (by decide) hS ?_
  refine g_157_0 _ (by decide) (by decide) hS ?_
  refine ⟨fun _ => ?_, fun c hc => absurd (f11.symm.trans hc) (by intro z; cases z)⟩
  refine zi_x ⟨1, hd_13_3, zfi_n ⟨hS, ?_⟩⟩
  refine ⟨gg_1, ?_⟩
  refine g_254_0 _ (by decide) (by decide) hS ?_
  repeat (first | refine zt (by first | assumption | exact Int32.not_lt.mp (by assumption) | exact Int32.not_le.mpr (by assumption) | exact Int32.not_le.mp (by assumption) | exact Int32.not_lt.mpr (by assumption)) ?_ | refine zf (by first | assumption | exact Int32.not_lt.mp (by assumption) | exact Int32.not_le.mpr (by assumption) | exact Int32.not_le.mp (by assumption) | exact Int32.not_lt.mpr (by assumption)) ?_)
  exact zi_n ⟨hS, zt rfl (zf (by decide) (K _ hS (Nat.le_refl _) (Nat.le_refl _)))⟩
theorem p1_14 {ys : Nat → Int32} {Q : Option ma_V → ma_S → Prop} {S : ma_S} (F : zP S) (K : ∀ S', zO S' → mC S' ≤ mC S + 1 → mZ S' ≤ mZ S + 6 → ma_fp (6, ys) 0 13 494 1461 zL [] S' Q) : ma_fp (6, ys) 0 13 494 1113 zL [] S Q := by
  obtain ⟨hS, f1, f7, f11, m3, m7, m8, m10⟩ := F
  refine gf_0_1113 0 (by decide) (by decide) hS ?_
  refine ⟨gg_1, ?_⟩
  refine gf_14_0 _ (by decide) (by decide) hS ?_
  refine g_158_0 _ (by decide) (by decide) hS ?_
  refine zd (fun h21 => ?_) (fun h21 => ?_)
  · skip
    refine zi_x ⟨1, hd_14_2, zfi_n ⟨hS, ?_⟩⟩
    refine ⟨gg_1, ?_⟩
    refine g_255_0 _ (by decide) (by decide) hS ?_
    repeat (first | refine zt (by first | assumption | exact Int32.not_lt.mp (by assumption) | exact Int32.not_le.mpr (by assumption) | exact Int32.not_le.mp (by assumption) | exact Int32.not_lt.mpr (by assumption)) ?_ | refine zf (by first | assumption | exact Int32.not_lt.mp (by assumption) | exact Int32.not_le.mpr (by assumption) | exact Int32.not_le.mp (by assumption) | exact Int32.not_lt.mpr (by assumption)) ?_)
    exact zi_n ⟨hS, zt rfl (zf (by decide) (K _ hS (Nat.le_refl _) (Nat.le_refl _)))⟩
  · skip
    refine zd (fun h22 => ?_) (fun h22 => ?_)
    · skip
      refine zi_x ⟨1, hd_14_2, zfi_n ⟨hS, ?_⟩⟩
      refine ⟨gg_1, ?_⟩
      refine g_255_0 _ (by decide) (by decide) hS ?_
      repeat (first | refine zt (by first | assumption | exact Int32.not_lt.mp (by assumption) | exact Int32.not_le.mpr (by assumption) | exact Int32.not_le.mp (by assumption) | exact Int32.not_lt.mpr (by assumption)) ?_ | refine zf (by first | assumption | exact Int32.not_lt.mp (by assumption) | exact Int32.not_le.mpr (by assumption) | exact Int32.not_le.mp (by assumption) | exact Int32.not_lt.mpr (by assumption)) ?_)
      exact zi_n ⟨hS, zt rfl (zf (by decide) (K _ hS (Nat.le_refl _) (Nat.le_refl _)))⟩
    · skip
      refine ⟨fun _ => ?_, fun c hc => absurd (f11.symm.trans hc) (by intro z; cases z)⟩
      refine zi_x ⟨2, hd_14_3, zfi_n ⟨hS, ?_⟩⟩
      refine ⟨gg_1, ?_⟩
      refine g_255_0 _ (by decide) (by decide) hS ?_
      repeat (first | refine zt (by first | assumption | exact Int32.not_lt.mp (by assumption) | exact Int32.not_le.mpr (by assumption) | exact Int32.not_le.mp (by assumption) | exact Int32.not_lt.mpr (by assumption)) ?_ | refine zf (by first | assumption | exact Int32.not_lt.mp (by assumption) | exact Int32.not_le.mpr (by assumption) | exact Int32.not_le.mp (by assumption) | exact Int32.not_lt.mpr (by assumption)) ?_)
      exact zi_n ⟨hS, zt rfl (zf (by decide) (K _ hS (Nat.le_refl _) (Nat.le_refl _)))⟩
theorem p1_15 {ys : Nat → Int32} {Q : Option ma_V → ma_S → Prop} {S : ma_S} (F : zP S) (K : ∀ S', zO S' → mC S' ≤ mC S + 1 → mZ S' ≤ mZ S + 6 → ma_fp (6, ys) 0 13 494 1461 zL [] S' Q) : ma_fp (6, ys) 0 13 494 1169 zL [] S Q := by
  obtain ⟨hS, f1, f7, f11, m3, m7, m8, m10⟩ := F
  refine gf_0_1169 0 (by decide) (by decide) hS ?_
  refine gf_15_0 (by decide) (by decide) hS ?_
  refine g_159_0 (by decide) (by decide) hS ?_
  refine ⟨fun _ => ?_, fun c hc => absurd (f11.symm.trans hc) (by intro z; cases z)⟩
  refine zi_x ⟨1, hd_15_3, zfi_n ⟨hS, ?_⟩⟩
  refine g_256_0 (by decide) (by decide) hS ?_
  repeat (first | refine zt (by first | assumption | exact Int32.not_lt.mp (by assumption) | exact Int32.not_le.mpr (by assumption) | exact Int32.not_le.mp (by assumption) | exact Int32.not_lt.mpr (by assumption)) ?_ | refine zf (by first | assumption | exact Int32.not_lt.mp (by assumption) | exact Int32.not_le.mpr (by assumption) | exact Int32.not_le.mp (by assumption) | exact Int32.not_lt.mpr (by assumption)) ?_)
  exact zi_n ⟨hS, zt rfl (zf (by decide) (K _ hS (Nat.le_refl _) (Nat.le_refl _)))⟩
theorem p1_16 {ys : Nat → Int32} {Q : Option ma_V → ma_S → Prop} {S : ma_S} (F : zP S) (K : ∀ S', zO S' → mC S' ≤ mC S + 1 → mZ S' ≤ mZ S + 6 → ma_fp (6, ys) 0 13 494 1461 zL [] S' Q) : ma_fp (6, ys) 0 13 494 1213 zL [] S Q := by
  obtain ⟨hS, f1, f7, f11, m3, m7, m8, m10⟩ := F
  refine gf_0_1213 0 (by decide) (by decide) hS ?_
  refine ⟨gg_1, ?_⟩
  refine gf_16_0 _ (by decide) (by decide) hS ?_
  refine g_160_0 _ (by decide) (by decide) hS ?_
  refine zd (fun h23 => ?_) (fun h23 => ?_)
  · skip
    refine zi_x ⟨1, hd_16_2, zfi_n ⟨hS, ?_⟩⟩
    refine ⟨gg_1, ?_⟩
    refine g_257_0 _ (by decide) (by decide) hS ?_
    repeat (first | refine zt (by first | assumption | exact Int32.not_lt.mp (by assumption) | exact Int32.not_le.mpr (by assumption) | exact Int32.not_le.mp (by assumption) | exact Int32.not_lt.mpr (by assumption)) ?_ | refine zf (by first | assumption | exact Int32.not_lt.mp (by assumption) | exact Int32.not_le.mpr (by assumption) | exact Int32.not_le.mp (by assumption) | exact Int32.not_lt.mpr (by assumption)) ?_)
    exact zi_n ⟨hS, zt rfl (zf (by decide) (K _ hS (Nat.le_refl _) (Nat.le_refl _)))⟩
  · skip
    refine zd (fun h24 => ?_) (fun h24 => ?_)
    · skip
      refine ⟨fun _ => ?_, fun c hc => absurd (f11.symm.trans hc) (by intro z; cases z)⟩
      refine zi_x ⟨2, hd_16_3, zfi_n ⟨hS, ?_⟩⟩
      refine ⟨gg_1, ?_⟩
      refine g_257_0 _ (by decide) (by decide) hS ?_
      repeat (first | refine zt (by first | assumption | exact Int32.not_lt.mp (by assumption) | exact Int32.not_le.mpr (by assumption) | exact Int32.not_le.mp (by assumption) | exact Int32.not_lt.mpr (by assumption)) ?_ | refine zf (by first | assumption | exact Int32.not_lt.mp (by assumption) | exact Int32.not_le.mpr (by assumption) | exact Int32.not_le.mp (by assumption) | exact Int32.not_lt.mpr (by assumption)) ?_)
      exact zi_n ⟨hS, zt rfl (zf (by decide) (K _ hS (Nat.le_refl _) (Nat.le_refl _)))⟩
    · skip
      refine zi_x ⟨1, hd_16_2, zfi_n ⟨hS, ?_⟩⟩
      refine ⟨gg_1, ?_⟩
      refine g_257_0 _ (by decide) (by decide) hS ?_
      repeat (first | refine zt (by first | assumption | exact Int32.not_lt.mp (by assumption) | exact Int32.not_le.mpr (by assumption) | exact Int32.not_le.mp (by assumption) | exact Int32.not_lt.mpr (by assumption)) ?_ | refine zf (by first | assumption | exact Int32.not_lt.mp (by assumption) | exact Int32.not_le.mpr (by assumption) | exact Int32.not_le.mp (by assumption) | exact Int32.not_lt.mpr (by assumption)) ?_)
      exact zi_n ⟨hS, zt rfl (zf (by decide) (K _ hS (Nat.le_refl _) (Nat.le_refl _)))⟩
theorem p1_17 {ys : Nat → Int32} {Q : Option ma_V → ma_S → Prop} {S : ma_S} (F : zP S) (K : ∀ S', zO S' → mC S' ≤ mC S + 1 → mZ S' ≤ mZ S + 6 → ma_fp (6, ys) 0 13 494 1461 zL [] S' Q) : ma_fp (6, ys) 0 13 494 1269 zL [] S Q := by
  obtain ⟨hS, f1, f7, f11, m3, m7, m8, m10⟩ := F
  refine gf_0_1269 0 (by decide) (by decide) hS ?_
  refine ⟨gg_1, ?_⟩
  refine ⟨gg_2, ?_⟩
  refine gf_17_0 _ _ (by decide) (by decide) hS ?_
  refine g_161_0 _ _ (by decide) (by decide) hS ?_
  refine zd (fun h25 => ?_) (fun h25 => ?_)
  · skip
    refine zi_x ⟨1, hd_17_2, zfi_n ⟨hS, ?_⟩⟩
    refine ⟨gg_1, ?_⟩
    refine ⟨gg_2, ?_⟩
    refine g_258_0 _ _ (by decide) (by decide) hS ?_
    repeat (first | refine zt (by first | assumption | exact Int32.not_lt.mp (by assumption) | exact Int32.not_le.mpr (by assumption) | exact Int32.not_le.mp (by assumption) | exact Int32.not_lt.mpr (by assumption)) ?_ | refine zf (by first | assumption | exact Int32.not_lt.mp (by assumption) | exact Int32.not_le.mpr (by assumption) | exact Int32.not_le.mp (by assumption) | exact Int32.not_lt.mpr (by assumption)) ?_)
    exact zi_n ⟨hS, zt rfl (zf (by decide) (K _ hS (Nat.le_refl _) (Nat.le_refl _)))⟩
  · skip
    refine zd (fun h26 => ?_) (fun h26 => ?_)
    · skip
      refine ⟨fun _ => ?_, fun c hc => absurd (f11.symm.trans hc) (by intro z; cases z)⟩
      refine zi_x ⟨2, hd_17_3, zfi_n ⟨hS, ?_⟩⟩
      refine ⟨gg_1, ?_⟩
      refine ⟨gg_2, ?_⟩
      refine g_258_0 _ _ (by decide) (by decide) hS ?_
      repeat (first | refine zt (by first | assumption | exact Int32.not_lt.mp (by assumption) | exact Int32.not_le.mpr (by assumption) | exact Int32.not_le.mp (by assumption) | exact Int32.not_lt.mpr (by assumption)) ?_ | refine zf (by first | assumption | exact Int32.not_lt.mp (by assumption) | exact Int32.not_le.mpr (by assumption) | exact Int32.not_le.mp (by assumption) | exact Int32.not_lt.mpr (by assumption)) ?_)
      exact zi_n ⟨hS, zt rfl (zf (by decide) (K _ hS (Nat.le_refl _) (Nat.le_refl _)))⟩
    · skip
      refine zi_x ⟨1, hd_17_2, zfi_n ⟨hS, ?_⟩⟩
      refine ⟨gg_1, ?_⟩
      refine ⟨gg_2, ?_⟩
      refine g_258_0 _ _ (by decide) (by decide) hS ?_
      repeat (first | refine zt (by first | assumption | exact Int32.not_lt.mp (by assumption) | exact Int32.not_le.mpr (by assumption) | exact Int32.not_le.mp (by assumption) | exact Int32.not_lt.mpr (by assumption)) ?_ | refine zf (by first | assumption | exact Int32.not_lt.mp (by assumption) | exact Int32.not_le.mpr (by assumption) | exact Int32.not_le.mp (by assumption) | exact Int32.not_lt.mpr (by assumption)) ?_)
      exact zi_n ⟨hS, zt rfl (zf (by decide) (K _ hS (Nat.le_refl _) (Nat.le_refl _)))⟩
theorem p1_18 {ys : Nat → Int32} {Q : Option ma_V → ma_S → Prop} {S : ma_S} (F : zP S) (K : ∀ S', zO S' → mC S' ≤ mC S + 1 → mZ S' ≤ mZ S + 6 → ma_fp (6, ys) 0 13 494 1461 zL [] S' Q) : ma_fp (6, ys) 0 13 494 1337 zL [] S Q := by
  obtain ⟨hS, f1, f7, f11, m3, m7, m8, m10⟩ := F
  refine gf_0_1337 0 (by decide) (by decide) hS ?_
  refine ⟨gg_1, ?_⟩
  refine ⟨gg_2, ?_⟩
  refine gf_18_0 _ _ (by decide) (by decide) hS ?_
  refine g_162_0 _ _ (by decide) (by decide) hS ?_
  refine zd (fun h27 => ?_) (fun h27 => ?_)
  · skip
    refine zi_x ⟨1, hd_18_2, zfi_n ⟨hS, ?_⟩⟩
    refine ⟨gg_1, ?_⟩
    refine ⟨gg_2, ?_⟩
    refine g_259_0 _ _ (by decide) (by decide) hS ?_
    repeat (first | refine zt (by first | assumption | exact Int32.not_lt.mp (by assumption) | exact Int32.not_le.mpr (by assumption) | exact Int32.not_le.mp (by assumption) | exact Int32.not_lt.mpr (by assumption)) ?_ | refine zf (by first | assumption | exact Int32.not_lt.mp (by assumption) | exact Int32.not_le.mpr (by assumption) | exact Int32.not_le.mp (by assumption) | exact Int32.not_lt.mpr (by assumption)) ?_)
    exact zi_n ⟨hS, zt rfl (zf (by decide) (K _ hS (Nat.le_refl _) (Nat.le_refl _)))⟩
  · skip
    refine zd (fun h28 => ?_) (fun h28 => ?_)
    · skip
      refine ⟨fun _ => ?_, fun c hc => absurd (f11.symm.trans hc) (by intro z; cases z)⟩
      refine zi_x ⟨2, hd_18_3, zfi_n ⟨hS, ?_⟩⟩
      refine ⟨gg_1, ?_⟩
      refine ⟨gg_2, ?_⟩
      refine g_259_0 _ _ (by decide) (by decide) hS ?_
      repeat (first | refine zt (by first | assumption | exact Int32.not_lt.mp (by assumption) | exact Int32.not_le.mpr (by assumption) | exact Int32.not_le.mp (by assumption) | exact Int32.not_lt.mpr (by assumption)) ?_ | refine zf (by first | assumption | exact Int32.not_lt.mp (by assumption) | exact Int32.not_le.mpr (by assumption) | exact Int32.not_le.mp (by assumption) | exact Int32.not_lt.mpr (by assumption)) ?_)
      exact zi_n ⟨hS, zt rfl (zf (by decide) (K _ hS (Nat.le_refl _) (Nat.le_refl _)))⟩
    · skip
      refine zi_x ⟨1, hd_18_2, zfi_n ⟨hS, ?_⟩⟩
      refine ⟨gg_1, ?_⟩
      refine ⟨gg_2, ?_⟩
      refine g_259_0 _ _ (by decide) (by decide) hS ?_
      repeat (first | refine zt (by first | assumption | exact Int32.not_lt.mp (by assumption) | exact Int32.not_le.mpr (by assumption) | exact Int32.not_le.mp (by assumption) | exact Int32.not_lt.mpr (by assumption)) ?_ | refine zf (by first | assumption | exact Int32.not_lt.mp (by assumption) | exact Int32.not_le.mpr (by assumption) | exact Int32.not_le.mp (by assumption) | exact Int32.not_lt.mpr (by assumption)) ?_)
      exact zi_n ⟨hS, zt rfl (zf (by decide) (K _ hS (Nat.le_refl _) (Nat.le_refl _)))⟩
