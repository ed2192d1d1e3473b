/-! from 95.u38 -/
/-! AGES, the class (written by wip/tools/gen15y.py) -/
theorem g_163_64_sm_p82_0 {X : Nat × (Nat → Int32)} {d w : Nat} {S : ma_S} {Q : Option ma_V ⊕ Nat → ma_S → Prop} (wh : Int32) (hd : 7 ≤ d) (hw : 109 ≤ w) (hS : zT S) (h : if wh < 0 then (Q (.inr 2) (ma_bump S)) else (if wh ≤ (13 : Int32) then (if wh = 0 then (Q (.inl (some (.inl (mI S 64 1)))) S) else (if wh = (1 : Int32) then (Q (.inl (some (.inl (mI S 64 7)))) S) else (mR S 64 11 = some 82 ∧ (mR S 64 11 = some 82 ∧ (if wh = (2 : Int32) then (Q (.inl (some (.inl (mI S 69 7)))) S) else (if wh = (3 : Int32) then (Q (.inl (some (.inl (mI S 69 8)))) S) else (if wh = (4 : Int32) then (Q (.inl (some (.inl (mI S 69 6)))) S) else (if wh = (5 : Int32) then (Q (.inl (some (.inl (mI S 69 9)))) S) else (if wh = (6 : Int32) then (Q (.inl (some (.inl (mI S 69 10)))) S) else (if wh = (7 : Int32) then (Q (.inl (some (.inl (mI S 69 11)))) S) else (if wh = (8 : Int32) then (Q (.inl (some (.inl (mI S 69 12)))) S) else (if wh = (9 : Int32) then (Q (.inl (some (.inl (mI S 69 5)))) S) else (if wh = (10 : Int32) then (ma_wp X (d - 1) (w - 22) 20 0 [(0, .inr (.inr (some 82)))] [] S (zi (fun v2 S1 => zT S1 ∧ (Q (.inl (some (.inl v2))) S1)) (fun _ _ => False))) else (if wh = (11 : Int32) then (ma_wp X (d - 1) (w - 20) 21 0 [(0, .inr (.inr (some 82)))] [] S (zi (fun v4 S3 => zT S3 ∧ (Q (.inl (some (.inl v4))) S3)) (fun _ _ => False))) else (if wh = (12 : Int32) then (Q (.inl (some (.inl (0 : Int32)))) S) else (ma_wp X (d - 1) (w - 20) 22 0 [(0, .inr (.inr (some 82)))] [] S (zi (fun v6 S5 => zT S5 ∧ (Q (.inl (some (.inl v6))) S5)) (fun _ _ => False)))))))))))))))))) else (Q (.inr 2) (ma_bump S)))) : ma_wp X d w 163 0 [(0, .inr (.inr (some 64))), (1, .inl wh)] [] S Q := by
  refine zw_push hm_163 dX11_count_0 (v := .inl wh) rfl ?_
  refine zw_if0 hm_163 dX11_count_1 (t := 10) rfl zc0_lt ?_ ?_
  · intro hc
    rw [if_pos hc] at h
    exact zw_thr hm_163 dX11_count_10 dX11_count_13 dX11_count_14 dX11_count_17 x_11_79_81 n_11_79 (by omega) (by show 0 + 81 ≤ w; omega) h
  · intro hc
    rw [if_neg hc] at h
    refine zw_push hm_163 dX11_count_4 (v := .inl wh) rfl ?_
    refine zw_push hm_163 dX11_count_5 (v := .inl (13 : Int32)) rfl ?_
    refine zw_if2 hm_163 dX11_count_7 (t := 18) rfl zc2_le ?_ ?_
    · intro hc
      rw [if_pos hc] at h
      refine zw_push hm_163 dX11_count_18 (v := .inl wh) rfl ?_
      refine zw_if0 hm_163 dX11_count_19 (t := 27) rfl zc0_ne ?_ ?_
      · intro hc
        rw [if_neg hc] at h
        refine zw_push hm_163 dX11_count_27 (v := .inl wh) rfl ?_
        refine zw_push hm_163 dX11_count_28 (v := .inl (1 : Int32)) rfl ?_
        refine zw_if2 hm_163 dX11_count_29 (t := 37) rfl zc2_ne ?_ ?_
        · intro hc
          rw [if_neg hc] at h
          refine zw_push hm_163 dX11_count_37 (v := .inr (.inr (some 64))) rfl ?_
          refine zw_cv hm_163 dX11_count_38 v_11_119_11 hm_144 [] [] rfl (zT_rt hS s_64 rfl) ⟨by omega, by omega⟩ rfl ?_
          show ma_wp X (d - 1) (w - 20) 144 0 [(0, .inr (.inr (some 64)))] [] S _
          refine zw_push hm_144 dX11_needCollector_0 (v := .inr (.inr (some 64))) rfl ?_
          obtain ⟨hg, h⟩ := h
          refine zw_gf hm_144 dX11_needCollector_1 (v := .inr (.inr (some 82))) (zT_is hS s_64) (zT_t hS s_64) rfl f_11_98_11 (congrArg (fun z => Sum.inr (Sum.inr z)) hg) ?_
          refine zw_ifnonnull hm_144 dX11_needCollector_4 (t := 15) rfl (fun z => by cases z) (fun _ _ => ?_)
          refine zw_push hm_144 dX11_needCollector_15 (v := .inr (.inr (some 64))) rfl ?_
          obtain ⟨hg, h⟩ := h
          refine zw_gf hm_144 dX11_needCollector_16 (v := .inr (.inr (some 82))) (zT_is hS s_64) (zT_t hS s_64) rfl f_11_98_11 (congrArg (fun z => Sum.inr (Sum.inr z)) hg) ?_
          refine zw_aret hm_144 dX11_needCollector_19 ?_
          show ma_wp X d w 163 41 [(0, .inr (.inr (some 64))), (1, .inl wh)] [.inr (.inr (some 82))] S _
          refine zw_sto hm_163 dX11_count_41 [(2, .inr (.inr (some 82))), (0, .inr (.inr (some 64))), (1, .inl wh)] rfl rfl rfl ?_
          refine zw_push hm_163 dX11_count_42 (v := .inl wh) rfl ?_
          by_cases hc0 : wh = (2 : Int32)
          · rw [if_pos hc0] at h
            refine zw_jmp hm_163 dX11_count_43 (t := 100) (st₉ := []) rfl rfl rfl (ma_jmp_tab (by rw [hc0]; decide +kernel)) ?_
            refine zw_push hm_163 dX11_count_100 (v := .inr (.inr (some 64))) rfl ?_
            refine zw_gf hm_163 dX11_count_101 (v := .inr (.inr (some 69))) (zT_is hS s_64) (zT_t hS s_64) rfl f_11_26_11 (zT_f hS r_64_8) ?_
            refine zw_gf hm_163 dX11_count_104 (v := .inl (mI S 69 7)) (zT_is hS s_69) (zT_t hS s_69) rfl f_11_238_7 rfl ?_
            exact zw_iret hm_163 dX11_count_107 h
          rw [if_neg hc0] at h
          by_cases hc1 : wh = (3 : Int32)
          · rw [if_pos hc1] at h
            refine zw_jmp hm_163 dX11_count_43 (t := 108) (st₉ := []) rfl rfl rfl (ma_jmp_tab (by rw [hc1]; decide +kernel)) ?_
            refine zw_push hm_163 dX11_count_108 (v := .inr (.inr (some 64))) rfl ?_
            refine zw_gf hm_163 dX11_count_109 (v := .inr (.inr (some 69))) (zT_is hS s_64) (zT_t hS s_64) rfl f_11_26_11 (zT_f hS r_64_8) ?_
            refine zw_gf hm_163 dX11_count_112 (v := .inl (mI S 69 8)) (zT_is hS s_69) (zT_t hS s_69) rfl f_11_241_7 rfl ?_
            exact zw_iret hm_163 dX11_count_115 h
          rw [if_neg hc1] at h
          by_cases hc2 : wh = (4 : Int32)
          · rw [if_pos hc2] at h
            refine zw_jmp hm_163 dX11_count_43 (t := 116) (st₉ := []) rfl rfl rfl (ma_jmp_tab (by rw [hc2]; decide +kernel)) ?_
            refine zw_push hm_163 dX11_count_116 (v := .inr (.inr (some 64))) rfl ?_
            refine zw_gf hm_163 dX11_count_117 (v := .inr (.inr (some 69))) (zT_is hS s_64) (zT_t hS s_64) rfl f_11_26_11 (zT_f hS r_64_8) ?_
            refine zw_gf hm_163 dX11_count_120 (v := .inl (mI S 69 6)) (zT_is hS s_69) (zT_t hS s_69) rfl f_11_244_7 rfl ?_
            exact zw_iret hm_163 dX11_count_123 h
          rw [if_neg hc2] at h
          by_cases hc3 : wh = (5 : Int32)
          · rw [if_pos hc3] at h
            refine zw_jmp hm_163 dX11_count_43 (t := 124) (st₉ := []) rfl rfl rfl (ma_jmp_tab (by rw [hc3]; decide +kernel)) ?_
            refine zw_push hm_163 dX11_count_124 (v := .inr (.inr (some 64))) rfl ?_
            refine zw_gf hm_163 dX11_count_125 (v := .inr (.inr (some 69))) (zT_is hS s_64) (zT_t hS s_64) rfl f_11_26_11 (zT_f hS r_64_8) ?_
            refine zw_gf hm_163 dX11_count_128 (v := .inl (mI S 69 9)) (zT_is hS s_69) (zT_t hS s_69) rfl f_11_247_7 rfl ?_
            exact zw_iret hm_163 dX11_count_131 h
          rw [if_neg hc3] at h
          by_cases hc4 : wh = (6 : Int32)
          · rw [if_pos hc4] at h
            refine zw_jmp hm_163 dX11_count_43 (t := 132) (st₉ := []) rfl rfl rfl (ma_jmp_tab (by rw [hc4]; decide +kernel)) ?_
            refine zw_push hm_163 dX11_count_132 (v := .inr (.inr (some 64))) rfl ?_
            refine zw_gf hm_163 dX11_count_133 (v := .inr (.inr (some 69))) (zT_is hS s_64) (zT_t hS s_64) rfl f_11_26_11 (zT_f hS r_64_8) ?_
            refine zw_gf hm_163 dX11_count_136 (v := .inl (mI S 69 10)) (zT_is hS s_69) (zT_t hS s_69) rfl f_11_250_7 rfl ?_
            exact zw_iret hm_163 dX11_count_139 h
          rw [if_neg hc4] at h
          by_cases hc5 : wh = (7 : Int32)
          · rw [if_pos hc5] at h
            refine zw_jmp hm_163 dX11_count_43 (t := 140) (st₉ := []) rfl rfl rfl (ma_jmp_tab (by rw [hc5]; decide +kernel)) ?_
            refine zw_push hm_163 dX11_count_140 (v := .inr (.inr (some 64))) rfl ?_
            refine zw_gf hm_163 dX11_count_141 (v := .inr (.inr (some 69))) (zT_is hS s_64) (zT_t hS s_64) rfl f_11_26_11 (zT_f hS r_64_8) ?_
            refine zw_gf hm_163 dX11_count_144 (v := .inl (mI S 69 11)) (zT_is hS s_69) (zT_t hS s_69) rfl f_11_253_7 rfl ?_
            exact zw_iret hm_163 dX11_count_147 h
          rw [if_neg hc5] at h
          by_cases hc6 : wh = (8 : Int32)
          · rw [if_pos hc6] at h
            refine zw_jmp hm_163 dX11_count_43 (t := 148) (st₉ := []) rfl rfl rfl (ma_jmp_tab (by rw [hc6]; decide +kernel)) ?_
            refine zw_push hm_163 dX11_count_148 (v := .inr (.inr (some 64))) rfl ?_
            refine zw_gf hm_163 dX11_count_149 (v := .inr (.inr (some 69))) (zT_is hS s_64) (zT_t hS s_64) rfl f_11_26_11 (zT_f hS r_64_8) ?_
            refine zw_gf hm_163 dX11_count_152 (v := .inl (mI S 69 12)) (zT_is hS s_69) (zT_t hS s_69) rfl f_11_256_7 rfl ?_
            exact zw_iret hm_163 dX11_count_155 h
          rw [if_neg hc6] at h
          by_cases hc7 : wh = (9 : Int32)
          · rw [if_pos hc7] at h
            refine zw_jmp hm_163 dX11_count_43 (t := 156) (st₉ := []) rfl rfl rfl (ma_jmp_tab (by rw [hc7]; decide +kernel)) ?_
            refine zw_push hm_163 dX11_count_156 (v := .inr (.inr (some 64))) rfl ?_
            refine zw_gf hm_163 dX11_count_157 (v := .inr (.inr (some 69))) (zT_is hS s_64) (zT_t hS s_64) rfl f_11_26_11 (zT_f hS r_64_8) ?_
            refine zw_gf hm_163 dX11_count_160 (v := .inl (mI S 69 5)) (zT_is hS s_69) (zT_t hS s_69) rfl f_11_259_7 rfl ?_
            exact zw_iret hm_163 dX11_count_163 h
          rw [if_neg hc7] at h
          by_cases hc8 : wh = (10 : Int32)
          · rw [if_pos hc8] at h
            refine zw_jmp hm_163 dX11_count_43 (t := 164) (st₉ := []) rfl rfl rfl (ma_jmp_tab (by rw [hc8]; decide +kernel)) ?_
            refine zw_push hm_163 dX11_count_164 (v := .inr (.inr (some 82))) rfl ?_
            refine zw_cv hm_163 dX11_count_165 v_11_262_1 hm_20 [] [] rfl (zT_rt hS s_82 rfl) ⟨by omega, by omega⟩ rfl (zw_mono h (zi_go ?_ ?_))
            · intro v2 S1 hv
              obtain ⟨hS1, h⟩ := hv
              exact zw_iret hm_163 dX11_count_168 h
            · intro x S9 hx
              exact hx.elim
          rw [if_neg hc8] at h
          by_cases hc9 : wh = (11 : Int32)
          · rw [if_pos hc9] at h
            refine zw_jmp hm_163 dX11_count_43 (t := 169) (st₉ := []) rfl rfl rfl (ma_jmp_tab (by rw [hc9]; decide +kernel)) ?_
            refine zw_push hm_163 dX11_count_169 (v := .inr (.inr (some 82))) rfl ?_
            refine zw_cv hm_163 dX11_count_170 v_11_265_1 hm_21 [] [] rfl (zT_rt hS s_82 rfl) ⟨by omega, by omega⟩ rfl (zw_mono h (zi_go ?_ ?_))
            · intro v4 S3 hv
              obtain ⟨hS3, h⟩ := hv
              exact zw_iret hm_163 dX11_count_173 h
            · intro x S9 hx
              exact hx.elim
          rw [if_neg hc9] at h
          by_cases hc10 : wh = (12 : Int32)
          · rw [if_pos hc10] at h
            refine zw_jmp hm_163 dX11_count_43 (t := 174) (st₉ := []) rfl rfl rfl (ma_jmp_tab (by rw [hc10]; decide +kernel)) ?_
            refine zw_push hm_163 dX11_count_174 (v := .inr (.inr (some 82))) rfl ?_
            refine zw_cv hm_163 dX11_count_175 v_11_268_1 hm_274 [] [] rfl (zT_rt hS s_82 rfl) ⟨by omega, by omega⟩ rfl ?_
            show ma_wp X (d - 1) (w - 20) 274 0 [(0, .inr (.inr (some 82)))] [] S _
            refine zw_push hm_274 dX1_isMarking_0 (v := .inl (0 : Int32)) rfl ?_
            refine zw_bret hm_274 dX1_isMarking_1 (by decide) ?_
            show ma_wp X d w 163 178 [(2, .inr (.inr (some 82))), (0, .inr (.inr (some 64))), (1, .inl wh)] [.inl (0 : Int32)] S _
            refine zw_if0 hm_163 dX11_count_178 (t := 185) rfl zc0_eq (fun _ => ?_) (fun hc => absurd (by decide) hc)
            refine zw_push hm_163 dX11_count_185 (v := .inl (0 : Int32)) rfl ?_
            exact zw_iret hm_163 dX11_count_186 h
          rw [if_neg hc10] at h
          refine zw_jmp hm_163 dX11_count_43 (t := 187) (st₉ := []) rfl rfl rfl (ma_jmp_def (m := 11) (by decide) (fun j hj => by
              have hj2 : j = 0 ∨ j = 1 ∨ j = 2 ∨ j = 3 ∨ j = 4 ∨ j = 5 ∨ j = 6 ∨ j = 7 ∨ j = 8 ∨ j = 9 ∨ j = 10 := by omega
              rcases hj2 with rfl | rfl | rfl | rfl | rfl | rfl | rfl | rfl | rfl | rfl | rfl
              · exact hc0
              · exact hc1
              · exact hc2
              · exact hc3
              · exact hc4
              · exact hc5
              · exact hc6
              · exact hc7
              · exact hc8
              · exact hc9
              · exact hc10
              ) rfl) ?_
          refine zw_push hm_163 dX11_count_187 (v := .inr (.inr (some 82))) rfl ?_
          refine zw_cv hm_163 dX11_count_188 v_11_272_1 hm_22 [] [] rfl (zT_rt hS s_82 rfl) ⟨by omega, by omega⟩ rfl (zw_mono h (zi_go ?_ ?_))
          · intro v6 S5 hv
            obtain ⟨hS5, h⟩ := hv
            exact zw_iret hm_163 dX11_count_191 h
          · intro x S9 hx
            exact hx.elim
        · intro hc
          rw [if_pos (Classical.not_not.mp hc)] at h
          refine zw_push hm_163 dX11_count_32 (v := .inr (.inr (some 64))) rfl ?_
          refine zw_gf hm_163 dX11_count_33 (v := .inl (mI S 64 7)) (zT_is hS s_64) (zT_t hS s_64) rfl f_11_82_11 rfl ?_
          exact zw_iret hm_163 dX11_count_36 h
      · intro hc
        rw [if_pos (Classical.not_not.mp hc)] at h
        refine zw_push hm_163 dX11_count_22 (v := .inr (.inr (some 64))) rfl ?_
        refine zw_gf hm_163 dX11_count_23 (v := .inl (mI S 64 1)) (zT_is hS s_64) (zT_t hS s_64) rfl f_11_68_11 rfl ?_
        exact zw_iret hm_163 dX11_count_26 h
    · intro hc
      rw [if_neg hc] at h
      exact zw_thr hm_163 dX11_count_10 dX11_count_13 dX11_count_14 dX11_count_17 x_11_79_81 n_11_79 (by omega) (by show 0 + 81 ≤ w; omega) h
theorem sp_163_64_sm_p82 {X : Nat × (Nat → Int32)} {d w : Nat} {f : Nat → Nat → Int32} {r : Nat → Nat → Option Nat} {C Z N : Nat} {Q : Option ma_V ⊕ Nat → ma_S → Prop} {ab : Nat→Nat→Int32} {fp82 : Nat→Int32} {fp83 : Nat→Int32} {S : ma_S} (wh : Int32) (hd : 7 ≤ d) (hw : 109 ≤ w) (hI : zB f r C Z N S) (hr : r 64 11 = some 82) (hpre0 : xB S (mR S 70)) (hpre1 : aS 88 S = ab) (hpre2 : (mI S 82) = fp82) (hpre3 : (mI S 83) = fp83) (K : ∀ v S₉, zB f r C Z N S₉ → (True) → (xB S₉ (mR S₉ 70)) → (aS 88 S₉ = ab) → ((mI S₉ 82) = fp82) → ((mI S₉ 83) = fp83) → Q (.inl (some (.inl v))) S₉) (KX : ∀ x S₉, (x = 2) → zB f r C Z N S₉ → (xB S₉ (mR S₉ 70)) → (aS 88 S₉ = ab) → ((mI S₉ 82) = fp82) → ((mI S₉ 83) = fp83) → Q (.inr x) (ma_bump S₉)) : ma_wp X d w 163 0 [(0, .inr (.inr (some 64))), (1, .inl wh)] [] S Q := by
  refine g_163_64_sm_p82_0 wh (by omega) (by omega) (zG_T hI) ?_
  have b1 := i_bd wh
  have li2 : (0 : Int32).toInt = 0 := rfl
  refine zd (fun h3 => ?_) (fun h3 => ?_)
  · skip
    have g4 := i_lt h3
    exact KX 2 _ (by decide) hI (show xB S (mR S 70) from by first | (exact xB_x (xC_o (W := 75) hpre0).2)) (show aS 88 S = ab from by first | (exact (xC_o (W := 88) hpre0).1.trans hpre1)) (show (mI S 82) = fp82 from by first | (exact hpre2)) (show (mI S 83) = fp83 from by first | (exact hpre3))
  · skip
    have g5 := i_nlt h3
    have li6 : (13 : Int32).toInt = 13 := rfl
    refine zd (fun h7 => ?_) (fun h7 => ?_)
    · skip
      have g8 := i_le h7
      refine zd (fun h9 => ?_) (fun h9 => ?_)
      · skip
        have g10 := i_eq h9
        have f11 := zG_s hI (0) (100) (c := 64) (k := 1) (by decide)
        exact K ((mI S 64 1)) _ hI trivial (show xB S (mR S 70) from by first | (exact xB_x (xC_o (W := 75) hpre0).2)) (show aS 88 S = ab from by first | (exact (xC_o (W := 88) hpre0).1.trans hpre1)) (show (mI S 82) = fp82 from by first | (exact hpre2)) (show (mI S 83) = fp83 from by first | (exact hpre3))
      · skip
        have g12 := i_ne h9
        have li13 : (1 : Int32).toInt = 1 := rfl
        refine zd (fun h14 => ?_) (fun h14 => ?_)
        · skip
          have g15 := i_eq h14
          have f16 := zG_s hI (0) (16) (c := 64) (k := 7) (by decide)
          exact K ((mI S 64 7)) _ hI trivial (show xB S (mR S 70) from by first | (exact xB_x (xC_o (W := 75) hpre0).2)) (show aS 88 S = ab from by first | (exact (xC_o (W := 88) hpre0).1.trans hpre1)) (show (mI S 82) = fp82 from by first | (exact hpre2)) (show (mI S 83) = fp83 from by first | (exact hpre3))
        · skip
          have g17 := i_ne h14
          refine ⟨((zG_r hI (by decide)).trans hr), ?_⟩
          refine ⟨((zG_r hI (by decide)).trans hr), ?_⟩
          have li18 : (2 : Int32).toInt = 2 := rfl
          refine zd (fun h19 => ?_) (fun h19 => ?_)
          · skip
            have g20 := i_eq h19
            have b21 := i_bd (mI S 69 7)
            exact K ((mI S 69 7)) _ hI trivial (show xB S (mR S 70) from by first | (exact xB_x (xC_o (W := 75) hpre0).2)) (show aS 88 S = ab from by first | (exact (xC_o (W := 88) hpre0).1.trans hpre1)) (show (mI S 82) = fp82 from by first | (exact hpre2)) (show (mI S 83) = fp83 from by first | (exact hpre3))
          · skip
            have g22 := i_ne h19
            have li23 : (3 : Int32).toInt = 3 := rfl
            refine zd (fun h24 => ?_) (fun h24 => ?_)
            · skip
              have g25 := i_eq h24
              have b26 := i_bd (mI S 69 8)
              exact K ((mI S 69 8)) _ hI trivial (show xB S (mR S 70) from by first | (exact xB_x (xC_o (W := 75) hpre0).2)) (show aS 88 S = ab from by first | (exact (xC_o (W := 88) hpre0).1.trans hpre1)) (show (mI S 82) = fp82 from by first | (exact hpre2)) (show (mI S 83) = fp83 from by first | (exact hpre3))
            · skip
              have g27 := i_ne h24
              have li28 : (4 : Int32).toInt = 4 := rfl
              refine zd (fun h29 => ?_) (fun h29 => ?_)
              · skip
                have g30 := i_eq h29
                have f31 := zG_s hI (0) (512) (c := 69) (k := 6) (by decide)
                exact K ((mI S 69 6)) _ hI trivial (show xB S (mR S 70) from by first | (exact xB_x (xC_o (W := 75) hpre0).2)) (show aS 88 S = ab from by first | (exact (xC_o (W := 88) hpre0).1.trans hpre1)) (show (mI S 82) = fp82 from by first | (exact hpre2)) (show (mI S 83) = fp83 from by first | (exact hpre3))
              · skip
                have g32 := i_ne h29
                have li33 : (5 : Int32).toInt = 5 := rfl
                refine zd (fun h34 => ?_) (fun h34 => ?_)
                · skip
                  have g35 := i_eq h34
                  have b36 := i_bd (mI S 69 9)
                  exact K ((mI S 69 9)) _ hI trivial (show xB S (mR S 70) from by first | (exact xB_x (xC_o (W := 75) hpre0).2)) (show aS 88 S = ab from by first | (exact (xC_o (W := 88) hpre0).1.trans hpre1)) (show (mI S 82) = fp82 from by first | (exact hpre2)) (show (mI S 83) = fp83 from by first | (exact hpre3))
                · skip
                  have g37 := i_ne h34
                  have li38 : (6 : Int32).toInt = 6 := rfl
                  refine zd (fun h39 => ?_) (fun h39 => ?_)
                  · skip
                    have g40 := i_eq h39
                    have b41 := i_bd (mI S 69 10)
                    exact K ((mI S 69 10)) _ hI trivial (show xB S (mR S 70) from by first | (exact xB_x (xC_o (W := 75) hpre0).2)) (show aS 88 S = ab from by first | (exact (xC_o (W := 88) hpre0).1.trans hpre1)) (show (mI S 82) = fp82 from by first | (exact hpre2)) (show (mI S 83) = fp83 from by first | (exact hpre3))
                  · skip
                    have g42 := i_ne h39
                    have li43 : (7 : Int32).toInt = 7 := rfl
                    refine zd (fun h44 => ?_) (fun h44 => ?_)
                    · skip
                      have g45 := i_eq h44
                      have b46 := i_bd (mI S 69 11)
                      exact K ((mI S 69 11)) _ hI trivial (show xB S (mR S 70) from by first | (exact xB_x (xC_o (W := 75) hpre0).2)) (show aS 88 S = ab from by first | (exact (xC_o (W := 88) hpre0).1.trans hpre1)) (show (mI S 82) = fp82 from by first | (exact hpre2)) (show (mI S 83) = fp83 from by first | (exact hpre3))
                    · skip
                      have g47 := i_ne h44
                      have li48 : (8 : Int32).toInt = 8 := rfl
                      refine zd (fun h49 => ?_) (fun h49 => ?_)
                      · skip
                        have g50 := i_eq h49
                        have b51 := i_bd (mI S 69 12)
                        exact K ((mI S 69 12)) _ hI trivial (show xB S (mR S 70) from by first | (exact xB_x (xC_o (W := 75) hpre0).2)) (show aS 88 S = ab from by first | (exact (xC_o (W := 88) hpre0).1.trans hpre1)) (show (mI S 82) = fp82 from by first | (exact hpre2)) (show (mI S 83) = fp83 from by first | (exact hpre3))
                      · skip
                        have g52 := i_ne h49
                        have li53 : (9 : Int32).toInt = 9 := rfl
                        refine zd (fun h54 => ?_) (fun h54 => ?_)
                        · skip
                          have g55 := i_eq h54
                          have f56 := zG_s hI (0) (512) (c := 69) (k := 5) (by decide)
                          exact K ((mI S 69 5)) _ hI trivial (show xB S (mR S 70) from by first | (exact xB_x (xC_o (W := 75) hpre0).2)) (show aS 88 S = ab from by first | (exact (xC_o (W := 88) hpre0).1.trans hpre1)) (show (mI S 82) = fp82 from by first | (exact hpre2)) (show (mI S 83) = fp83 from by first | (exact hpre3))
                        · skip
                          have g57 := i_ne h54
                          have li58 : (10 : Int32).toInt = 10 := rfl
                          refine zd (fun h59 => ?_) (fun h59 => ?_)
                          · skip
                            have g60 := i_eq h59
                            refine sp_20_82_s  (by omega) (by omega) (zB_dn_zJ82 hI)  (fun v2 S1 eS_S1 hp_v2 => zi_n ⟨(by rw [eS_S1]; exact zG_T hI), ?_⟩)
                            replace eS_S1 := eS_S1.symm; subst eS_S1
                            have b61 := i_bd v2
                            exact K (v2) _ hI trivial (show xB S (mR S 70) from by first | (exact xB_x (xC_o (W := 75) hpre0).2)) (show aS 88 S = ab from by first | (exact (xC_o (W := 88) hpre0).1.trans hpre1)) (show (mI S 82) = fp82 from by first | (exact hpre2)) (show (mI S 83) = fp83 from by first | (exact hpre3))
                          · skip
                            have g62 := i_ne h59
                            have li63 : (11 : Int32).toInt = 11 := rfl
                            refine zd (fun h64 => ?_) (fun h64 => ?_)
                            · skip
                              have g65 := i_eq h64
                              refine sp_21_82_s  (by omega) (by omega) (zB_dn_zJ82 hI)  (fun v4 S3 eS_S3 hp_v4 => zi_n ⟨(by rw [eS_S3]; exact zG_T hI), ?_⟩)
                              replace eS_S3 := eS_S3.symm; subst eS_S3
                              have b66 := i_bd v4
                              exact K (v4) _ hI trivial (show xB S (mR S 70) from by first | (exact xB_x (xC_o (W := 75) hpre0).2)) (show aS 88 S = ab from by first | (exact (xC_o (W := 88) hpre0).1.trans hpre1)) (show (mI S 82) = fp82 from by first | (exact hpre2)) (show (mI S 83) = fp83 from by first | (exact hpre3))
                            · skip
                              have g67 := i_ne h64
                              have li68 : (12 : Int32).toInt = 12 := rfl
                              refine zd (fun h69 => ?_) (fun h69 => ?_)
                              · skip
                                have g70 := i_eq h69
                                exact K ((0 : Int32)) _ hI trivial (show xB S (mR S 70) from by first | (exact xB_x (xC_o (W := 75) hpre0).2)) (show aS 88 S = ab from by first | (exact (xC_o (W := 88) hpre0).1.trans hpre1)) (show (mI S 82) = fp82 from by first | (exact hpre2)) (show (mI S 83) = fp83 from by first | (exact hpre3))
                              · skip
                                have g71 := i_ne h69
                                refine sp_22_82_s  (by omega) (by omega) (zB_dn_zJ82 hI)  (fun v6 S5 eS_S5 hp_v6 => zi_n ⟨(by rw [eS_S5]; exact zG_T hI), ?_⟩)
                                replace eS_S5 := eS_S5.symm; subst eS_S5
                                have b72 := i_bd v6
                                exact K (v6) _ hI trivial (show xB S (mR S 70) from by first | (exact xB_x (xC_o (W := 75) hpre0).2)) (show aS 88 S = ab from by first | (exact (xC_o (W := 88) hpre0).1.trans hpre1)) (show (mI S 82) = fp82 from by first | (exact hpre2)) (show (mI S 83) = fp83 from by first | (exact hpre3))
    · skip
      have g73 := i_nle h7
      exact KX 2 _ (by decide) hI (show xB S (mR S 70) from by first | (exact xB_x (xC_o (W := 75) hpre0).2)) (show aS 88 S = ab from by first | (exact (xC_o (W := 88) hpre0).1.trans hpre1)) (show (mI S 82) = fp82 from by first | (exact hpre2)) (show (mI S 83) = fp83 from by first | (exact hpre3))

/-! from 95.u39 -/
/-! AGES, the class (written by wip/tools/gen15y.py) -/
theorem g_8_82_sm_0 {X : Nat × (Nat → Int32)} {d w : Nat} {S : ma_S} {Q : Option ma_V ⊕ Nat → ma_S → Prop} (t : Nat) (i : Int32) (x : Option Nat) (hd : 1 ≤ d) (hw : 22 ≤ w) (hS : zT S) (h : if (mI S 82 5) ≤ 0 then ((x = none → Q (.inl none) S) ∧ (∀ c1, x = some c1 → (126 ≤ t ∧ t < mN S) ∧ (if (mI S t 4) < (mI S 82 3) then ((126 ≤ c1 ∧ c1 < mN S) ∧ (if (mI S c1 4) < (mI S 82 3) then (Q (.inl none) S) else (Q (.inl none) S))) else (Q (.inl none) S)))) else ((126 ≤ t ∧ t < mN S) ∧ ((mI S 82 5) ≠ 0 ∧ ((x = none → Q (.inl none) S) ∧ (∀ c2, x = some c2 → (126 ≤ t ∧ t < mN S) ∧ (if (mI S t 4) < (mI S 82 3) then ((126 ≤ c2 ∧ c2 < mN S) ∧ (if (mI S c2 4) < (mI S 82 3) then (Q (.inl none) S) else (if ((((mI S t 4) + (1 : Int32)) + i) / (mI S 82 5)) < 0 then (Q (.inl none) S) else (if (375 : Int32) ≤ ((((mI S t 4) + (1 : Int32)) + i) / (mI S 82 5)) then (Q (.inl none) S) else ((0 ≤ ((((mI S t 4) + (1 : Int32)) + i) / (mI S 82 5)) ∧ ((((mI S t 4) + (1 : Int32)) + i) / (mI S 82 5)).toNatClampNeg < 375) ∧ (Q (.inl none) (ma_put S 83 ((((mI S t 4) + (1 : Int32)) + i) / (mI S 82 5)).toNatClampNeg (.inl (1 : Int32))))))))) else (Q (.inl none) S))))))) : ma_wp X d w 8 0 [(0, .inr (.inr (some 82))), (1, .inr (.inr (some t))), (2, .inl i), (3, .inr (.inr x))] [] S Q := by
  refine zw_push hm_8 dX0_noteReference_0 (v := .inr (.inr (some 82))) rfl ?_
  refine zw_push hm_8 dX0_noteReference_1 (v := .inr (.inr (some t))) rfl ?_
  refine zw_push hm_8 dX0_noteReference_2 (v := .inl i) rfl ?_
  refine zw_cv hm_8 dX0_noteReference_3 v_1_136_1 hm_9 [.inl i, .inr (.inr (some t))] [] rfl (zT_rt hS s_82 rfl) ⟨by omega, by omega⟩ rfl ?_
  show ma_wp X (d - 1) (w - 22) 9 0 [(0, .inr (.inr (some 82))), (1, .inr (.inr (some t))), (2, .inl i)] [] S _
  refine zw_push hm_9 dX0_cardOf_0 (v := .inr (.inr (some 82))) rfl ?_
  refine zw_gf hm_9 dX0_cardOf_1 (v := .inl (mI S 82 5)) (zT_is hS s_82) (zT_t hS s_82) rfl f_1_25_1 rfl ?_
  refine zw_if0 hm_9 dX0_cardOf_4 (t := 23) rfl zc0_le ?_ ?_
  · intro hc
    rw [if_pos hc] at h
    refine zw_push hm_9 dX0_cardOf_23 (v := .inl (-1 : Int32)) rfl ?_
    refine zw_iret hm_9 dX0_cardOf_24 ?_
    show ma_wp X d w 8 6 [(0, .inr (.inr (some 82))), (1, .inr (.inr (some t))), (2, .inl i), (3, .inr (.inr x))] [.inl (-1 : Int32)] S _
    refine zw_sto hm_8 dX0_noteReference_6 [(4, .inl (-1 : Int32)), (0, .inr (.inr (some 82))), (1, .inr (.inr (some t))), (2, .inl i), (3, .inr (.inr x))] rfl rfl rfl ?_
    refine zw_push hm_8 dX0_noteReference_8 (v := .inr (.inr x)) rfl ?_
    refine zw_ifnull hm_8 dX0_noteReference_9 (t := 49) rfl ?_ ?_
    · intro hc
      have h := h.1 hc
      (try rw [hc])
      show ma_wp X d w 8 49 [(4, .inl (-1 : Int32)), (0, .inr (.inr (some 82))), (1, .inr (.inr (some t))), (2, .inl i), (3, .inr (.inr none))] [] S _
      exact zw_vret hm_8 dX0_noteReference_49 h
    · intro c1 hc
      have h := h.2 c1 hc
      (try rw [hc])
      show ma_wp X d w 8 12 [(4, .inl (-1 : Int32)), (0, .inr (.inr (some 82))), (1, .inr (.inr (some t))), (2, .inl i), (3, .inr (.inr (some c1)))] [] S _
      refine zw_push hm_8 dX0_noteReference_12 (v := .inr (.inr (some 82))) rfl ?_
      refine zw_push hm_8 dX0_noteReference_13 (v := .inr (.inr (some t))) rfl ?_
      refine zw_cv hm_8 dX0_noteReference_14 v_1_58_1 hm_7 [.inr (.inr (some t))] [] rfl (zT_rt hS s_82 rfl) ⟨by omega, by omega⟩ rfl ?_
      show ma_wp X (d - 1) (w - 21) 7 0 [(0, .inr (.inr (some 82))), (1, .inr (.inr (some t)))] [] S _
      refine zw_push hm_7 dX0_isYoung_0 (v := .inr (.inr (some t))) rfl ?_
      obtain ⟨hg, h⟩ := h
      refine zw_gf hm_7 dX0_isYoung_1 (v := .inl (mI S t 4)) (zT_tis hS hg) (zT_tt hS hg) rfl f_1_62_9 rfl ?_
      refine zw_push hm_7 dX0_isYoung_4 (v := .inr (.inr (some 82))) rfl ?_
      refine zw_gf hm_7 dX0_isYoung_5 (v := .inl (mI S 82 3)) (zT_is hS s_82) (zT_t hS s_82) rfl f_1_19_1 rfl ?_
      refine zw_if2 hm_7 dX0_isYoung_8 (t := 15) rfl zc2_lt ?_ ?_
      · intro hc
        rw [if_pos hc] at h
        refine zw_push hm_7 dX0_isYoung_15 (v := .inl (0 : Int32)) rfl ?_
        refine zw_bret hm_7 dX0_isYoung_16 (by decide) ?_
        show ma_wp X d w 8 17 [(4, .inl (-1 : Int32)), (0, .inr (.inr (some 82))), (1, .inr (.inr (some t))), (2, .inl i), (3, .inr (.inr (some c1)))] [.inl (0 : Int32)] S _
        refine zw_if0 hm_8 dX0_noteReference_17 (t := 49) rfl zc0_ne (fun hc => absurd hc (by decide)) (fun _ => ?_)
        refine zw_push hm_8 dX0_noteReference_20 (v := .inr (.inr (some 82))) rfl ?_
        refine zw_push hm_8 dX0_noteReference_21 (v := .inr (.inr (some c1))) rfl ?_
        refine zw_cv hm_8 dX0_noteReference_22 v_1_58_1 hm_7 [.inr (.inr (some c1))] [] rfl (zT_rt hS s_82 rfl) ⟨by omega, by omega⟩ rfl ?_
        show ma_wp X (d - 1) (w - 21) 7 0 [(0, .inr (.inr (some 82))), (1, .inr (.inr (some c1)))] [] S _
        refine zw_push hm_7 dX0_isYoung_0 (v := .inr (.inr (some c1))) rfl ?_
        obtain ⟨hg, h⟩ := h
        refine zw_gf hm_7 dX0_isYoung_1 (v := .inl (mI S c1 4)) (zT_tis hS hg) (zT_tt hS hg) rfl f_1_62_9 rfl ?_
        refine zw_push hm_7 dX0_isYoung_4 (v := .inr (.inr (some 82))) rfl ?_
        refine zw_gf hm_7 dX0_isYoung_5 (v := .inl (mI S 82 3)) (zT_is hS s_82) (zT_t hS s_82) rfl f_1_19_1 rfl ?_
        refine zw_if2 hm_7 dX0_isYoung_8 (t := 15) rfl zc2_lt ?_ ?_
        · intro hc
          rw [if_pos hc] at h
          refine zw_push hm_7 dX0_isYoung_15 (v := .inl (0 : Int32)) rfl ?_
          refine zw_bret hm_7 dX0_isYoung_16 (by decide) ?_
          show ma_wp X d w 8 25 [(4, .inl (-1 : Int32)), (0, .inr (.inr (some 82))), (1, .inr (.inr (some t))), (2, .inl i), (3, .inr (.inr (some c1)))] [.inl (0 : Int32)] S _
          refine zw_if0 hm_8 dX0_noteReference_25 (t := 49) rfl zc0_eq (fun _ => ?_) (fun hc => absurd (by decide) hc)
          exact zw_vret hm_8 dX0_noteReference_49 h
        · intro hc
          rw [if_neg hc] at h
          refine zw_push hm_7 dX0_isYoung_11 (v := .inl (1 : Int32)) rfl ?_
          refine zw_goto hm_7 dX0_isYoung_12 (t := 16) rfl ?_
          refine zw_bret hm_7 dX0_isYoung_16 (by decide) ?_
          show ma_wp X d w 8 25 [(4, .inl (-1 : Int32)), (0, .inr (.inr (some 82))), (1, .inr (.inr (some t))), (2, .inl i), (3, .inr (.inr (some c1)))] [.inl (1 : Int32)] S _
          refine zw_if0 hm_8 dX0_noteReference_25 (t := 49) rfl zc0_eq (fun hc => absurd hc (by decide)) (fun _ => ?_)
          refine zw_push hm_8 dX0_noteReference_28 (v := .inl (-1 : Int32)) rfl ?_
          refine zw_if0 hm_8 dX0_noteReference_30 (t := 49) rfl zc0_lt (fun _ => ?_) (fun hc => absurd (by decide) hc)
          exact zw_vret hm_8 dX0_noteReference_49 h
      · intro hc
        rw [if_neg hc] at h
        refine zw_push hm_7 dX0_isYoung_11 (v := .inl (1 : Int32)) rfl ?_
        refine zw_goto hm_7 dX0_isYoung_12 (t := 16) rfl ?_
        refine zw_bret hm_7 dX0_isYoung_16 (by decide) ?_
        show ma_wp X d w 8 17 [(4, .inl (-1 : Int32)), (0, .inr (.inr (some 82))), (1, .inr (.inr (some t))), (2, .inl i), (3, .inr (.inr (some c1)))] [.inl (1 : Int32)] S _
        refine zw_if0 hm_8 dX0_noteReference_17 (t := 49) rfl zc0_ne (fun _ => ?_) (fun hc => absurd (by decide) hc)
        exact zw_vret hm_8 dX0_noteReference_49 h
  · intro hc
    rw [if_neg hc] at h
    refine zw_push hm_9 dX0_cardOf_7 (v := .inr (.inr (some t))) rfl ?_
    obtain ⟨hg, h⟩ := h
    refine zw_gf hm_9 dX0_cardOf_8 (v := .inl (mI S t 4)) (zT_tis hS hg) (zT_tt hS hg) rfl f_1_62_9 rfl ?_
    refine zw_push hm_9 dX0_cardOf_11 (v := .inl (1 : Int32)) rfl ?_
    refine zw_stk hm_9 dX0_cardOf_12 (st₉ := [.inl ((mI S t 4) + (1 : Int32))]) rfl rfl ?_
    refine zw_push hm_9 dX0_cardOf_13 (v := .inl i) rfl ?_
    refine zw_stk hm_9 dX0_cardOf_14 (st₉ := [.inl (((mI S t 4) + (1 : Int32)) + i)]) rfl rfl ?_
    refine zw_push hm_9 dX0_cardOf_15 (v := .inr (.inr (some 82))) rfl ?_
    refine zw_gf hm_9 dX0_cardOf_16 (v := .inl (mI S 82 5)) (zT_is hS s_82) (zT_t hS s_82) rfl f_1_25_1 rfl ?_
    obtain ⟨hg, h⟩ := h
    refine zw_stk hm_9 dX0_cardOf_19 (st₉ := [.inl ((((mI S t 4) + (1 : Int32)) + i) / (mI S 82 5))]) rfl (if_neg hg) ?_
    refine zw_goto hm_9 dX0_cardOf_20 (t := 24) rfl ?_
    refine zw_iret hm_9 dX0_cardOf_24 ?_
    show ma_wp X d w 8 6 [(0, .inr (.inr (some 82))), (1, .inr (.inr (some t))), (2, .inl i), (3, .inr (.inr x))] [.inl ((((mI S t 4) + (1 : Int32)) + i) / (mI S 82 5))] S _
    refine zw_sto hm_8 dX0_noteReference_6 [(4, .inl ((((mI S t 4) + (1 : Int32)) + i) / (mI S 82 5))), (0, .inr (.inr (some 82))), (1, .inr (.inr (some t))), (2, .inl i), (3, .inr (.inr x))] rfl rfl rfl ?_
    refine zw_push hm_8 dX0_noteReference_8 (v := .inr (.inr x)) rfl ?_
    refine zw_ifnull hm_8 dX0_noteReference_9 (t := 49) rfl ?_ ?_
    · intro hc
      have h := h.1 hc
      (try rw [hc])
      show ma_wp X d w 8 49 [(4, .inl ((((mI S t 4) + (1 : Int32)) + i) / (mI S 82 5))), (0, .inr (.inr (some 82))), (1, .inr (.inr (some t))), (2, .inl i), (3, .inr (.inr none))] [] S _
      exact zw_vret hm_8 dX0_noteReference_49 h
    · intro c2 hc
      have h := h.2 c2 hc
      (try rw [hc])
      show ma_wp X d w 8 12 [(4, .inl ((((mI S t 4) + (1 : Int32)) + i) / (mI S 82 5))), (0, .inr (.inr (some 82))), (1, .inr (.inr (some t))), (2, .inl i), (3, .inr (.inr (some c2)))] [] S _
      refine zw_push hm_8 dX0_noteReference_12 (v := .inr (.inr (some 82))) rfl ?_
      refine zw_push hm_8 dX0_noteReference_13 (v := .inr (.inr (some t))) rfl ?_
      refine zw_cv hm_8 dX0_noteReference_14 v_1_58_1 hm_7 [.inr (.inr (some t))] [] rfl (zT_rt hS s_82 rfl) ⟨by omega, by omega⟩ rfl ?_
      show ma_wp X (d - 1) (w - 21) 7 0 [(0, .inr (.inr (some 82))), (1, .inr (.inr (some t)))] [] S _
      refine zw_push hm_7 dX0_isYoung_0 (v := .inr (.inr (some t))) rfl ?_
      obtain ⟨hg, h⟩ := h
      refine zw_gf hm_7 dX0_isYoung_1 (v := .inl (mI S t 4)) (zT_tis hS hg) (zT_tt hS hg) rfl f_1_62_9 rfl ?_
      refine zw_push hm_7 dX0_isYoung_4 (v := .inr (.inr (some 82))) rfl ?_
      refine zw_gf hm_7 dX0_isYoung_5 (v := .inl (mI S 82 3)) (zT_is hS s_82) (zT_t hS s_82) rfl f_1_19_1 rfl ?_
      refine zw_if2 hm_7 dX0_isYoung_8 (t := 15) rfl zc2_lt ?_ ?_
      · intro hc
        rw [if_pos hc] at h
        refine zw_push hm_7 dX0_isYoung_15 (v := .inl (0 : Int32)) rfl ?_
        refine zw_bret hm_7 dX0_isYoung_16 (by decide) ?_
        show ma_wp X d w 8 17 [(4, .inl ((((mI S t 4) + (1 : Int32)) + i) / (mI S 82 5))), (0, .inr (.inr (some 82))), (1, .inr (.inr (some t))), (2, .inl i), (3, .inr (.inr (some c2)))] [.inl (0 : Int32)] S _
        refine zw_if0 hm_8 dX0_noteReference_17 (t := 49) rfl zc0_ne (fun hc => absurd hc (by decide)) (fun _ => ?_)
        refine zw_push hm_8 dX0_noteReference_20 (v := .inr (.inr (some 82))) rfl ?_
        refine zw_push hm_8 dX0_noteReference_21 (v := .inr (.inr (some c2))) rfl ?_
        refine zw_cv hm_8 dX0_noteReference_22 v_1_58_1 hm_7 [.inr (.inr (some c2))] [] rfl (zT_rt hS s_82 rfl) ⟨by omega, by omega⟩ rfl ?_
        show ma_wp X (d - 1) (w - 21) 7 0 [(0, .inr (.inr (some 82))), (1, .inr (.inr (some c2)))] [] S _
        refine zw_push hm_7 dX0_isYoung_0 (v := .inr (.inr (some c2))) rfl ?_
        obtain ⟨hg, h⟩ := h
        refine zw_gf hm_7 dX0_isYoung_1 (v := .inl (mI S c2 4)) (zT_tis hS hg) (zT_tt hS hg) rfl f_1_62_9 rfl ?_
        refine zw_push hm_7 dX0_isYoung_4 (v := .inr (.inr (some 82))) rfl ?_
        refine zw_gf hm_7 dX0_isYoung_5 (v := .inl (mI S 82 3)) (zT_is hS s_82) (zT_t hS s_82) rfl f_1_19_1 rfl ?_
        refine zw_if2 hm_7 dX0_isYoung_8 (t := 15) rfl zc2_lt ?_ ?_
        · intro hc
          rw [if_pos hc] at h
          refine zw_push hm_7 dX0_isYoung_15 (v := .inl (0 : Int32)) rfl ?_
          refine zw_bret hm_7 dX0_isYoung_16 (by decide) ?_
          show ma_wp X d w 8 25 [(4, .inl ((((mI S t 4) + (1 : Int32)) + i) / (mI S 82 5))), (0, .inr (.inr (some 82))), (1, .inr (.inr (some t))), (2, .inl i), (3, .inr (.inr (some c2)))] [.inl (0 : Int32)] S _
          refine zw_if0 hm_8 dX0_noteReference_25 (t := 49) rfl zc0_eq (fun _ => ?_) (fun hc => absurd (by decide) hc)
          exact zw_vret hm_8 dX0_noteReference_49 h
        · intro hc
          rw [if_neg hc] at h
          refine zw_push hm_7 dX0_isYoung_11 (v := .inl (1 : Int32)) rfl ?_
          refine zw_goto hm_7 dX0_isYoung_12 (t := 16) rfl ?_
          refine zw_bret hm_7 dX0_isYoung_16 (by decide) ?_
          show ma_wp X d w 8 25 [(4, .inl ((((mI S t 4) + (1 : Int32)) + i) / (mI S 82 5))), (0, .inr (.inr (some 82))), (1, .inr (.inr (some t))), (2, .inl i), (3, .inr (.inr (some c2)))] [.inl (1 : Int32)] S _
          refine zw_if0 hm_8 dX0_noteReference_25 (t := 49) rfl zc0_eq (fun hc => absurd hc (by decide)) (fun _ => ?_)
          refine zw_push hm_8 dX0_noteReference_28 (v := .inl ((((mI S t 4) + (1 : Int32)) + i) / (mI S 82 5))) rfl ?_
          refine zw_if0 hm_8 dX0_noteReference_30 (t := 49) rfl zc0_lt ?_ ?_
          · intro hc
            rw [if_pos hc] at h
            exact zw_vret hm_8 dX0_noteReference_49 h
          · intro hc
            rw [if_neg hc] at h
            refine zw_push hm_8 dX0_noteReference_33 (v := .inl ((((mI S t 4) + (1 : Int32)) + i) / (mI S 82 5))) rfl ?_
            refine zw_push hm_8 dX0_noteReference_35 (v := .inl (375 : Int32)) rfl ?_
            refine zw_if2 hm_8 dX0_noteReference_38 (t := 49) rfl zc2_ge ?_ ?_
            · intro hc
              rw [if_pos hc] at h
              exact zw_vret hm_8 dX0_noteReference_49 h
            · intro hc
              rw [if_neg hc] at h
              refine zw_push hm_8 dX0_noteReference_41 (v := .inr (.inr (some 82))) rfl ?_
              refine zw_gf hm_8 dX0_noteReference_42 (v := .inr (.inr (some 83))) (zT_is hS s_82) (zT_t hS s_82) rfl f_1_9_1 (zT_f hS r_82_9) ?_
              refine zw_push hm_8 dX0_noteReference_45 (v := .inl ((((mI S t 4) + (1 : Int32)) + i) / (mI S 82 5))) rfl ?_
              refine zw_push hm_8 dX0_noteReference_47 (v := .inl (1 : Int32)) rfl ?_
              obtain ⟨hg, h⟩ := h
              refine zw_ias hm_8 dX0_noteReference_48 (zT_is hS s_83) (zT_h hS s_83) rfl hg ?_
              exact zw_vret hm_8 dX0_noteReference_49 h
      · intro hc
        rw [if_neg hc] at h
        refine zw_push hm_7 dX0_isYoung_11 (v := .inl (1 : Int32)) rfl ?_
        refine zw_goto hm_7 dX0_isYoung_12 (t := 16) rfl ?_
        refine zw_bret hm_7 dX0_isYoung_16 (by decide) ?_
        show ma_wp X d w 8 17 [(4, .inl ((((mI S t 4) + (1 : Int32)) + i) / (mI S 82 5))), (0, .inr (.inr (some 82))), (1, .inr (.inr (some t))), (2, .inl i), (3, .inr (.inr (some c2)))] [.inl (1 : Int32)] S _
        refine zw_if0 hm_8 dX0_noteReference_17 (t := 49) rfl zc0_ne (fun _ => ?_) (fun hc => absurd (by decide) hc)
        exact zw_vret hm_8 dX0_noteReference_49 h
theorem sp_8_82_sm {X : Nat × (Nat → Int32)} {d w : Nat} {f : Nat → Nat → Int32} {r : Nat → Nat → Option Nat} {C Z N : Nat} {Q : Option ma_V ⊕ Nat → ma_S → Prop} {ab : Nat→Nat→Int32} {R : zRT} {yt : Int32} {y : Int32} {ag : Nat→Nat→Int32} {fp82 : Nat→Int32} {S : ma_S} (t : Nat) (i : Int32) (x : Option Nat) (hd : 1 ≤ d) (hw : 22 ≤ w) (hI : zJ82 f r C Z N S) (th_t : 126 ≤ t ∧ t < N) (hq_x : ∀ c, x = some c → 126 ≤ c ∧ c < N) (hpre0 : xB S R) (hpre1 : aS 88 S = ab) (hpre2 : aG S = ag) (hpre3 : (mI S 82) = fp82) (hpre4 : zTa R yt = some t) (hpre5 : x = zTa R y) (hpre6 : 0 ≤ i.toInt) (hpre7 : i.toInt ≤ 61) (K : ∀ S₉, zJ82 f r C Z N S₉ → (xB S₉ R) → (aS 88 S₉ = ab) → (aG S₉ = (gNr ag yt.toNatClampNeg i.toInt y)) → ((mI S₉ 82) = fp82) → Q (.inl none) S₉) : ma_wp X d w 8 0 [(0, .inr (.inr (some 82))), (1, .inr (.inr (some t))), (2, .inl i), (3, .inr (.inr x))] [] S Q := by
  refine g_8_82_sm_0 t i x (by omega) (by omega) (zG_T hI) ?_
  have b1 := i_bd (mI S 82 5)
  have li2 : (0 : Int32).toInt = 0 := rfl
  refine zd (fun h3 => ?_) (fun h3 => ?_)
  · skip
    have g4 := i_le h3
    refine ⟨fun hc => ?_, fun c1 hc => ?_⟩
    · skip
      have rn_c1 : zTa R y = none := hpre5.symm.trans hc
      exact K _ hI (show xB S R from by first | (exact (xC_o (W := 75) hpre0).2)) (show aS 88 S = ab from by first | (exact (xC_o (W := 88) hpre0).1.trans hpre1)) (show aG S = (gNr ag yt.toNatClampNeg i.toInt y) from by first | (have tt := xB_th (W := 75) hpre0 hpre4; have e9 : (ag 87 9).toInt = (mI S 82 3).toInt := (by rw [← hpre2]; rfl); have e12 : (ag 87 12).toInt = (mI S 82 5).toInt := (by rw [← hpre2]; rfl); have et : (ag 130 yt.toNatClampNeg).toInt = (mI S t 4).toInt := (by rw [← hpre2, aG_o (by decide) (by decide), ← tt.2.2.2.2.2.1]); unfold gNr; rw [if_neg (fun z => ?_)]; (exact hpre2); (exact xB_nt (W := 75) hpre0 rn_c1 ⟨z.1.1, z.1.2.1, by rw [← aG_o (by decide) (by decide), hpre2]; exact z.1.2.2.1⟩)) | (exfalso; omega)) (show (mI S 82) = fp82 from by first | (exact hpre3))
    · skip
      have th_c1 := hq_x c1 hc
      have rg_c1 : zTa R y = some c1 := hpre5.symm.trans hc
      subst hc
      refine ⟨zG_n hI th_t, ?_⟩
      have f5 := zG_th hI th_t
      have x6 : (mI S 82 3).toInt ≤ (mI S 82 7).toInt ∧ (mI S 82 7).toInt ≤ (mI S 82 3).toInt + (mI S 82 2).toInt := zG_x hI
      have f7 := zG_s hI (0) (1500) (c := 82) (k := 3) (by decide)
      refine zd (fun h8 => ?_) (fun h8 => ?_)
      · skip
        have g9 := i_lt h8
        refine ⟨zG_n hI th_c1, ?_⟩
        have f10 := zG_th hI th_c1
        refine zd (fun h11 => ?_) (fun h11 => ?_)
        · skip
          have g12 := i_lt h11
          exact K _ hI (show xB S R from by first | (exact (xC_o (W := 75) hpre0).2)) (show aS 88 S = ab from by first | (exact (xC_o (W := 88) hpre0).1.trans hpre1)) (show aG S = (gNr ag yt.toNatClampNeg i.toInt y) from by first | (have tt := xB_th (W := 75) hpre0 hpre4; have e9 : (ag 87 9).toInt = (mI S 82 3).toInt := (by rw [← hpre2]; rfl); have e12 : (ag 87 12).toInt = (mI S 82 5).toInt := (by rw [← hpre2]; rfl); have et : (ag 130 yt.toNatClampNeg).toInt = (mI S t 4).toInt := (by rw [← hpre2, aG_o (by decide) (by decide), ← tt.2.2.2.2.2.1]); have tx := xB_th (W := 75) hpre0 rg_c1; have ex : (ag 130 y.toNatClampNeg).toInt = (mI S c1 4).toInt := (by rw [← hpre2, aG_o (by decide) (by decide), ← tx.2.2.2.2.2.1]); have ea : ag 126 y.toNatClampNeg ≠ 0 := (by rw [← hpre2, aG_o (by decide) (by decide), tx.2.2.2.2.2.2.2.2]; decide); unfold gNr; rw [if_neg (fun z => ?_)]; (exact hpre2); omega) | (have tt := xB_th (W := 75) hpre0 hpre4; have e9 : (ag 87 9).toInt = (mI S 82 3).toInt := (by rw [← hpre2]; rfl); have e12 : (ag 87 12).toInt = (mI S 82 5).toInt := (by rw [← hpre2]; rfl); have et : (ag 130 yt.toNatClampNeg).toInt = (mI S t 4).toInt := (by rw [← hpre2, aG_o (by decide) (by decide), ← tt.2.2.2.2.2.1]); have tx := xB_th (W := 75) hpre0 rg_c1; have ex : (ag 130 y.toNatClampNeg).toInt = (mI S c1 4).toInt := (by rw [← hpre2, aG_o (by decide) (by decide), ← tx.2.2.2.2.2.1]); have ea : ag 126 y.toNatClampNeg ≠ 0 := (by rw [← hpre2, aG_o (by decide) (by decide), tx.2.2.2.2.2.2.2.2]; decide); have d := dy_e hpre0 hpre4 (i := i) (by omega) (by omega) (by omega) (by omega); rw [hpre2] at d; unfold gNr; rw [if_neg (fun z => ?_)]; (exact hpre2); omega) | (exfalso; omega)) (show (mI S 82) = fp82 from by first | (exact hpre3))
        · skip
          have g13 := i_nlt h11
          exact K _ hI (show xB S R from by first | (exact (xC_o (W := 75) hpre0).2)) (show aS 88 S = ab from by first | (exact (xC_o (W := 88) hpre0).1.trans hpre1)) (show aG S = (gNr ag yt.toNatClampNeg i.toInt y) from by first | (have tt := xB_th (W := 75) hpre0 hpre4; have e9 : (ag 87 9).toInt = (mI S 82 3).toInt := (by rw [← hpre2]; rfl); have e12 : (ag 87 12).toInt = (mI S 82 5).toInt := (by rw [← hpre2]; rfl); have et : (ag 130 yt.toNatClampNeg).toInt = (mI S t 4).toInt := (by rw [← hpre2, aG_o (by decide) (by decide), ← tt.2.2.2.2.2.1]); have tx := xB_th (W := 75) hpre0 rg_c1; have ex : (ag 130 y.toNatClampNeg).toInt = (mI S c1 4).toInt := (by rw [← hpre2, aG_o (by decide) (by decide), ← tx.2.2.2.2.2.1]); have ea : ag 126 y.toNatClampNeg ≠ 0 := (by rw [← hpre2, aG_o (by decide) (by decide), tx.2.2.2.2.2.2.2.2]; decide); unfold gNr; rw [if_neg (fun z => ?_)]; (exact hpre2); omega) | (have tt := xB_th (W := 75) hpre0 hpre4; have e9 : (ag 87 9).toInt = (mI S 82 3).toInt := (by rw [← hpre2]; rfl); have e12 : (ag 87 12).toInt = (mI S 82 5).toInt := (by rw [← hpre2]; rfl); have et : (ag 130 yt.toNatClampNeg).toInt = (mI S t 4).toInt := (by rw [← hpre2, aG_o (by decide) (by decide), ← tt.2.2.2.2.2.1]); have tx := xB_th (W := 75) hpre0 rg_c1; have ex : (ag 130 y.toNatClampNeg).toInt = (mI S c1 4).toInt := (by rw [← hpre2, aG_o (by decide) (by decide), ← tx.2.2.2.2.2.1]); have ea : ag 126 y.toNatClampNeg ≠ 0 := (by rw [← hpre2, aG_o (by decide) (by decide), tx.2.2.2.2.2.2.2.2]; decide); have d := dy_e hpre0 hpre4 (i := i) (by omega) (by omega) (by omega) (by omega); rw [hpre2] at d; unfold gNr; rw [if_neg (fun z => ?_)]; (exact hpre2); omega) | (exfalso; omega)) (show (mI S 82) = fp82 from by first | (exact hpre3))
      · skip
        have g14 := i_nlt h8
        exact K _ hI (show xB S R from by first | (exact (xC_o (W := 75) hpre0).2)) (show aS 88 S = ab from by first | (exact (xC_o (W := 88) hpre0).1.trans hpre1)) (show aG S = (gNr ag yt.toNatClampNeg i.toInt y) from by first | (have tt := xB_th (W := 75) hpre0 hpre4; have e9 : (ag 87 9).toInt = (mI S 82 3).toInt := (by rw [← hpre2]; rfl); have e12 : (ag 87 12).toInt = (mI S 82 5).toInt := (by rw [← hpre2]; rfl); have et : (ag 130 yt.toNatClampNeg).toInt = (mI S t 4).toInt := (by rw [← hpre2, aG_o (by decide) (by decide), ← tt.2.2.2.2.2.1]); have tx := xB_th (W := 75) hpre0 rg_c1; have ex : (ag 130 y.toNatClampNeg).toInt = (mI S c1 4).toInt := (by rw [← hpre2, aG_o (by decide) (by decide), ← tx.2.2.2.2.2.1]); have ea : ag 126 y.toNatClampNeg ≠ 0 := (by rw [← hpre2, aG_o (by decide) (by decide), tx.2.2.2.2.2.2.2.2]; decide); unfold gNr; rw [if_neg (fun z => ?_)]; (exact hpre2); omega) | (have tt := xB_th (W := 75) hpre0 hpre4; have e9 : (ag 87 9).toInt = (mI S 82 3).toInt := (by rw [← hpre2]; rfl); have e12 : (ag 87 12).toInt = (mI S 82 5).toInt := (by rw [← hpre2]; rfl); have et : (ag 130 yt.toNatClampNeg).toInt = (mI S t 4).toInt := (by rw [← hpre2, aG_o (by decide) (by decide), ← tt.2.2.2.2.2.1]); have tx := xB_th (W := 75) hpre0 rg_c1; have ex : (ag 130 y.toNatClampNeg).toInt = (mI S c1 4).toInt := (by rw [← hpre2, aG_o (by decide) (by decide), ← tx.2.2.2.2.2.1]); have ea : ag 126 y.toNatClampNeg ≠ 0 := (by rw [← hpre2, aG_o (by decide) (by decide), tx.2.2.2.2.2.2.2.2]; decide); have d := dy_e hpre0 hpre4 (i := i) (by omega) (by omega) (by omega) (by omega); rw [hpre2] at d; unfold gNr; rw [if_neg (fun z => ?_)]; (exact hpre2); omega) | (exfalso; omega)) (show (mI S 82) = fp82 from by first | (exact hpre3))
  · skip
    have g15 := i_nle h3
    refine ⟨zG_n hI th_t, ?_⟩
    refine ⟨i_nz (by omega), ?_⟩
    refine ⟨fun hc => ?_, fun c2 hc => ?_⟩
    · skip
      have rn_c2 : zTa R y = none := hpre5.symm.trans hc
      exact K _ hI (show xB S R from by first | (exact (xC_o (W := 75) hpre0).2)) (show aS 88 S = ab from by first | (exact (xC_o (W := 88) hpre0).1.trans hpre1)) (show aG S = (gNr ag yt.toNatClampNeg i.toInt y) from by first | (have tt := xB_th (W := 75) hpre0 hpre4; have e9 : (ag 87 9).toInt = (mI S 82 3).toInt := (by rw [← hpre2]; rfl); have e12 : (ag 87 12).toInt = (mI S 82 5).toInt := (by rw [← hpre2]; rfl); have et : (ag 130 yt.toNatClampNeg).toInt = (mI S t 4).toInt := (by rw [← hpre2, aG_o (by decide) (by decide), ← tt.2.2.2.2.2.1]); unfold gNr; rw [if_neg (fun z => ?_)]; (exact hpre2); (exact xB_nt (W := 75) hpre0 rn_c2 ⟨z.1.1, z.1.2.1, by rw [← aG_o (by decide) (by decide), hpre2]; exact z.1.2.2.1⟩)) | (exfalso; omega)) (show (mI S 82) = fp82 from by first | (exact hpre3))
    · skip
      have th_c2 := hq_x c2 hc
      have rg_c2 : zTa R y = some c2 := hpre5.symm.trans hc
      subst hc
      refine ⟨zG_n hI th_t, ?_⟩
      have f16 := zG_th hI th_t
      have x17 : (mI S 82 3).toInt ≤ (mI S 82 7).toInt ∧ (mI S 82 7).toInt ≤ (mI S 82 3).toInt + (mI S 82 2).toInt := zG_x hI
      have f18 := zG_s hI (0) (1500) (c := 82) (k := 3) (by decide)
      refine zd (fun h19 => ?_) (fun h19 => ?_)
      · skip
        have g20 := i_lt h19
        refine ⟨zG_n hI th_c2, ?_⟩
        have f21 := zG_th hI th_c2
        refine zd (fun h22 => ?_) (fun h22 => ?_)
        · skip
          have g23 := i_lt h22
          exact K _ hI (show xB S R from by first | (exact (xC_o (W := 75) hpre0).2)) (show aS 88 S = ab from by first | (exact (xC_o (W := 88) hpre0).1.trans hpre1)) (show aG S = (gNr ag yt.toNatClampNeg i.toInt y) from by first | (have tt := xB_th (W := 75) hpre0 hpre4; have e9 : (ag 87 9).toInt = (mI S 82 3).toInt := (by rw [← hpre2]; rfl); have e12 : (ag 87 12).toInt = (mI S 82 5).toInt := (by rw [← hpre2]; rfl); have et : (ag 130 yt.toNatClampNeg).toInt = (mI S t 4).toInt := (by rw [← hpre2, aG_o (by decide) (by decide), ← tt.2.2.2.2.2.1]); have tx := xB_th (W := 75) hpre0 rg_c2; have ex : (ag 130 y.toNatClampNeg).toInt = (mI S c2 4).toInt := (by rw [← hpre2, aG_o (by decide) (by decide), ← tx.2.2.2.2.2.1]); have ea : ag 126 y.toNatClampNeg ≠ 0 := (by rw [← hpre2, aG_o (by decide) (by decide), tx.2.2.2.2.2.2.2.2]; decide); unfold gNr; rw [if_neg (fun z => ?_)]; (exact hpre2); omega) | (have tt := xB_th (W := 75) hpre0 hpre4; have e9 : (ag 87 9).toInt = (mI S 82 3).toInt := (by rw [← hpre2]; rfl); have e12 : (ag 87 12).toInt = (mI S 82 5).toInt := (by rw [← hpre2]; rfl); have et : (ag 130 yt.toNatClampNeg).toInt = (mI S t 4).toInt := (by rw [← hpre2, aG_o (by decide) (by decide), ← tt.2.2.2.2.2.1]); have tx := xB_th (W := 75) hpre0 rg_c2; have ex : (ag 130 y.toNatClampNeg).toInt = (mI S c2 4).toInt := (by rw [← hpre2, aG_o (by decide) (by decide), ← tx.2.2.2.2.2.1]); have ea : ag 126 y.toNatClampNeg ≠ 0 := (by rw [← hpre2, aG_o (by decide) (by decide), tx.2.2.2.2.2.2.2.2]; decide); have d := dy_e hpre0 hpre4 (i := i) (by omega) (by omega) (by omega) (by omega); rw [hpre2] at d; unfold gNr; rw [if_neg (fun z => ?_)]; (exact hpre2); omega) | (exfalso; omega)) (show (mI S 82) = fp82 from by first | (exact hpre3))
        · skip
          have g24 := i_nlt h22
          first | have e25 : ((mI S t 4) + (1 : Int32)).toInt = (mI S t 4).toInt + (1) := i_addk rfl (by omega) (by omega) | have b26 := i_bd ((mI S t 4) + (1 : Int32))
          have b27 := i_bd i
          first | have e28 : (((mI S t 4) + (1 : Int32)) + i).toInt = ((mI S t 4) + (1 : Int32)).toInt + i.toInt := i_add (by omega) (by omega) | have b29 := i_bd (((mI S t 4) + (1 : Int32)) + i)
          first | have f30 := i_div (x := (((mI S t 4) + (1 : Int32)) + i)) (y := (mI S 82 5)) (by omega) (by omega) | have b31 := i_bd ((((mI S t 4) + (1 : Int32)) + i) / (mI S 82 5))
          refine zd (fun h32 => ?_) (fun h32 => ?_)
          · skip
            have g33 := i_lt h32
            exact K _ hI (show xB S R from by first | (exact (xC_o (W := 75) hpre0).2)) (show aS 88 S = ab from by first | (exact (xC_o (W := 88) hpre0).1.trans hpre1)) (show aG S = (gNr ag yt.toNatClampNeg i.toInt y) from by first | (have tt := xB_th (W := 75) hpre0 hpre4; have e9 : (ag 87 9).toInt = (mI S 82 3).toInt := (by rw [← hpre2]; rfl); have e12 : (ag 87 12).toInt = (mI S 82 5).toInt := (by rw [← hpre2]; rfl); have et : (ag 130 yt.toNatClampNeg).toInt = (mI S t 4).toInt := (by rw [← hpre2, aG_o (by decide) (by decide), ← tt.2.2.2.2.2.1]); have tx := xB_th (W := 75) hpre0 rg_c2; have ex : (ag 130 y.toNatClampNeg).toInt = (mI S c2 4).toInt := (by rw [← hpre2, aG_o (by decide) (by decide), ← tx.2.2.2.2.2.1]); have ea : ag 126 y.toNatClampNeg ≠ 0 := (by rw [← hpre2, aG_o (by decide) (by decide), tx.2.2.2.2.2.2.2.2]; decide); unfold gNr; rw [if_neg (fun z => ?_)]; (exact hpre2); omega) | (have tt := xB_th (W := 75) hpre0 hpre4; have e9 : (ag 87 9).toInt = (mI S 82 3).toInt := (by rw [← hpre2]; rfl); have e12 : (ag 87 12).toInt = (mI S 82 5).toInt := (by rw [← hpre2]; rfl); have et : (ag 130 yt.toNatClampNeg).toInt = (mI S t 4).toInt := (by rw [← hpre2, aG_o (by decide) (by decide), ← tt.2.2.2.2.2.1]); have tx := xB_th (W := 75) hpre0 rg_c2; have ex : (ag 130 y.toNatClampNeg).toInt = (mI S c2 4).toInt := (by rw [← hpre2, aG_o (by decide) (by decide), ← tx.2.2.2.2.2.1]); have ea : ag 126 y.toNatClampNeg ≠ 0 := (by rw [← hpre2, aG_o (by decide) (by decide), tx.2.2.2.2.2.2.2.2]; decide); have d := dy_e hpre0 hpre4 (i := i) (by omega) (by omega) (by omega) (by omega); rw [hpre2] at d; unfold gNr; rw [if_neg (fun z => ?_)]; (exact hpre2); omega) | (exfalso; omega)) (show (mI S 82) = fp82 from by first | (exact hpre3))
          · skip
            have g34 := i_nlt h32
            have li35 : (375 : Int32).toInt = 375 := rfl
            refine zd (fun h36 => ?_) (fun h36 => ?_)
            · skip
              have g37 := i_le h36
              exact K _ hI (show xB S R from by first | (exact (xC_o (W := 75) hpre0).2)) (show aS 88 S = ab from by first | (exact (xC_o (W := 88) hpre0).1.trans hpre1)) (show aG S = (gNr ag yt.toNatClampNeg i.toInt y) from by first | (have tt := xB_th (W := 75) hpre0 hpre4; have e9 : (ag 87 9).toInt = (mI S 82 3).toInt := (by rw [← hpre2]; rfl); have e12 : (ag 87 12).toInt = (mI S 82 5).toInt := (by rw [← hpre2]; rfl); have et : (ag 130 yt.toNatClampNeg).toInt = (mI S t 4).toInt := (by rw [← hpre2, aG_o (by decide) (by decide), ← tt.2.2.2.2.2.1]); have tx := xB_th (W := 75) hpre0 rg_c2; have ex : (ag 130 y.toNatClampNeg).toInt = (mI S c2 4).toInt := (by rw [← hpre2, aG_o (by decide) (by decide), ← tx.2.2.2.2.2.1]); have ea : ag 126 y.toNatClampNeg ≠ 0 := (by rw [← hpre2, aG_o (by decide) (by decide), tx.2.2.2.2.2.2.2.2]; decide); unfold gNr; rw [if_neg (fun z => ?_)]; (exact hpre2); omega) | (have tt := xB_th (W := 75) hpre0 hpre4; have e9 : (ag 87 9).toInt = (mI S 82 3).toInt := (by rw [← hpre2]; rfl); have e12 : (ag 87 12).toInt = (mI S 82 5).toInt := (by rw [← hpre2]; rfl); have et : (ag 130 yt.toNatClampNeg).toInt = (mI S t 4).toInt := (by rw [← hpre2, aG_o (by decide) (by decide), ← tt.2.2.2.2.2.1]); have tx := xB_th (W := 75) hpre0 rg_c2; have ex : (ag 130 y.toNatClampNeg).toInt = (mI S c2 4).toInt := (by rw [← hpre2, aG_o (by decide) (by decide), ← tx.2.2.2.2.2.1]); have ea : ag 126 y.toNatClampNeg ≠ 0 := (by rw [← hpre2, aG_o (by decide) (by decide), tx.2.2.2.2.2.2.2.2]; decide); have d := dy_e hpre0 hpre4 (i := i) (by omega) (by omega) (by omega) (by omega); rw [hpre2] at d; unfold gNr; rw [if_neg (fun z => ?_)]; (exact hpre2); omega) | (exfalso; omega)) (show (mI S 82) = fp82 from by first | (exact hpre3))
            · skip
              have g38 := i_nle h36
              refine ⟨i_ix (by omega) (by omega), ?_⟩
              have hI39 : zJ82 f r C Z N (ma_put S 83 ((((mI S t 4) + (1 : Int32)) + i) / (mI S 82 5)).toNatClampNeg (.inl (1 : Int32))) := zG_fa hI rfl (by decide) (by decide) (by decide) (show zJ82_x (mI S) from zG_x hI)
              exact K _ hI39 (show xB (ma_put S 83 ((((mI S t 4) + (1 : Int32)) + i) / (mI S 82 5)).toNatClampNeg (.inl (1 : Int32))) R from by first | (exact (xC_n (c := 83) (k := ((((mI S t 4) + (1 : Int32)) + i) / (mI S 82 5)).toNatClampNeg) (x := (1 : Int32)) (xC_o (W := 75) hpre0) ⟨by decide, Or.inl ⟨rfl, rfl⟩⟩).2)) (show aS 88 (ma_put S 83 ((((mI S t 4) + (1 : Int32)) + i) / (mI S 82 5)).toNatClampNeg (.inl (1 : Int32))) = ab from by first | (exact (xC_n (c := 83) (k := ((((mI S t 4) + (1 : Int32)) + i) / (mI S 82 5)).toNatClampNeg) (x := (1 : Int32)) (xC_o (W := 88) hpre0) ⟨by decide, Or.inr ⟨rfl, Or.inr ⟨rfl, by decide⟩⟩⟩).1.trans hpre1)) (show aG (ma_put S 83 ((((mI S t 4) + (1 : Int32)) + i) / (mI S 82 5)).toNatClampNeg (.inl (1 : Int32))) = (gNr ag yt.toNatClampNeg i.toInt y) from by first | (have tt := xB_th (W := 75) hpre0 hpre4; have e9 : (ag 87 9).toInt = (mI S 82 3).toInt := (by rw [← hpre2]; rfl); have e12 : (ag 87 12).toInt = (mI S 82 5).toInt := (by rw [← hpre2]; rfl); have et : (ag 130 yt.toNatClampNeg).toInt = (mI S t 4).toInt := (by rw [← hpre2, aG_o (by decide) (by decide), ← tt.2.2.2.2.2.1]); have tx := xB_th (W := 75) hpre0 rg_c2; have ex : (ag 130 y.toNatClampNeg).toInt = (mI S c2 4).toInt := (by rw [← hpre2, aG_o (by decide) (by decide), ← tx.2.2.2.2.2.1]); have ea : ag 126 y.toNatClampNeg ≠ 0 := (by rw [← hpre2, aG_o (by decide) (by decide), tx.2.2.2.2.2.2.2.2]; decide); have d := dy_e hpre0 hpre4 (i := i) (by omega) (by omega) (by omega) (by omega); rw [hpre2] at d; have tc := tn_cast (x := (mI S t 4 + (1 : Int32) + i) / mI S 82 5) (by omega); unfold gNr; rw [if_pos ⟨⟨tx.1, tx.2.1, ea, by omega⟩, by omega, by omega, by omega⟩, ((G_p8 (n := ((((mI S t 4) + (1 : Int32)) + i) / (mI S 82 5)).toNatClampNeg) (x := (1 : Int32)) (xC_o (W := 75) hpre0).2).trans (congrArg (fun q => ma_u q 83 ((((mI S t 4) + (1 : Int32)) + i) / (mI S 82 5)).toNatClampNeg (1 : Int32)) (show aG S = aG S from rfl))), hpre2, show (gCx ag yt.toNatClampNeg i.toInt).toNat = ((mI S t 4 + (1 : Int32) + i) / mI S 82 5).toNatClampNeg from by omega]) | (exfalso; omega)) (show (mI (ma_put S 83 ((((mI S t 4) + (1 : Int32)) + i) / (mI S 82 5)).toNatClampNeg (.inl (1 : Int32))) 82) = fp82 from by first | (exact ((zr_n (P := 82) (c := 83) (by decide)).trans hpre3)))
      · skip
        have g40 := i_nlt h19
        exact K _ hI (show xB S R from by first | (exact (xC_o (W := 75) hpre0).2)) (show aS 88 S = ab from by first | (exact (xC_o (W := 88) hpre0).1.trans hpre1)) (show aG S = (gNr ag yt.toNatClampNeg i.toInt y) from by first | (have tt := xB_th (W := 75) hpre0 hpre4; have e9 : (ag 87 9).toInt = (mI S 82 3).toInt := (by rw [← hpre2]; rfl); have e12 : (ag 87 12).toInt = (mI S 82 5).toInt := (by rw [← hpre2]; rfl); have et : (ag 130 yt.toNatClampNeg).toInt = (mI S t 4).toInt := (by rw [← hpre2, aG_o (by decide) (by decide), ← tt.2.2.2.2.2.1]); have tx := xB_th (W := 75) hpre0 rg_c2; have ex : (ag 130 y.toNatClampNeg).toInt = (mI S c2 4).toInt := (by rw [← hpre2, aG_o (by decide) (by decide), ← tx.2.2.2.2.2.1]); have ea : ag 126 y.toNatClampNeg ≠ 0 := (by rw [← hpre2, aG_o (by decide) (by decide), tx.2.2.2.2.2.2.2.2]; decide); unfold gNr; rw [if_neg (fun z => ?_)]; (exact hpre2); omega) | (have tt := xB_th (W := 75) hpre0 hpre4; have e9 : (ag 87 9).toInt = (mI S 82 3).toInt := (by rw [← hpre2]; rfl); have e12 : (ag 87 12).toInt = (mI S 82 5).toInt := (by rw [← hpre2]; rfl); have et : (ag 130 yt.toNatClampNeg).toInt = (mI S t 4).toInt := (by rw [← hpre2, aG_o (by decide) (by decide), ← tt.2.2.2.2.2.1]); have tx := xB_th (W := 75) hpre0 rg_c2; have ex : (ag 130 y.toNatClampNeg).toInt = (mI S c2 4).toInt := (by rw [← hpre2, aG_o (by decide) (by decide), ← tx.2.2.2.2.2.1]); have ea : ag 126 y.toNatClampNeg ≠ 0 := (by rw [← hpre2, aG_o (by decide) (by decide), tx.2.2.2.2.2.2.2.2]; decide); have d := dy_e hpre0 hpre4 (i := i) (by omega) (by omega) (by omega) (by omega); rw [hpre2] at d; unfold gNr; rw [if_neg (fun z => ?_)]; (exact hpre2); omega) | (exfalso; omega)) (show (mI S 82) = fp82 from by first | (exact hpre3))

