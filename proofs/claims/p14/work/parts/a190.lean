/-! from 95.m47 -/
/-! COUNTS, the class (written by wip/tools/gen20k.py) -/
theorem g_163_64_sk_p84_0 {X : Nat × (Nat → Int32)} {d w : Nat} {S : ma_S} {Q : Option ma_V ⊕ Nat → ma_S → Prop} (wh : Int32) (hd : 7 ≤ d) (hw : 109 ≤ w) (hS : zT S) (h : if wh < 0 then (Q (.inr 2) (ma_bump S)) else (if wh ≤ (13 : Int32) then (if wh = 0 then (Q (.inl (some (.inl (mI S 64 1)))) S) else (if wh = (1 : Int32) then (Q (.inl (some (.inl (mI S 64 7)))) S) else (mR S 64 11 = some 84 ∧ (mR S 64 11 = some 84 ∧ (if wh = (2 : Int32) then (Q (.inl (some (.inl (mI S 69 7)))) S) else (if wh = (3 : Int32) then (Q (.inl (some (.inl (mI S 69 8)))) S) else (if wh = (4 : Int32) then (Q (.inl (some (.inl (mI S 69 6)))) S) else (if wh = (5 : Int32) then (Q (.inl (some (.inl (mI S 69 9)))) S) else (if wh = (6 : Int32) then (Q (.inl (some (.inl (mI S 69 10)))) S) else (if wh = (7 : Int32) then (Q (.inl (some (.inl (mI S 69 11)))) S) else (if wh = (8 : Int32) then (Q (.inl (some (.inl (mI S 69 12)))) S) else (if wh = (9 : Int32) then (Q (.inl (some (.inl (mI S 69 5)))) S) else (if wh = (10 : Int32) then (Q (.inl (some (.inl (0 : Int32)))) S) else (if wh = (11 : Int32) then (Q (.inl (some (.inl (0 : Int32)))) S) else (if wh = (12 : Int32) then (Q (.inl (some (.inl (0 : Int32)))) S) else (Q (.inl (some (.inl (0 : Int32)))) S)))))))))))))))) else (Q (.inr 2) (ma_bump S)))) : ma_wp X d w 163 0 [(0, .inr (.inr (some 64))), (1, .inl wh)] [] S Q := by
  refine zw_push hm_163 dX11_count_0 (v := .inl wh) rfl ?_
  refine zw_if0 hm_163 dX11_count_1 (t := 10) rfl zc0_lt ?_ ?_
  · intro hc
    rw [if_pos hc] at h
    exact zw_thr hm_163 dX11_count_10 dX11_count_13 dX11_count_14 dX11_count_17 x_11_79_81 n_11_79 (by omega) (by show 0 + 81 ≤ w; omega) h
  · intro hc
    rw [if_neg hc] at h
    refine zw_push hm_163 dX11_count_4 (v := .inl wh) rfl ?_
    refine zw_push hm_163 dX11_count_5 (v := .inl (13 : Int32)) rfl ?_
    refine zw_if2 hm_163 dX11_count_7 (t := 18) rfl zc2_le ?_ ?_
    · intro hc
      rw [if_pos hc] at h
      refine zw_push hm_163 dX11_count_18 (v := .inl wh) rfl ?_
      refine zw_if0 hm_163 dX11_count_19 (t := 27) rfl zc0_ne ?_ ?_
      · intro hc
        rw [if_neg hc] at h
        refine zw_push hm_163 dX11_count_27 (v := .inl wh) rfl ?_
        refine zw_push hm_163 dX11_count_28 (v := .inl (1 : Int32)) rfl ?_
        refine zw_if2 hm_163 dX11_count_29 (t := 37) rfl zc2_ne ?_ ?_
        · intro hc
          rw [if_neg hc] at h
          refine zw_push hm_163 dX11_count_37 (v := .inr (.inr (some 64))) rfl ?_
          refine zw_cv hm_163 dX11_count_38 v_11_119_11 hm_144 [] [] rfl (zT_rt hS s_64 rfl) ⟨by omega, by omega⟩ rfl ?_
          show ma_wp X (d - 1) (w - 20) 144 0 [(0, .inr (.inr (some 64)))] [] S _
          refine zw_push hm_144 dX11_needCollector_0 (v := .inr (.inr (some 64))) rfl ?_
          obtain ⟨hg, h⟩ := h
          refine zw_gf hm_144 dX11_needCollector_1 (v := .inr (.inr (some 84))) (zT_is hS s_64) (zT_t hS s_64) rfl f_11_98_11 (congrArg (fun z => Sum.inr (Sum.inr z)) hg) ?_
          refine zw_ifnonnull hm_144 dX11_needCollector_4 (t := 15) rfl (fun z => by cases z) (fun _ _ => ?_)
          refine zw_push hm_144 dX11_needCollector_15 (v := .inr (.inr (some 64))) rfl ?_
          obtain ⟨hg, h⟩ := h
          refine zw_gf hm_144 dX11_needCollector_16 (v := .inr (.inr (some 84))) (zT_is hS s_64) (zT_t hS s_64) rfl f_11_98_11 (congrArg (fun z => Sum.inr (Sum.inr z)) hg) ?_
          refine zw_aret hm_144 dX11_needCollector_19 ?_
          show ma_wp X d w 163 41 [(0, .inr (.inr (some 64))), (1, .inl wh)] [.inr (.inr (some 84))] S _
          refine zw_sto hm_163 dX11_count_41 [(2, .inr (.inr (some 84))), (0, .inr (.inr (some 64))), (1, .inl wh)] rfl rfl rfl ?_
          refine zw_push hm_163 dX11_count_42 (v := .inl wh) rfl ?_
          by_cases hc0 : wh = (2 : Int32)
          · rw [if_pos hc0] at h
            refine zw_jmp hm_163 dX11_count_43 (t := 100) (st₉ := []) rfl rfl rfl (ma_jmp_tab (by rw [hc0]; decide +kernel)) ?_
            refine zw_push hm_163 dX11_count_100 (v := .inr (.inr (some 64))) rfl ?_
            refine zw_gf hm_163 dX11_count_101 (v := .inr (.inr (some 69))) (zT_is hS s_64) (zT_t hS s_64) rfl f_11_26_11 (zT_f hS r_64_8) ?_
            refine zw_gf hm_163 dX11_count_104 (v := .inl (mI S 69 7)) (zT_is hS s_69) (zT_t hS s_69) rfl f_11_238_7 rfl ?_
            exact zw_iret hm_163 dX11_count_107 h
          rw [if_neg hc0] at h
          by_cases hc1 : wh = (3 : Int32)
          · rw [if_pos hc1] at h
            refine zw_jmp hm_163 dX11_count_43 (t := 108) (st₉ := []) rfl rfl rfl (ma_jmp_tab (by rw [hc1]; decide +kernel)) ?_
            refine zw_push hm_163 dX11_count_108 (v := .inr (.inr (some 64))) rfl ?_
            refine zw_gf hm_163 dX11_count_109 (v := .inr (.inr (some 69))) (zT_is hS s_64) (zT_t hS s_64) rfl f_11_26_11 (zT_f hS r_64_8) ?_
            refine zw_gf hm_163 dX11_count_112 (v := .inl (mI S 69 8)) (zT_is hS s_69) (zT_t hS s_69) rfl f_11_241_7 rfl ?_
            exact zw_iret hm_163 dX11_count_115 h
          rw [if_neg hc1] at h
          by_cases hc2 : wh = (4 : Int32)
          · rw [if_pos hc2] at h
            refine zw_jmp hm_163 dX11_count_43 (t := 116) (st₉ := []) rfl rfl rfl (ma_jmp_tab (by rw [hc2]; decide +kernel)) ?_
            refine zw_push hm_163 dX11_count_116 (v := .inr (.inr (some 64))) rfl ?_
            refine zw_gf hm_163 dX11_count_117 (v := .inr (.inr (some 69))) (zT_is hS s_64) (zT_t hS s_64) rfl f_11_26_11 (zT_f hS r_64_8) ?_
            refine zw_gf hm_163 dX11_count_120 (v := .inl (mI S 69 6)) (zT_is hS s_69) (zT_t hS s_69) rfl f_11_244_7 rfl ?_
            exact zw_iret hm_163 dX11_count_123 h
          rw [if_neg hc2] at h
          by_cases hc3 : wh = (5 : Int32)
          · rw [if_pos hc3] at h
            refine zw_jmp hm_163 dX11_count_43 (t := 124) (st₉ := []) rfl rfl rfl (ma_jmp_tab (by rw [hc3]; decide +kernel)) ?_
            refine zw_push hm_163 dX11_count_124 (v := .inr (.inr (some 64))) rfl ?_
            refine zw_gf hm_163 dX11_count_125 (v := .inr (.inr (some 69))) (zT_is hS s_64) (zT_t hS s_64) rfl f_11_26_11 (zT_f hS r_64_8) ?_
            refine zw_gf hm_163 dX11_count_128 (v := .inl (mI S 69 9)) (zT_is hS s_69) (zT_t hS s_69) rfl f_11_247_7 rfl ?_
            exact zw_iret hm_163 dX11_count_131 h
          rw [if_neg hc3] at h
          by_cases hc4 : wh = (6 : Int32)
          · rw [if_pos hc4] at h
            refine zw_jmp hm_163 dX11_count_43 (t := 132) (st₉ := []) rfl rfl rfl (ma_jmp_tab (by rw [hc4]; decide +kernel)) ?_
            refine zw_push hm_163 dX11_count_132 (v := .inr (.inr (some 64))) rfl ?_
            refine zw_gf hm_163 dX11_count_133 (v := .inr (.inr (some 69))) (zT_is hS s_64) (zT_t hS s_64) rfl f_11_26_11 (zT_f hS r_64_8) ?_
            refine zw_gf hm_163 dX11_count_136 (v := .inl (mI S 69 10)) (zT_is hS s_69) (zT_t hS s_69) rfl f_11_250_7 rfl ?_
            exact zw_iret hm_163 dX11_count_139 h
          rw [if_neg hc4] at h
          by_cases hc5 : wh = (7 : Int32)
          · rw [if_pos hc5] at h
            refine zw_jmp hm_163 dX11_count_43 (t := 140) (st₉ := []) rfl rfl rfl (ma_jmp_tab (by rw [hc5]; decide +kernel)) ?_
            refine zw_push hm_163 dX11_count_140 (v := .inr (.inr (some 64))) rfl ?_
            refine zw_gf hm_163 dX11_count_141 (v := .inr (.inr (some 69))) (zT_is hS s_64) (zT_t hS s_64) rfl f_11_26_11 (zT_f hS r_64_8) ?_
            refine zw_gf hm_163 dX11_count_144 (v := .inl (mI S 69 11)) (zT_is hS s_69) (zT_t hS s_69) rfl f_11_253_7 rfl ?_
            exact zw_iret hm_163 dX11_count_147 h
          rw [if_neg hc5] at h
          by_cases hc6 : wh = (8 : Int32)
          · rw [if_pos hc6] at h
            refine zw_jmp hm_163 dX11_count_43 (t := 148) (st₉ := []) rfl rfl rfl (ma_jmp_tab (by rw [hc6]; decide +kernel)) ?_
            refine zw_push hm_163 dX11_count_148 (v := .inr (.inr (some 64))) rfl ?_
            refine zw_gf hm_163 dX11_count_149 (v := .inr (.inr (some 69))) (zT_is hS s_64) (zT_t hS s_64) rfl f_11_26_11 (zT_f hS r_64_8) ?_
            refine zw_gf hm_163 dX11_count_152 (v := .inl (mI S 69 12)) (zT_is hS s_69) (zT_t hS s_69) rfl f_11_256_7 rfl ?_
            exact zw_iret hm_163 dX11_count_155 h
          rw [if_neg hc6] at h
          by_cases hc7 : wh = (9 : Int32)
          · rw [if_pos hc7] at h
            refine zw_jmp hm_163 dX11_count_43 (t := 156) (st₉ := []) rfl rfl rfl (ma_jmp_tab (by rw [hc7]; decide +kernel)) ?_
            refine zw_push hm_163 dX11_count_156 (v := .inr (.inr (some 64))) rfl ?_
            refine zw_gf hm_163 dX11_count_157 (v := .inr (.inr (some 69))) (zT_is hS s_64) (zT_t hS s_64) rfl f_11_26_11 (zT_f hS r_64_8) ?_
            refine zw_gf hm_163 dX11_count_160 (v := .inl (mI S 69 5)) (zT_is hS s_69) (zT_t hS s_69) rfl f_11_259_7 rfl ?_
            exact zw_iret hm_163 dX11_count_163 h
          rw [if_neg hc7] at h
          by_cases hc8 : wh = (10 : Int32)
          · rw [if_pos hc8] at h
            refine zw_jmp hm_163 dX11_count_43 (t := 164) (st₉ := []) rfl rfl rfl (ma_jmp_tab (by rw [hc8]; decide +kernel)) ?_
            refine zw_push hm_163 dX11_count_164 (v := .inr (.inr (some 84))) rfl ?_
            refine zw_cv hm_163 dX11_count_165 v_11_262_2 hm_272 [] [] rfl (zT_rt hS s_84 rfl) ⟨by omega, by omega⟩ rfl ?_
            show ma_wp X (d - 1) (w - 20) 272 0 [(0, .inr (.inr (some 84)))] [] S _
            refine zw_push hm_272 dX1_specials_0 (v := .inl (0 : Int32)) rfl ?_
            refine zw_iret hm_272 dX1_specials_1 ?_
            show ma_wp X d w 163 168 [(2, .inr (.inr (some 84))), (0, .inr (.inr (some 64))), (1, .inl wh)] [.inl (0 : Int32)] S _
            exact zw_iret hm_163 dX11_count_168 h
          rw [if_neg hc8] at h
          by_cases hc9 : wh = (11 : Int32)
          · rw [if_pos hc9] at h
            refine zw_jmp hm_163 dX11_count_43 (t := 169) (st₉ := []) rfl rfl rfl (ma_jmp_tab (by rw [hc9]; decide +kernel)) ?_
            refine zw_push hm_163 dX11_count_169 (v := .inr (.inr (some 84))) rfl ?_
            refine zw_cv hm_163 dX11_count_170 v_11_265_2 hm_273 [] [] rfl (zT_rt hS s_84 rfl) ⟨by omega, by omega⟩ rfl ?_
            show ma_wp X (d - 1) (w - 20) 273 0 [(0, .inr (.inr (some 84)))] [] S _
            refine zw_push hm_273 dX1_topPlace_0 (v := .inl (0 : Int32)) rfl ?_
            refine zw_iret hm_273 dX1_topPlace_1 ?_
            show ma_wp X d w 163 173 [(2, .inr (.inr (some 84))), (0, .inr (.inr (some 64))), (1, .inl wh)] [.inl (0 : Int32)] S _
            exact zw_iret hm_163 dX11_count_173 h
          rw [if_neg hc9] at h
          by_cases hc10 : wh = (12 : Int32)
          · rw [if_pos hc10] at h
            refine zw_jmp hm_163 dX11_count_43 (t := 174) (st₉ := []) rfl rfl rfl (ma_jmp_tab (by rw [hc10]; decide +kernel)) ?_
            refine zw_push hm_163 dX11_count_174 (v := .inr (.inr (some 84))) rfl ?_
            refine zw_cv hm_163 dX11_count_175 v_11_268_2 hm_274 [] [] rfl (zT_rt hS s_84 rfl) ⟨by omega, by omega⟩ rfl ?_
            show ma_wp X (d - 1) (w - 20) 274 0 [(0, .inr (.inr (some 84)))] [] S _
            refine zw_push hm_274 dX1_isMarking_0 (v := .inl (0 : Int32)) rfl ?_
            refine zw_bret hm_274 dX1_isMarking_1 (by decide) ?_
            show ma_wp X d w 163 178 [(2, .inr (.inr (some 84))), (0, .inr (.inr (some 64))), (1, .inl wh)] [.inl (0 : Int32)] S _
            refine zw_if0 hm_163 dX11_count_178 (t := 185) rfl zc0_eq (fun _ => ?_) (fun hc => absurd (by decide) hc)
            refine zw_push hm_163 dX11_count_185 (v := .inl (0 : Int32)) rfl ?_
            exact zw_iret hm_163 dX11_count_186 h
          rw [if_neg hc10] at h
          refine zw_jmp hm_163 dX11_count_43 (t := 187) (st₉ := []) rfl rfl rfl (ma_jmp_def (m := 11) (by decide) (fun j hj => by
              have hj2 : j = 0 ∨ j = 1 ∨ j = 2 ∨ j = 3 ∨ j = 4 ∨ j = 5 ∨ j = 6 ∨ j = 7 ∨ j = 8 ∨ j = 9 ∨ j = 10 := by omega
              rcases hj2 with rfl | rfl | rfl | rfl | rfl | rfl | rfl | rfl | rfl | rfl | rfl
              · exact hc0
              · exact hc1
              · exact hc2
              · exact hc3
              · exact hc4
              · exact hc5
              · exact hc6
              · exact hc7
              · exact hc8
              · exact hc9
              · exact hc10
              ) rfl) ?_
          refine zw_push hm_163 dX11_count_187 (v := .inr (.inr (some 84))) rfl ?_
          refine zw_cv hm_163 dX11_count_188 v_11_272_2 hm_275 [] [] rfl (zT_rt hS s_84 rfl) ⟨by omega, by omega⟩ rfl ?_
          show ma_wp X (d - 1) (w - 20) 275 0 [(0, .inr (.inr (some 84)))] [] S _
          refine zw_push hm_275 dX1_oldTopOrRegion_0 (v := .inl (0 : Int32)) rfl ?_
          refine zw_iret hm_275 dX1_oldTopOrRegion_1 ?_
          show ma_wp X d w 163 191 [(2, .inr (.inr (some 84))), (0, .inr (.inr (some 64))), (1, .inl wh)] [.inl (0 : Int32)] S _
          exact zw_iret hm_163 dX11_count_191 h
        · intro hc
          rw [if_pos (Classical.not_not.mp hc)] at h
          refine zw_push hm_163 dX11_count_32 (v := .inr (.inr (some 64))) rfl ?_
          refine zw_gf hm_163 dX11_count_33 (v := .inl (mI S 64 7)) (zT_is hS s_64) (zT_t hS s_64) rfl f_11_82_11 rfl ?_
          exact zw_iret hm_163 dX11_count_36 h
      · intro hc
        rw [if_pos (Classical.not_not.mp hc)] at h
        refine zw_push hm_163 dX11_count_22 (v := .inr (.inr (some 64))) rfl ?_
        refine zw_gf hm_163 dX11_count_23 (v := .inl (mI S 64 1)) (zT_is hS s_64) (zT_t hS s_64) rfl f_11_68_11 rfl ?_
        exact zw_iret hm_163 dX11_count_26 h
    · intro hc
      rw [if_neg hc] at h
      exact zw_thr hm_163 dX11_count_10 dX11_count_13 dX11_count_14 dX11_count_17 x_11_79_81 n_11_79 (by omega) (by show 0 + 81 ≤ w; omega) h
theorem sp_163_64_sk_p84 {X : Nat × (Nat → Int32)} {d w : Nat} {f : Nat → Nat → Int32} {r : Nat → Nat → Option Nat} {C Z N : Nat} {Q : Option ma_V ⊕ Nat → ma_S → Prop} {ab : Nat→Nat→Int32} {B : Int} {fq : Nat→Int32} {S : ma_S} (wh : Int32) (hd : 7 ≤ d) (hw : 109 ≤ w) (hI : zB f r C Z N S) (hr : r 64 11 = some 84) (hpre0 : xB S (mR S 70)) (hpre1 : aS 88 S = ab) (hpre2 : cC ab [] (kC S) B) (hpre3 : zfP 84 (mI S) = fq) (K : ∀ v S₉, zB f r C Z N S₉ → (True) → (xB S₉ (mR S₉ 70)) → (aS 88 S₉ = ab) → (cC ab [] (kC S₉) B) → (zfP 84 (mI S₉) = fq) → Q (.inl (some (.inl v))) S₉) (KX : ∀ x S₉, (x = 2) → zB f r C Z N S₉ → (xB S₉ (mR S₉ 70)) → (aS 88 S₉ = ab) → (cC ab [] (kC S₉) B) → (zfP 84 (mI S₉) = fq) → Q (.inr x) (ma_bump S₉)) : ma_wp X d w 163 0 [(0, .inr (.inr (some 64))), (1, .inl wh)] [] S Q := by
  refine g_163_64_sk_p84_0 wh (by omega) (by omega) (zG_T hI) ?_
  have b1 := i_bd wh
  have li2 : (0 : Int32).toInt = 0 := rfl
  refine zd (fun h3 => ?_) (fun h3 => ?_)
  · skip
    have g4 := i_lt h3
    exact KX 2 _ (by decide) hI (show xB S (mR S 70) from by first | (exact xB_x (xC_o (W := 75) hpre0).2)) (show aS 88 S = ab from by first | (exact (xC_o (W := 88) hpre0).1.trans hpre1)) (show cC ab [] (kC S) B from by first | (rw [(xK_o (W := 88) hpre0 rfl).2]; exact hpre2) | (exact hpre2)) (show zfP 84 (mI S) = fq from by first | (exact hpre3))
  · skip
    have g5 := i_nlt h3
    have li6 : (13 : Int32).toInt = 13 := rfl
    refine zd (fun h7 => ?_) (fun h7 => ?_)
    · skip
      have g8 := i_le h7
      refine zd (fun h9 => ?_) (fun h9 => ?_)
      · skip
        have g10 := i_eq h9
        have f11 := zG_s hI (0) (100) (c := 64) (k := 1) (by decide)
        exact K ((mI S 64 1)) _ hI trivial (show xB S (mR S 70) from by first | (exact xB_x (xC_o (W := 75) hpre0).2)) (show aS 88 S = ab from by first | (exact (xC_o (W := 88) hpre0).1.trans hpre1)) (show cC ab [] (kC S) B from by first | (exact hpre2)) (show zfP 84 (mI S) = fq from by first | (exact hpre3))
      · skip
        have g12 := i_ne h9
        have li13 : (1 : Int32).toInt = 1 := rfl
        refine zd (fun h14 => ?_) (fun h14 => ?_)
        · skip
          have g15 := i_eq h14
          have f16 := zG_s hI (0) (16) (c := 64) (k := 7) (by decide)
          exact K ((mI S 64 7)) _ hI trivial (show xB S (mR S 70) from by first | (exact xB_x (xC_o (W := 75) hpre0).2)) (show aS 88 S = ab from by first | (exact (xC_o (W := 88) hpre0).1.trans hpre1)) (show cC ab [] (kC S) B from by first | (exact hpre2)) (show zfP 84 (mI S) = fq from by first | (exact hpre3))
        · skip
          have g17 := i_ne h14
          refine ⟨((zG_r hI (by decide)).trans hr), ?_⟩
          refine ⟨((zG_r hI (by decide)).trans hr), ?_⟩
          have li18 : (2 : Int32).toInt = 2 := rfl
          refine zd (fun h19 => ?_) (fun h19 => ?_)
          · skip
            have g20 := i_eq h19
            have b21 := i_bd (mI S 69 7)
            exact K ((mI S 69 7)) _ hI trivial (show xB S (mR S 70) from by first | (exact xB_x (xC_o (W := 75) hpre0).2)) (show aS 88 S = ab from by first | (exact (xC_o (W := 88) hpre0).1.trans hpre1)) (show cC ab [] (kC S) B from by first | (exact hpre2)) (show zfP 84 (mI S) = fq from by first | (exact hpre3))
          · skip
            have g22 := i_ne h19
            have li23 : (3 : Int32).toInt = 3 := rfl
            refine zd (fun h24 => ?_) (fun h24 => ?_)
            · skip
              have g25 := i_eq h24
              have b26 := i_bd (mI S 69 8)
              exact K ((mI S 69 8)) _ hI trivial (show xB S (mR S 70) from by first | (exact xB_x (xC_o (W := 75) hpre0).2)) (show aS 88 S = ab from by first | (exact (xC_o (W := 88) hpre0).1.trans hpre1)) (show cC ab [] (kC S) B from by first | (exact hpre2)) (show zfP 84 (mI S) = fq from by first | (exact hpre3))
            · skip
              have g27 := i_ne h24
              have li28 : (4 : Int32).toInt = 4 := rfl
              refine zd (fun h29 => ?_) (fun h29 => ?_)
              · skip
                have g30 := i_eq h29
                have f31 := zG_s hI (0) (512) (c := 69) (k := 6) (by decide)
                exact K ((mI S 69 6)) _ hI trivial (show xB S (mR S 70) from by first | (exact xB_x (xC_o (W := 75) hpre0).2)) (show aS 88 S = ab from by first | (exact (xC_o (W := 88) hpre0).1.trans hpre1)) (show cC ab [] (kC S) B from by first | (exact hpre2)) (show zfP 84 (mI S) = fq from by first | (exact hpre3))
              · skip
                have g32 := i_ne h29
                have li33 : (5 : Int32).toInt = 5 := rfl
                refine zd (fun h34 => ?_) (fun h34 => ?_)
                · skip
                  have g35 := i_eq h34
                  have b36 := i_bd (mI S 69 9)
                  exact K ((mI S 69 9)) _ hI trivial (show xB S (mR S 70) from by first | (exact xB_x (xC_o (W := 75) hpre0).2)) (show aS 88 S = ab from by first | (exact (xC_o (W := 88) hpre0).1.trans hpre1)) (show cC ab [] (kC S) B from by first | (exact hpre2)) (show zfP 84 (mI S) = fq from by first | (exact hpre3))
                · skip
                  have g37 := i_ne h34
                  have li38 : (6 : Int32).toInt = 6 := rfl
                  refine zd (fun h39 => ?_) (fun h39 => ?_)
                  · skip
                    have g40 := i_eq h39
                    have b41 := i_bd (mI S 69 10)
                    exact K ((mI S 69 10)) _ hI trivial (show xB S (mR S 70) from by first | (exact xB_x (xC_o (W := 75) hpre0).2)) (show aS 88 S = ab from by first | (exact (xC_o (W := 88) hpre0).1.trans hpre1)) (show cC ab [] (kC S) B from by first | (exact hpre2)) (show zfP 84 (mI S) = fq from by first | (exact hpre3))
                  · skip
                    have g42 := i_ne h39
                    have li43 : (7 : Int32).toInt = 7 := rfl
                    refine zd (fun h44 => ?_) (fun h44 => ?_)
                    · skip
                      have g45 := i_eq h44
                      have b46 := i_bd (mI S 69 11)
                      exact K ((mI S 69 11)) _ hI trivial (show xB S (mR S 70) from by first | (exact xB_x (xC_o (W := 75) hpre0).2)) (show aS 88 S = ab from by first | (exact (xC_o (W := 88) hpre0).1.trans hpre1)) (show cC ab [] (kC S) B from by first | (exact hpre2)) (show zfP 84 (mI S) = fq from by first | (exact hpre3))
                    · skip
                      have g47 := i_ne h44
                      have li48 : (8 : Int32).toInt = 8 := rfl
                      refine zd (fun h49 => ?_) (fun h49 => ?_)
                      · skip
                        have g50 := i_eq h49
                        have b51 := i_bd (mI S 69 12)
                        exact K ((mI S 69 12)) _ hI trivial (show xB S (mR S 70) from by first | (exact xB_x (xC_o (W := 75) hpre0).2)) (show aS 88 S = ab from by first | (exact (xC_o (W := 88) hpre0).1.trans hpre1)) (show cC ab [] (kC S) B from by first | (exact hpre2)) (show zfP 84 (mI S) = fq from by first | (exact hpre3))
                      · skip
                        have g52 := i_ne h49
                        have li53 : (9 : Int32).toInt = 9 := rfl
                        refine zd (fun h54 => ?_) (fun h54 => ?_)
                        · skip
                          have g55 := i_eq h54
                          have f56 := zG_s hI (0) (512) (c := 69) (k := 5) (by decide)
                          exact K ((mI S 69 5)) _ hI trivial (show xB S (mR S 70) from by first | (exact xB_x (xC_o (W := 75) hpre0).2)) (show aS 88 S = ab from by first | (exact (xC_o (W := 88) hpre0).1.trans hpre1)) (show cC ab [] (kC S) B from by first | (exact hpre2)) (show zfP 84 (mI S) = fq from by first | (exact hpre3))
                        · skip
                          have g57 := i_ne h54
                          have li58 : (10 : Int32).toInt = 10 := rfl
                          refine zd (fun h59 => ?_) (fun h59 => ?_)
                          · skip
                            have g60 := i_eq h59
                            exact K ((0 : Int32)) _ hI trivial (show xB S (mR S 70) from by first | (exact xB_x (xC_o (W := 75) hpre0).2)) (show aS 88 S = ab from by first | (exact (xC_o (W := 88) hpre0).1.trans hpre1)) (show cC ab [] (kC S) B from by first | (exact hpre2)) (show zfP 84 (mI S) = fq from by first | (exact hpre3))
                          · skip
                            have g61 := i_ne h59
                            have li62 : (11 : Int32).toInt = 11 := rfl
                            refine zd (fun h63 => ?_) (fun h63 => ?_)
                            · skip
                              have g64 := i_eq h63
                              exact K ((0 : Int32)) _ hI trivial (show xB S (mR S 70) from by first | (exact xB_x (xC_o (W := 75) hpre0).2)) (show aS 88 S = ab from by first | (exact (xC_o (W := 88) hpre0).1.trans hpre1)) (show cC ab [] (kC S) B from by first | (exact hpre2)) (show zfP 84 (mI S) = fq from by first | (exact hpre3))
                            · skip
                              have g65 := i_ne h63
                              have li66 : (12 : Int32).toInt = 12 := rfl
                              refine zd (fun h67 => ?_) (fun h67 => ?_)
                              · skip
                                have g68 := i_eq h67
                                exact K ((0 : Int32)) _ hI trivial (show xB S (mR S 70) from by first | (exact xB_x (xC_o (W := 75) hpre0).2)) (show aS 88 S = ab from by first | (exact (xC_o (W := 88) hpre0).1.trans hpre1)) (show cC ab [] (kC S) B from by first | (exact hpre2)) (show zfP 84 (mI S) = fq from by first | (exact hpre3))
                              · skip
                                have g69 := i_ne h67
                                exact K ((0 : Int32)) _ hI trivial (show xB S (mR S 70) from by first | (exact xB_x (xC_o (W := 75) hpre0).2)) (show aS 88 S = ab from by first | (exact (xC_o (W := 88) hpre0).1.trans hpre1)) (show cC ab [] (kC S) B from by first | (exact hpre2)) (show zfP 84 (mI S) = fq from by first | (exact hpre3))
    · skip
      have g70 := i_nle h7
      exact KX 2 _ (by decide) hI (show xB S (mR S 70) from by first | (exact xB_x (xC_o (W := 75) hpre0).2)) (show aS 88 S = ab from by first | (exact (xC_o (W := 88) hpre0).1.trans hpre1)) (show cC ab [] (kC S) B from by first | (rw [(xK_o (W := 88) hpre0 rfl).2]; exact hpre2) | (exact hpre2)) (show zfP 84 (mI S) = fq from by first | (exact hpre3))

/-! from 95.m48 -/
/-! COUNTS, the class (written by wip/tools/gen20k.py) -/
/-! COUNTS: those that go come to an end; alike but for walk and collector -/
section C9A
variable {a b d : Nat → Nat → Int32} {x y r i : Int32} {n m k c j : Nat} {st t : List (List Int32)} {l : List Int32} {K K₉ : Nat → Int32} {B : Int}
theorem V_st : ∀ (st : List (List Int32)) (a : Nat → Nat → Int32), cV a st B → cV (cSt (a, st)).1 (cSt (a, st)).2 B := by
  intro st a h
  match st, h with
  | [], h => exact h
  | [] :: t, h =>
    obtain ⟨v1, v2, v3, v4, v5, v6⟩ := h
    refine ⟨v1, v2, fun l hl => v3 l (List.mem_cons_of_mem _ hl), v4, v5, ?_⟩
    have e : cLm ([] :: t) = 0 + 1 + cLm t := rfl
    show cLm t + cMs a ≤ 40000
    omega
  | (r :: l) :: t, h =>
    by_cases w : r.toInt < 0
    · rw [cSt_n w]
      exact V_tl h
    · have ok := h.2.2.1 (r :: l) List.mem_cons_self r List.mem_cons_self
      have al : xAl a r.toNatClampNeg := ok.elim (fun z => absurd z w) id
      rw [cSt_y (by omega)]
      exact (V_fa (V_tl h) (by omega) al).1
theorem E_ex : ∀ (m : Nat) (x : (Nat → Nat → Int32) × List (List Int32)), cMu x ≤ m → cV x.1 x.2 B → ∃ b, cE x b := by
  intro m
  induction m with
  | zero =>
    intro x hm hV
    by_cases h : x.2 = []
    · refine ⟨x.1, ?_⟩
      have e : x = (x.1, []) := by rw [← h]
      rw [e]
      exact cE_o
    · have q := Mu_st hV h
      omega
  | succ m ih =>
    intro x hm hV
    by_cases h : x.2 = []
    · refine ⟨x.1, ?_⟩
      have e : x = (x.1, []) := by rw [← h]
      rw [e]
      exact cE_o
    · have q := Mu_st hV h
      obtain ⟨b, hb⟩ := ih (cSt x) (by omega) (V_st x.2 x.1 hV)
      exact ⟨b, cE_s hb⟩
theorem O8_gr (o : zO8 a b) : zO8 (aGr a y) (aGr b y) := fun c k h1 h2 h3 h4 => by
  have e5 := o 69 5 (by decide) (by decide) (by decide) (by decide)
  have e73 := o 73 k (by decide) (by decide) (by decide) (by decide)
  have ec := o c k h1 h2 h3 h4
  rw [gr_at, gr_at (a := b), e5, ec]
  unfold zUw
  rw [e73]
theorem O8_rm (o : zO8 a b) : zO8 (aRm a y) (aRm b y) := fun c k h1 h2 h3 h4 => by
  have ec := o c k h1 h2 h3 h4
  have e128 := o 128 y.toNatClampNeg (by decide) (by decide) (by decide) (by decide)
  have e130 := o 130 y.toNatClampNeg (by decide) (by decide) (by decide) (by decide)
  by_cases h : 126 ≤ c
  · rw [rm_hi h, rm_hi h]
    unfold zNo
    rw [ec]
  · by_cases h71 : c = 71
    · rw [h71] at ec ⊢
      rw [rm_71, rm_71, e128, e130]
      unfold zFr
      rw [ec]
    · by_cases h73 : c = 73
      · rw [h73] at ec ⊢
        rw [rm_73, rm_73]
        unfold zUw
        rw [ec]
      · by_cases h69 : c = 69
        · rw [h69] at ec ⊢
          by_cases k8 : k = 8
          · rw [k8] at ec ⊢
            rw [rm_8, rm_8, ec, e128]
          · by_cases k11 : k = 11
            · rw [k11] at ec ⊢
              rw [rm_11, rm_11, ec, e128]
            · have q : ∀ (e : Nat → Nat → Int32) (z : Int32), aRm e z 69 k = e 69 k := fun e z => aRm_o (by decide) ⟨by decide, by decide, fun w => k8 w.2, fun w => k11 w.2⟩
              rw [q, q, ec]
        · rw [rm_co (by omega) h71 h73 h69, rm_co (by omega) h71 h73 h69, ec]
theorem Ls_o8 (o : zO8 a b) : cLs b m k = cLs a m k := by
  have o2 := O8_sy o
  exact cLs_cg (o2 128 m (by decide) (by decide) (by decide) (by decide)) (fun j _ _ => rf_cg (o8_r o2 (by omega) (by omega) (by omega) (by omega)) (o8_r o2 (by decide) (by decide) (by decide) (by decide)) (o8_r o2 (by decide) (by decide) (by decide) (by decide)))
theorem Fa_o8 (o : zO8 a b) : zO8 (cFa a st r).1 (cFa b st r).1 ∧ (cFa b st r).2 = (cFa a st r).2 := by
  have e1 : cRf a r.toNatClampNeg = cRf b r.toNatClampNeg := Rf_o8 o
  have e2 := o 134 r.toNatClampNeg (by decide) (by decide) (by decide) (by decide)
  by_cases h : 0 < cRf a r.toNatClampNeg + (cOc st r.toNatClampNeg : Int)
  · rw [Fa_p h, Fa_p (by rw [← e1]; exact h)]
    exact ⟨o, rfl⟩
  · by_cases w : a 134 r.toNatClampNeg = 0
    · rw [Fa_r h w, Fa_r (by rw [← e1]; exact h) (by rw [← e2]; exact w)]
      exact ⟨O8_rm o, congrArg (fun q => q :: st) (Ls_o8 o)⟩
    · rw [Fa_g h w, Fa_g (by rw [← e1]; exact h) (by rw [← e2]; exact w)]
      exact ⟨O8_gr o, rfl⟩
theorem St_o8 : ∀ (st : List (List Int32)), zO8 a b → zO8 (cSt (a, st)).1 (cSt (b, st)).1 ∧ (cSt (b, st)).2 = (cSt (a, st)).2 := by
  intro st o
  match st with
  | [] => exact ⟨o, rfl⟩
  | [] :: t => exact ⟨o, rfl⟩
  | (r :: l) :: t =>
    by_cases w : r.toInt < 0
    · rw [cSt_n w, cSt_n w]
      exact ⟨o, rfl⟩
    · rw [cSt_y (by omega), cSt_y (by omega)]
      exact Fa_o8 o
theorem It_o8 : ∀ (n : Nat) (a b : Nat → Nat → Int32) (st : List (List Int32)) (d : Nat → Nat → Int32), zO8 a b → cIt n (a, st) = (d, []) → ∃ d₉, cIt n (b, st) = (d₉, []) ∧ zO8 d d₉ := by
  intro n
  induction n with
  | zero =>
    intro a b st d o h
    have h₉ : (a, st) = (d, []) := h
    have e1 : a = d := congrArg Prod.fst h₉
    have e2 : st = [] := congrArg Prod.snd h₉
    refine ⟨b, ?_, by rw [← e1]; exact o⟩
    show (b, st) = (b, [])
    rw [e2]
  | succ n ih =>
    intro a b st d o h
    have s := St_o8 st o
    have h₉ : cIt n ((cSt (a, st)).1, (cSt (a, st)).2) = (d, []) := h
    obtain ⟨d₉, q1, q2⟩ := ih (cSt (a, st)).1 (cSt (b, st)).1 (cSt (a, st)).2 d s.1 h₉
    refine ⟨d₉, ?_, q2⟩
    show cIt n ((cSt (b, st)).1, (cSt (b, st)).2) = (d₉, [])
    rw [s.2]
    exact q1
theorem Le_o8 (o : zO8 a b) (hV : cV a [] B) : zO8 (cLe a y) (cLe b y) := by
  by_cases h : 0 ≤ y.toInt ∧ xAl a y.toNatClampNeg
  · have hb : xAl b y.toNatClampNeg := by rw [← o8_al o]; exact h.2
    obtain ⟨d, n, hn⟩ := E_ex _ (cFa a [] y) (Nat.le_refl _) (V_fa hV h.1 h.2).1
    have f := Fa_o8 (st := []) (r := y) o
    obtain ⟨d₉, hd₉, od⟩ := It_o8 n (cFa a [] y).1 (cFa b [] y).1 (cFa a [] y).2 d f.1 hn
    have hb2 : cE (cFa b [] y) d₉ := ⟨n, by
      have e : cIt n ((cFa b [] y).1, (cFa b [] y).2) = (d₉, []) := by
        rw [f.2]
        exact hd₉
      exact e⟩
    rw [cLe_y h.1 h.2 ⟨n, hn⟩, cLe_y h.1 hb hb2]
    exact od
  · rw [cLe_n h, cLe_n (fun w => h ⟨w.1, by rw [o8_al o]; exact w.2⟩)]
    exact o
/-- rows that are no matter of those that go -/
def cXr (c : Nat) : Prop := c = 75 ∨ c = 76 ∨ c = 77 ∨ c = 87
theorem Fa_x (hc : cXr c) : (cFa a st r).1 c k = a c k := by
  unfold cXr at hc
  unfold cFa
  split
  · rfl
  · split
    · show aRm a r c k = a c k
      exact rm_co (by omega) (by omega) (by omega) (by omega)
    · show aGr a r c k = a c k
      rw [gr_at, if_neg (by omega), if_neg (by omega), if_neg (by omega), if_neg (by omega)]
theorem Sx_x (hc : cXr c) : ∀ (st : List (List Int32)), (cSt (a, st)).1 c k = a c k := by
  intro st
  match st with
  | [] => rfl
  | [] :: t => rfl
  | (r :: l) :: t =>
    by_cases w : r.toInt < 0
    · rw [cSt_n w]
    · rw [cSt_y (by omega)]
      exact Fa_x hc
theorem It_x (hc : cXr c) : ∀ (n : Nat) (x : (Nat → Nat → Int32) × List (List Int32)), (cIt n x).1 c k = x.1 c k := by
  intro n
  induction n with
  | zero => intro x; rfl
  | succ n ih =>
    intro x
    show (cIt n (cSt x)).1 c k = x.1 c k
    rw [ih]
    exact Sx_x hc x.2
theorem Le_x (hc : cXr c) (hV : cV a [] B) : cLe a y c k = a c k := by
  by_cases h : 0 ≤ y.toInt ∧ xAl a y.toNatClampNeg
  · obtain ⟨d, n, hn⟩ := E_ex _ (cFa a [] y) (Nat.le_refl _) (V_fa hV h.1 h.2).1
    rw [cLe_y h.1 h.2 ⟨n, hn⟩]
    have e := It_x (k := k) hc n (cFa a [] y)
    rw [hn] at e
    exact e.trans (Fa_x hc)
  · rw [cLe_n h]
theorem V_0 (h : cC a [] K B) : cV a [] B := h.2.2.2.1
theorem C_o8 (o : zO8 a b) (h : cC a [] K B) : cC b [] K B := by
  obtain ⟨q1, q2, q3, q5, qk⟩ := C0_un h
  have j := J_o8 o (C_J h)
  refine C0_mk j.1 (Nd_o8 o q2) (fun n hn => ?_) j.2.1 j.2.2
  rw [← o8_al o] at hn
  rw [← o 133 n (by decide) (by decide) (by decide) (by decide)]
  exact q3 n hn
end C9A
/-! COUNTS: a new one -/
section C9B
variable {a b d : Nat → Nat → Int32} {x y w pl kk rt : Int32} {n m k u c : Nat} {L : Int64} {K K₉ : Nat → Int32} {B z : Int} {S S₉ : ma_S} {P : Nat}
theorem Th_ad (h : qNe b y w pl) (hA : qAd b d y kk w pl L) (hn : n < 512) : cTh d n = cTh b n := Th_cg (fun m hm => by
  by_cases z : m = y.toNatClampNeg
  · have na : ¬ xAl b m := by rw [z]; exact Ne_al h
    have b0 : b 126 m = 0 := Classical.byContradiction (fun z2 => na ⟨hm, z2⟩)
    have e1 : cTm b n m = 0 := if_pos b0
    have q := Ne_b h
    have hw := h.2.2.2.1
    have e2 : cOb d m n = 0 := by
      rw [z]
      unfold cOb
      rw [hA.1.2.1, q.2.2.2.2.2.1]
      exact cSu_z _ (fun k hk => by
        have e := ofN_s (s := k) (by omega)
        rw [rf_nw h hA (by omega) (by omega)]
        exact cIs_n (by decide) hn)
    rw [e1]
    unfold cTm
    rw [e2]
    split <;> rfl
  · exact Tm_cg (hA.2.1 126 m (by decide) (by decide) z) (hA.2.1 128 m (by decide) (by decide) z) (fun z0 i hi => rf_ad h hA (wp_N (cQ_I h.1) ⟨hm, z0⟩ hi)))
theorem Ok_ad (h : qNe b y w pl) (hA : qAd b d y kk w pl L) (o : cOk b x) : cOk d x := o.imp id (fun z => (Al_ad h hA).mpr (Or.inl z))
theorem Nd_ad (h : qNe b y w pl) (hA : qAd b d y kk w pl L) (hn : cNd b) : cNd d := by
  obtain ⟨n1, n2, n3⟩ := hn
  obtain ⟨e72, _, e74, e5⟩ := hA.2.2.2.2.1
  refine ⟨fun k hk => ?_, fun k hk => ?_, fun u j hw => ?_⟩
  · rw [e72]
    exact Ok_ad h hA (n1 k hk)
  · rw [e5] at hk
    rw [e74]
    exact Ok_ad h hA (n2 k hk)
  · rcases (Al_ad h hA).mp hw.1 with z | z
    · have o := ne_al h z
      have w2 : qWp b u j := ⟨z, hw.2.1, by have q := hw.2.2; rw [hA.2.1 128 u (by decide) (by decide) o] at q; exact q⟩
      rw [rf_ad h hA w2]
      exact Ok_ad h hA (n3 u j w2)
    · have q := hw.2.2
      rw [z, hA.1.2.1, (Ne_b h).2.2.2.2.2.1] at q
      rw [z, rf_nw h hA hw.2.1 (by omega)]
      exact Or.inl (by decide)
theorem Rf_ad (h : qNe b y w pl) (hA : qAd b d y kk w pl L) (hn : xAl b n) : cRf d n = cRf b n := Rf_cg (Ro_cg hA.2.2.2.2.1.1) (Wi_cg hA.2.2.2.2.1.2.2.2 hA.2.2.2.2.1.2.2.1) (hA.2.1 133 n (by decide) (by decide) (ne_al h hn)) (Th_ad h hA hn.1)
theorem is_ad (h : qNe b y w pl) (o : cOk b x) : cIs x y.toNatClampNeg = 0 := by
  have q := Ne_b h
  rcases o with o | o
  · exact cIs_n o q.2.1
  · refine cIs_0 (fun e => Ne_al h ?_)
    have e2 := ofN_i q.2.1
    have c := tn_cast (x := x) (by rw [e]; omega)
    have e3 : x.toNatClampNeg = y.toNatClampNeg := by
      rw [e] at c ⊢
      omega
    rw [← e3]
    exact o
theorem Rf_a0 (h : qNe b y w pl) (hA : qAd b d y kk w pl L) (hd : cNd b) : cRf d y.toNatClampNeg = 0 := by
  have q := Ne_b h
  obtain ⟨n1, n2, n3⟩ := hd
  have e1 : cRo d y.toNatClampNeg = 0 := by
    rw [Ro_cg hA.2.2.2.2.1.1]
    unfold cRo
    exact cSu_z 16 (fun k hk => is_ad h (n1 k hk))
  have e2 : cWi d y.toNatClampNeg = 0 := by
    rw [Wi_cg hA.2.2.2.2.1.2.2.2 hA.2.2.2.2.1.2.2.1]
    unfold cWi
    exact cSu_z _ (fun k hk => is_ad h (n2 k (by omega)))
  have e3 : cTh d y.toNatClampNeg = 0 := by
    rw [Th_ad h hA q.2.1]
    unfold cTh
    refine cSu_z (f := cTm b y.toNatClampNeg) 512 (fun m hm => ?_)
    unfold cTm
    by_cases z : b 126 m = 0
    · exact if_pos z
    · rw [if_neg z]
      unfold cOb
      exact cSu_z _ (fun k hk => is_ad h (n3 m _ (wp_N (cQ_I h.1) ⟨hm, z⟩ (by omega))))
  unfold cRf
  rw [e1, e2, e3, hA.1.2.2.2.1]
  rfl
theorem C_ad (h : qNe b y w pl) (hA : qAd b d y kk w pl L) (hC : cC b [] K B) (hB : 0 ≤ B) (hK : ∀ n, K₉ n = zKu K y.toNatClampNeg 0 n) : cC d [] K₉ B := by
  obtain ⟨hQ, hN, hH, h5, hk⟩ := C0_un hC
  refine C0_mk (cQ_I (I_ad h hA)) (Nd_ad h hA hN) (fun n hn => ?_) (by rw [hA.2.2.2.2.1.2.2.2]; exact h5) (fun n hn => ?_)
  · rcases (Al_ad h hA).mp hn with z | z
    · rw [hA.2.1 133 n (by decide) (by decide) (ne_al h z)]
      exact hH n z
    · rw [z, hA.1.2.2.2.1, show (0 : Int32).toInt = 0 from rfl]
      exact ⟨Int.le_refl _, hB⟩
  · rw [hK n]
    rcases (Al_ad h hA).mp hn with z | z
    · rw [Rf_ad h hA z, ← hk n z]
      exact if_neg (ne_al h z)
    · rw [z, Rf_a0 h hA hN]
      exact if_pos rfl
theorem I_swn (hI : qI a) (h : cNd a) : qI (aSw a) := by
  have o : zOf a (aRA a) := RA_zo
  have g := Gf_all ((aRA a 69 6).toInt - (0 : Int32).toInt).toNat 0 (aRA a) (qI_of hI o) (E0_ra hI) (Cl_ra hI) (Nd_o8 (Of_8 o) h)
  have hb : aGw (aRA a) 0 = aGf ((aRA a 69 6).toInt - (0 : Int32).toInt).toNat 0 (aRA a) := rfl
  rw [← hb] at g
  exact I_mv g.1 g.2.1.1.2.2.2.2.2.1
theorem I_rs (hI : qI a) (h : cNd a) : qI (zRs a z) := by
  unfold zRs
  split
  · exact I_swn hI h
  · exact hI
/-- a new one under COUNTS -/
noncomputable def kMk (a : Nat → Nat → Int32) (kd wd : Int32) (L : Int64) (rt : Int32) : Nat → Nat → Int32 := if (a 69 6).toInt < 512 then (if zRp a (wd + 1).toInt = -1 then zRs a (wd + 1).toInt else cLe (aR0 (aMd (aAd (zRs a (wd + 1).toInt) (zRs a (wd + 1).toInt 69 6) (zFn (zRs a (wd + 1).toInt 69 6) kd (wd + 1) (Int32.ofInt (zRp a (wd + 1).toInt))) L) (zRs a (wd + 1).toInt 69 6)) rt (zRs a (wd + 1).toInt 69 6)) (zRs a (wd + 1).toInt 72 rt.toNatClampNeg)) else a
theorem kMk_0 {kd wd rt : Int32} {L : Int64} (h : ¬ (a 69 6).toInt < 512) : kMk a kd wd L rt = a ∧ sMn a wd = -1 := ⟨if_neg h, if_neg h⟩
theorem kMk_1 {kd wd rt : Int32} {L : Int64} (h : (a 69 6).toInt < 512) (h1 : zRp a (wd + 1).toInt = -1) : kMk a kd wd L rt = zRs a (wd + 1).toInt ∧ sMn a wd = -1 := by
  unfold kMk sMn
  rw [if_pos h, if_pos h, if_pos h1, if_pos h1]
  exact ⟨rfl, rfl⟩
theorem kMk_2 {kd wd rt : Int32} {L : Int64} {b : Nat → Nat → Int32} (h : (a 69 6).toInt < 512) (e : b = zRs a (wd + 1).toInt) (h1 : pl.toInt = zRp a (wd + 1).toInt) (h2 : ¬ pl.toInt = -1) (hy : y = b 69 6) : kMk a kd wd L rt = cLe (aR0 (aMd (aAd b y (zFn y kd (wd + 1) pl) L) y) rt y) (b 72 rt.toNatClampNeg) ∧ sMn a wd = y := by
  unfold kMk sMn
  rw [if_pos h, if_pos h, ← h1, if_neg h2, if_neg h2, ← e, hy, Int32.ofInt_toInt]
  exact ⟨rfl, rfl⟩
theorem ad_72 {F : Nat → Int32} : aMd (aAd a y F L) y 72 k = a 72 k := by
  have e : aAd a y F L 72 k = a 72 k := by
    unfold aAd
    rw [xu_o (by omega), xu_o (by omega)]
    unfold zIw
    rw [if_neg (by omega), xu_o (by omega)]
    unfold zNw
    rw [if_neg (by omega), if_neg (by omega), if_neg (by omega)]
  unfold aMd
  split
  · rw [xu_o (by omega), e]
  · rw [xu_o (by omega), xu_o (by omega), e]
/-! the class: aT and counts behind what makes one -/
theorem aT_p4 {R : Nat → Option Nat} (hR : xB S R) : aT 84 (ma_put S 84 2 (.inl x)) = ma_u (aT 84 S) 87 2 x := by
  have e := (xC_n (W := 75) (c := 84) (k := 2) (x := x) (xC_o hR) ⟨by decide, Or.inl ⟨rfl, rfl⟩⟩).1
  funext c k
  show (if c = 87 then zfP 84 (mI (ma_put S 84 2 (.inl x))) k else aS 75 (ma_put S 84 2 (.inl x)) c k) = if c = 87 ∧ k = 2 then x else (if c = 87 then zfP 84 (mI S) k else aS 75 S c k)
  rw [e]
  by_cases w : c = 87
  · rw [if_pos w, if_pos w]
    by_cases w2 : k = 2
    · rw [if_pos ⟨w, w2⟩, w2]
      rfl
    · rw [if_neg (c := c = 87 ∧ k = 2) (fun q => w2 q.2)]
      show (if k < 3 then (if 84 = 84 ∧ k = 2 then x else mI S 84 k) else 0) = (if k < 3 then mI S 84 k else 0)
      rw [if_neg (c := 84 = 84 ∧ k = 2) (fun q => w2 q.2)]
  · rw [if_neg w, if_neg w, if_neg (c := c = 87 ∧ k = 2) (fun q => w q.1)]
theorem T_th4 {nu kd sz pl : Int32} {rr : Int64} (hN : 126 ≤ mN S) (hr : ∀ n c, mR S 70 n = some c → c < mN S) : aT 84 (zTh S nu kd sz rr pl) = aT 84 S := by
  refine T_of ?_ (fun k => ?_)
  · rw [mk_a (Or.inl rfl) hN hr]
    exact T_o7
  · rw [T_7]
    show (if k < 3 then mI S 84 k else 0) = (if k < 3 then mI (zTh S nu kd sz rr pl) 84 k else 0)
    rw [zTh_lo (by decide) hN]
theorem kC_th {nu kd sz pl : Int32} {rr : Int64} (hN : 126 ≤ mN S) (hr : ∀ n c, mR S 70 n = some c → c < mN S) : kC (zTh S nu kd sz rr pl) = kC S := by
  funext k
  unfold kC
  rw [zTh_R hN]
  unfold aTf
  by_cases h : k < 512
  · rw [if_pos h, if_pos h]
    cases e : mR S 70 k with
    | none => rfl
    | some t => exact zTh_ne (by have := hr k t e; omega)
  · rw [if_neg h, if_neg h]
theorem kC_s {q : Nat} (hn : n < 512) : kC (ma_put S 70 n (.inr (.inr (some q)))) = zKu (kC S) n (mI S q 6) := by
  funext m
  show (if m < 512 then (match (if 70 = 70 ∧ m = n then some q else mR S 70 m) with | some c => mI S c 6 | none => 0) else 0) = if m = n then mI S q 6 else aTf (mI S) (mR S 70) 6 m
  unfold aTf
  by_cases z : m = n
  · rw [if_pos z, if_pos (by omega), if_pos ⟨rfl, z⟩]
  · rw [if_neg z, if_neg (c := 70 = 70 ∧ m = n) (fun w => z w.2)]
    first | rfl | (cases mR S 70 m <;> rfl)
theorem xK_s {W : Nat} {R : Nat → Option Nat} {ab : Nat → Nat → Int32} {c : Nat} (h : xK W S ab R K) (hc : 126 ≤ c) (hn : n < 512) (hnum : mI S c 0 = Int32.ofNat n) : xK W (ma_put S 70 n (.inr (.inr (some c)))) (zNw ab n (mI S c) (mL S c 3)) (zRu R n (some c)) (zKu K n (mI S c 6)) := ⟨xC_s h.1 hc hn hnum, (kC_s hn).trans (by rw [h.2])⟩
theorem T_le {i : Int32} {j : Nat} (h : aS 75 S₉ = cLe (aR0 (aS 75 S) i y) (aS 75 S 72 j)) (h2 : ∀ k, zfP P (mI S₉) k = zfP P (mI S) k) (hC : cC (aS 75 S) [] K B) (hi : i.toNatClampNeg < 16) : aT P S₉ = cLe (aR0 (aT P S) i y) (aT P S 72 j) := by
  have v1 : cV (aR0 (aS 75 S) i y) [] B := V_0 (C_rt (y := y) (K₉ := fun n => K n + Int32.ofNat (cIs y n) - Int32.ofNat (cIs (aS 75 S 72 i.toNatClampNeg) n)) hC hi (fun _ _ => rfl))
  have v2 : cV (aR0 (aT P S) i y) [] B := V_0 (C_rt (y := y) (K₉ := fun n => K n + Int32.ofNat (cIs y n) - Int32.ofNat (cIs (aT P S 72 i.toNatClampNeg) n)) (C_o8 (O8_sy T_o8) hC) hi (fun _ _ => rfl))
  have e72 : aT P S 72 j = aS 75 S 72 j := aT_o (by decide)
  have en : aNm (aT P S) y = aNm (aS 75 S) y := by
    unfold aNm
    rw [aT_o (c := 126) (by decide)]
  have oo : ∀ c k, c ≠ 87 → aR0 (aS 75 S) i y c k = aR0 (aT P S) i y c k := fun c k hc => by
    unfold aR0
    rw [en]
    show (if c = 72 ∧ k = i.toNatClampNeg then _ else aS 75 S c k) = (if c = 72 ∧ k = i.toNatClampNeg then _ else aT P S c k)
    rw [aT_o hc]
  refine T_of (fun c k hc => ?_) (fun k => ?_)
  · rw [h, e72]
    by_cases hx : cXr c
    · rw [Le_x hx v1, Le_x hx v2]
      exact oo c k hc
    · unfold cXr at hx
      exact Le_o8 (fun c k _ _ _ h4 => oo c k h4) v1 c k (by omega) (by omega) (by omega) (by omega)
  · rw [Le_x (Or.inr (Or.inr (Or.inr rfl))) v2]
    unfold aR0
    rw [xu_o (by omega), T_7, h2]
end C9B

