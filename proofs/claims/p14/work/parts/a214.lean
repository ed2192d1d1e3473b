/-! from 95.q23 -/
/-! the moving collectors, the class (written by wip/tools/gen15.py) -/
theorem g_147_64_sl_p80_0 {X : Nat × (Nat → Int32)} {d w : Nat} {S : ma_S} {Q : Option ma_V ⊕ Nat → ma_S → Prop} (b : Int32) (n : Int32) (rt : Int32) (hd : 8 ≤ d) (hw : 232 ≤ w) (hS : zT S) (h : if n < 0 then (Q (.inr 2) (ma_bump S)) else (if (60 : Int32) < n then (Q (.inr 2) (ma_bump S)) else (if rt < 0 then (Q (.inr 2) (ma_bump S)) else (if (16 : Int32) ≤ rt then (Q (.inr 2) (ma_bump S)) else (if b = 0 then (ma_wp X (d - 1) (w - 28) 143 0 [(0, .inr (.inr (some 64))), (1, .inl (17 : Int32)), (2, .inl n), (3, .inr (.inl (0 : Int64))), (5, .inl rt)] [] S (zi (fun v2 S1 => zT S1 ∧ (Q (.inl (some (.inl v2))) S1)) (fun x S9 => Q (.inr x) S9))) else (ma_wp X (d - 1) (w - 28) 143 0 [(0, .inr (.inr (some 64))), (1, .inl (16 : Int32)), (2, .inl n), (3, .inr (.inl (-1 : Int64))), (5, .inl rt)] [] S (zi (fun v4 S3 => zT S3 ∧ (Q (.inl (some (.inl v4))) S3)) (fun x S9 => Q (.inr x) S9)))))))) : ma_wp X d w 147 0 [(0, .inr (.inr (some 64))), (1, .inl b), (2, .inl n), (3, .inl rt)] [] S Q := by
  refine zw_push hm_147 dX11_row_0 (v := .inl n) rfl ?_
  refine zw_if0 hm_147 dX11_row_1 (t := 17) rfl zc0_lt ?_ ?_
  · intro hc
    rw [if_pos hc] at h
    exact zw_thr hm_147 dX11_row_17 dX11_row_20 dX11_row_21 dX11_row_24 x_11_79_81 n_11_79 (by omega) (by show 0 + 81 ≤ w; omega) h
  · intro hc
    rw [if_neg hc] at h
    refine zw_push hm_147 dX11_row_4 (v := .inl n) rfl ?_
    refine zw_push hm_147 dX11_row_5 (v := .inl (60 : Int32)) rfl ?_
    refine zw_if2 hm_147 dX11_row_7 (t := 17) rfl zc2_gt ?_ ?_
    · intro hc
      rw [if_pos hc] at h
      exact zw_thr hm_147 dX11_row_17 dX11_row_20 dX11_row_21 dX11_row_24 x_11_79_81 n_11_79 (by omega) (by show 0 + 81 ≤ w; omega) h
    · intro hc
      rw [if_neg hc] at h
      refine zw_push hm_147 dX11_row_10 (v := .inl rt) rfl ?_
      refine zw_cs hm_147 dX11_row_11 pn_11_109 sl_11_109 hm_142 [.inl rt] [] rfl ⟨by omega, by omega⟩ rfl ?_
      show ma_wp X (d - 1) (w - 20) 142 0 [(0, .inl rt)] [] S _
      refine zw_push hm_142 dX11_isSlot_0 (v := .inl rt) rfl ?_
      refine zw_if0 hm_142 dX11_isSlot_1 (t := 14) rfl zc0_lt ?_ ?_
      · intro hc
        rw [if_pos hc] at h
        refine zw_push hm_142 dX11_isSlot_14 (v := .inl (0 : Int32)) rfl ?_
        refine zw_bret hm_142 dX11_isSlot_15 (by decide) ?_
        show ma_wp X d w 147 14 [(0, .inr (.inr (some 64))), (1, .inl b), (2, .inl n), (3, .inl rt)] [.inl (0 : Int32)] S _
        refine zw_if0 hm_147 dX11_row_14 (t := 25) rfl zc0_ne (fun hc => absurd hc (by decide)) (fun _ => ?_)
        exact zw_thr hm_147 dX11_row_17 dX11_row_20 dX11_row_21 dX11_row_24 x_11_79_81 n_11_79 (by omega) (by show 0 + 81 ≤ w; omega) h
      · intro hc
        rw [if_neg hc] at h
        refine zw_push hm_142 dX11_isSlot_4 (v := .inl rt) rfl ?_
        refine zw_push hm_142 dX11_isSlot_5 (v := .inl (16 : Int32)) rfl ?_
        refine zw_if2 hm_142 dX11_isSlot_7 (t := 14) rfl zc2_ge ?_ ?_
        · intro hc
          rw [if_pos hc] at h
          refine zw_push hm_142 dX11_isSlot_14 (v := .inl (0 : Int32)) rfl ?_
          refine zw_bret hm_142 dX11_isSlot_15 (by decide) ?_
          show ma_wp X d w 147 14 [(0, .inr (.inr (some 64))), (1, .inl b), (2, .inl n), (3, .inl rt)] [.inl (0 : Int32)] S _
          refine zw_if0 hm_147 dX11_row_14 (t := 25) rfl zc0_ne (fun hc => absurd hc (by decide)) (fun _ => ?_)
          exact zw_thr hm_147 dX11_row_17 dX11_row_20 dX11_row_21 dX11_row_24 x_11_79_81 n_11_79 (by omega) (by show 0 + 81 ≤ w; omega) h
        · intro hc
          rw [if_neg hc] at h
          refine zw_push hm_142 dX11_isSlot_10 (v := .inl (1 : Int32)) rfl ?_
          refine zw_goto hm_142 dX11_isSlot_11 (t := 15) rfl ?_
          refine zw_bret hm_142 dX11_isSlot_15 (by decide) ?_
          show ma_wp X d w 147 14 [(0, .inr (.inr (some 64))), (1, .inl b), (2, .inl n), (3, .inl rt)] [.inl (1 : Int32)] S _
          refine zw_if0 hm_147 dX11_row_14 (t := 25) rfl zc0_ne (fun _ => ?_) (fun hc => absurd (by decide) hc)
          refine zw_push hm_147 dX11_row_25 (v := .inl b) rfl ?_
          refine zw_if0 hm_147 dX11_row_26 (t := 43) rfl zc0_eq ?_ ?_
          · intro hc
            rw [if_pos hc] at h
            refine zw_push hm_147 dX11_row_43 (v := .inr (.inr (some 64))) rfl ?_
            refine zw_push hm_147 dX11_row_44 (v := .inl (17 : Int32)) rfl ?_
            refine zw_push hm_147 dX11_row_46 (v := .inl n) rfl ?_
            refine zw_push hm_147 dX11_row_47 (v := .inr (.inl (0 : Int64))) rfl ?_
            refine zw_push hm_147 dX11_row_48 (v := .inl rt) rfl ?_
            refine zw_cv hm_147 dX11_row_49 v_11_113_11 hm_143 [.inl rt, .inr (.inl (0 : Int64)), .inl n, .inl (17 : Int32)] [] rfl (zT_rt hS s_64 rfl) ⟨by omega, by omega⟩ rfl (zw_mono h (zi_go ?_ ?_))
            · intro v2 S1 hv
              obtain ⟨hS1, h⟩ := hv
              exact zw_iret hm_147 dX11_row_52 h
            · intro x S9 hx
              exact ⟨by decide, hx⟩
          · intro hc
            rw [if_neg hc] at h
            refine zw_push hm_147 dX11_row_29 (v := .inr (.inr (some 64))) rfl ?_
            refine zw_push hm_147 dX11_row_30 (v := .inl (16 : Int32)) rfl ?_
            refine zw_push hm_147 dX11_row_32 (v := .inl n) rfl ?_
            refine zw_l2 hm_147 dX11_row_33 l2_11_117 ?_
            refine zw_push hm_147 dX11_row_36 (v := .inl rt) rfl ?_
            refine zw_cv hm_147 dX11_row_37 v_11_113_11 hm_143 [.inl rt, .inr (.inl (-1 : Int64)), .inl n, .inl (16 : Int32)] [] rfl (zT_rt hS s_64 rfl) ⟨by omega, by omega⟩ rfl (zw_mono h (zi_go ?_ ?_))
            · intro v4 S3 hv
              obtain ⟨hS3, h⟩ := hv
              refine zw_goto hm_147 dX11_row_40 (t := 52) rfl ?_
              exact zw_iret hm_147 dX11_row_52 h
            · intro x S9 hx
              exact ⟨by decide, hx⟩
theorem sp_147_64_sl_p80 {X : Nat × (Nat → Int32)} {d w : Nat} {f : Nat → Nat → Int32} {r : Nat → Nat → Option Nat} {C Z N : Nat} {Q : Option ma_V ⊕ Nat → ma_S → Prop} {ab : Nat→Nat→Int32} {S : ma_S} (b : Int32) (n : Int32) (rt : Int32) (hd : 8 ≤ d) (hw : 232 ≤ w) (hI : zB f r C Z N S) (hr : r 64 11 = some 80) (hpre0 : 0 ≤ b.toInt) (hpre1 : b.toInt ≤ 1) (hpre2 : xB S (mR S 70)) (hpre3 : aL S = ab) (hpre4 : qI ab) (K : ∀ v S₉ r₉ C₉ Z₉ N₉, (∀ c k, c < 126 → r₉ c k = r c k) → C₉ ≤ C + 1 → Z₉ ≤ Z + 9 → (N ≤ N₉) → zB f r₉ C₉ Z₉ N₉ S₉ → (True) → (xB S₉ (mR S₉ 70)) → ((0 ≤ n.toInt ∧ n.toInt ≤ 60 ∧ 0 ≤ rt.toInt ∧ rt.toInt ≤ 15) ∧ aL S₉ = (if b = 0 then lMk ab 17 n 0 rt else lMk ab 16 n (-1) rt) ∧ v = lMn ab n) → Q (.inl (some (.inl v))) S₉) (KX : ∀ x S₉, (x = 2) → zB f r C Z N S₉ → (xB S₉ (mR S₉ 70)) → (aL S₉ = ab) → (x = 2 ∧ ¬ (0 ≤ n.toInt ∧ n.toInt ≤ 60 ∧ 0 ≤ rt.toInt ∧ rt.toInt ≤ 15)) → Q (.inr x) (ma_bump S₉)) : ma_wp X d w 147 0 [(0, .inr (.inr (some 64))), (1, .inl b), (2, .inl n), (3, .inl rt)] [] S Q := by
  refine g_147_64_sl_p80_0 b n rt (by omega) (by omega) (zG_T hI) ?_
  have b1 := i_bd n
  have li2 : (0 : Int32).toInt = 0 := rfl
  refine zd (fun h3 => ?_) (fun h3 => ?_)
  · skip
    have g4 := i_lt h3
    exact KX 2 _ (by decide) hI (show xB S (mR S 70) from by first | (exact xB_x (xC_o (W := 75) hpre2).2)) (show aL S = ab from by first | (exact hpre3)) (show 2 = 2 ∧ ¬ (0 ≤ n.toInt ∧ n.toInt ≤ 60 ∧ 0 ≤ rt.toInt ∧ rt.toInt ≤ 15) from by first | (exact ⟨rfl, by omega⟩))
  · skip
    have g5 := i_nlt h3
    have li6 : (60 : Int32).toInt = 60 := rfl
    refine zd (fun h7 => ?_) (fun h7 => ?_)
    · skip
      have g8 := i_lt h7
      exact KX 2 _ (by decide) hI (show xB S (mR S 70) from by first | (exact xB_x (xC_o (W := 75) hpre2).2)) (show aL S = ab from by first | (exact hpre3)) (show 2 = 2 ∧ ¬ (0 ≤ n.toInt ∧ n.toInt ≤ 60 ∧ 0 ≤ rt.toInt ∧ rt.toInt ≤ 15) from by first | (exact ⟨rfl, by omega⟩))
    · skip
      have g9 := i_nlt h7
      have b10 := i_bd rt
      refine zd (fun h11 => ?_) (fun h11 => ?_)
      · skip
        have g12 := i_lt h11
        exact KX 2 _ (by decide) hI (show xB S (mR S 70) from by first | (exact xB_x (xC_o (W := 75) hpre2).2)) (show aL S = ab from by first | (exact hpre3)) (show 2 = 2 ∧ ¬ (0 ≤ n.toInt ∧ n.toInt ≤ 60 ∧ 0 ≤ rt.toInt ∧ rt.toInt ≤ 15) from by first | (exact ⟨rfl, by omega⟩))
      · skip
        have g13 := i_nlt h11
        have li14 : (16 : Int32).toInt = 16 := rfl
        refine zd (fun h15 => ?_) (fun h15 => ?_)
        · skip
          have g16 := i_le h15
          exact KX 2 _ (by decide) hI (show xB S (mR S 70) from by first | (exact xB_x (xC_o (W := 75) hpre2).2)) (show aL S = ab from by first | (exact hpre3)) (show 2 = 2 ∧ ¬ (0 ≤ n.toInt ∧ n.toInt ≤ 60 ∧ 0 ≤ rt.toInt ∧ rt.toInt ≤ 15) from by first | (exact ⟨rfl, by omega⟩))
        · skip
          have g17 := i_nle h15
          have b18 := i_bd b
          refine zd (fun h19 => ?_) (fun h19 => ?_)
          · skip
            have g20 := i_eq h19
            have li21 : (17 : Int32).toInt = 17 := rfl
            refine sp_143_64_sl_p80 (ab := (aL S)) ((17 : Int32)) (n) ((0 : Int64)) (rt) (by omega) (by omega) hI hr (by omega) (by omega) (by omega) (by omega) (show xB S (mR S 70) from by first | (exact xB_x (xC_o (W := 75) hpre2).2)) (show aL S = (aL S) from by first | (exact rfl)) (show qI (aL S) from by first | (rw [hpre3]; exact hpre4) | (exact hpre4)) (fun v2 S1 r₉ C₉ Z₉ N₉ sl1 sl2 sl3 sl4 hI_S1 hp_v2 rp0_S1 rp1_S1 => zi_n ⟨zG_T hI_S1, ?_⟩)
            have rp0_S1 : xB S1 (mR S1 70) := rp0_S1
            have rp1_S1 : aL S1 = lMk (aL S) (17 : Int32) n (0 : Int64) rt ∧ v2 = lMn (aL S) n := rp1_S1
            have b22 := i_bd v2
            exact K (v2) _ _ _ _ _ sl1 sl2 sl3 sl4 hI_S1 trivial (show xB S1 (mR S1 70) from by first | (exact xB_x (xC_o (W := 75) rp0_S1).2)) (show (0 ≤ n.toInt ∧ n.toInt ≤ 60 ∧ 0 ≤ rt.toInt ∧ rt.toInt ≤ 15) ∧ aL S1 = (if b = 0 then lMk ab 17 n 0 rt else lMk ab 16 n (-1) rt) ∧ v2 = lMn ab n from by first | (exfalso; omega) | (have q := rp1_S1; rw [hpre3] at q; refine ⟨⟨by omega, by omega, by omega, by omega⟩, ?_⟩; rw [if_pos (by assumption)]; exact q) | (have q := rp1_S1; rw [hpre3] at q; refine ⟨⟨by omega, by omega, by omega, by omega⟩, ?_⟩; rw [if_neg (by assumption)]; exact q))
          · skip
            have g23 := i_ne h19
            refine sp_143_64_sl_p80 (ab := (aL S)) ((16 : Int32)) (n) ((-1 : Int64)) (rt) (by omega) (by omega) hI hr (by omega) (by omega) (by omega) (by omega) (show xB S (mR S 70) from by first | (exact xB_x (xC_o (W := 75) hpre2).2)) (show aL S = (aL S) from by first | (exact rfl)) (show qI (aL S) from by first | (rw [hpre3]; exact hpre4) | (exact hpre4)) (fun v4 S3 r₉ C₉ Z₉ N₉ sl1 sl2 sl3 sl4 hI_S3 hp_v4 rp0_S3 rp1_S3 => zi_n ⟨zG_T hI_S3, ?_⟩)
            have rp0_S3 : xB S3 (mR S3 70) := rp0_S3
            have rp1_S3 : aL S3 = lMk (aL S) (16 : Int32) n (-1 : Int64) rt ∧ v4 = lMn (aL S) n := rp1_S3
            have b24 := i_bd v4
            exact K (v4) _ _ _ _ _ sl1 sl2 sl3 sl4 hI_S3 trivial (show xB S3 (mR S3 70) from by first | (exact xB_x (xC_o (W := 75) rp0_S3).2)) (show (0 ≤ n.toInt ∧ n.toInt ≤ 60 ∧ 0 ≤ rt.toInt ∧ rt.toInt ≤ 15) ∧ aL S3 = (if b = 0 then lMk ab 17 n 0 rt else lMk ab 16 n (-1) rt) ∧ v4 = lMn ab n from by first | (exfalso; omega) | (have q := rp1_S3; rw [hpre3] at q; refine ⟨⟨by omega, by omega, by omega, by omega⟩, ?_⟩; rw [if_pos (by assumption)]; exact q) | (have q := rp1_S3; rw [hpre3] at q; refine ⟨⟨by omega, by omega, by omega, by omega⟩, ?_⟩; rw [if_neg (by assumption)]; exact q))
theorem g_264_81_s_0 {X : Nat × (Nat → Int32)} {d w : Nat} {S : ma_S} {Q : Option ma_V ⊕ Nat → ma_S → Prop}  (hd : 3 ≤ d) (hw : 72 ≤ w) (hS : zT S) (h : ma_wp X (d - 1) (w - 20) 116 0 [(0, .inr (.inr (some 75)))] [] S (zv (fun S1 => zT S1 ∧ (ma_wp X (d - 1) (w - 23) 83 0 [(0, .inr (.inr (some 69))), (1, .inr (.inr (some 75)))] [] S1 (zv (fun S3 => zT S3 ∧ (ma_wp X (d - 1) (w - 24) 86 0 [(0, .inr (.inr (some 69))), (1, .inr (.inr (some 75)))] [] S3 (zi (fun v6 S5 => zT S5 ∧ (Q (.inl (some (.inl v6))) S5)) (fun x S9 => Q (.inr x) S9)))) (fun x S9 => Q (.inr x) S9)))) (fun x S9 => Q (.inr x) S9))) : ma_wp X d w 264 0 [(0, .inr (.inr (some 81)))] [] S Q := by
  refine zw_push hm_264 dX1_removeUnreached_0 (v := .inr (.inr (some 81))) rfl ?_
  refine zw_gf hm_264 dX1_removeUnreached_1 (v := .inr (.inr (some 75))) (zT_is hS s_81) (zT_t hS s_81) rfl f_13_15_3 (zT_f hS r_81_1) ?_
  refine zw_cv hm_264 dX1_removeUnreached_4 v_13_19_10 hm_116 [] [] rfl (zT_rt hS s_75 rfl) ⟨by omega, by omega⟩ rfl (zw_mono h (zv_go ?_ ?_))
  · intro S1 hv
    obtain ⟨hS1, h⟩ := hv
    refine zw_push hm_264 dX1_removeUnreached_7 (v := .inr (.inr (some 81))) rfl ?_
    refine zw_gf hm_264 dX1_removeUnreached_8 (v := .inr (.inr (some 69))) (zT_is hS1 s_81) (zT_t hS1 s_81) rfl f_13_9_3 (zT_f hS1 r_81_0) ?_
    refine zw_push hm_264 dX1_removeUnreached_11 (v := .inr (.inr (some 81))) rfl ?_
    refine zw_gf hm_264 dX1_removeUnreached_12 (v := .inr (.inr (some 75))) (zT_is hS1 s_81) (zT_t hS1 s_81) rfl f_13_15_3 (zT_f hS1 r_81_1) ?_
    refine zw_cv hm_264 dX1_removeUnreached_15 v_13_24_7 hm_83 [.inr (.inr (some 75))] [] rfl (zT_rt hS1 s_69 rfl) ⟨by omega, by omega⟩ rfl (zw_mono h (zv_go ?_ ?_))
    · intro S3 hv
      obtain ⟨hS3, h⟩ := hv
      refine zw_push hm_264 dX1_removeUnreached_18 (v := .inr (.inr (some 81))) rfl ?_
      refine zw_gf hm_264 dX1_removeUnreached_19 (v := .inr (.inr (some 69))) (zT_is hS3 s_81) (zT_t hS3 s_81) rfl f_13_9_3 (zT_f hS3 r_81_0) ?_
      refine zw_push hm_264 dX1_removeUnreached_22 (v := .inr (.inr (some 81))) rfl ?_
      refine zw_gf hm_264 dX1_removeUnreached_23 (v := .inr (.inr (some 75))) (zT_is hS3 s_81) (zT_t hS3 s_81) rfl f_13_15_3 (zT_f hS3 r_81_1) ?_
      refine zw_cv hm_264 dX1_removeUnreached_26 v_13_30_7 hm_86 [.inr (.inr (some 75))] [] rfl (zT_rt hS3 s_69 rfl) ⟨by omega, by omega⟩ rfl (zw_mono h (zi_go ?_ ?_))
      · intro v6 S5 hv
        obtain ⟨hS5, h⟩ := hv
        exact zw_iret hm_264 dX1_removeUnreached_29 h
      · intro x S9 hx
        exact ⟨by decide, hx⟩
    · intro x S9 hx
      exact ⟨by decide, hx⟩
  · intro x S9 hx
    exact ⟨by decide, hx⟩
theorem sp_264_81_s {X : Nat × (Nat → Int32)} {d w : Nat} {f : Nat → Nat → Int32} {r : Nat → Nat → Option Nat} {C Z N : Nat} {Q : Option ma_V ⊕ Nat → ma_S → Prop} {ab : Nat→Nat→Int32} {S : ma_S}  (hd : 3 ≤ d) (hw : 72 ≤ w) (hI : zI f r C Z N S) (hpre0 : xB S (mR S 70)) (hpre1 : aS 75 S = ab) (K : ∀ v S₉, zI f r C Z N S₉ → (True) → (xB S₉ (mR S₉ 70)) → (aS 75 S₉ = aSw ab ∧ v = aSv ab) → Q (.inl (some (.inl v))) S₉) : ma_wp X d w 264 0 [(0, .inr (.inr (some 81)))] [] S Q := by
  refine g_264_81_s_0  (by omega) (by omega) (zG_T hI) ?_
  refine sp_116_75_s (ab := (aS 75 S)) (R := (mR S 70)) (a8 := (aS 88 S)) (by omega) (by omega) hI (show xB S (mR S 70) from by first | (exact xB_x (xC_o (W := 75) hpre0).2)) (show aS 75 S = (aS 75 S) from by first | (exact rfl)) (show aS 88 S = (aS 88 S) from by first | (exact rfl)) (fun S1 hI_S1 rp0_S1 rp1_S1 rp2_S1 => zv_n ⟨zG_T hI_S1, ?_⟩)
  have rp0_S1 : xB S1 (mR S 70) := rp0_S1
  have rp1_S1 : aS 75 S1 = aSp 512 (aRo (aWh (aS 75 S) 0) 0) := rp1_S1
  have rp2_S1 : aS 88 S1 = (aS 88 S) := rp2_S1
  refine sp_83_69_75_s (ab := (aS 75 S1)) (R := (mR S1 70)) (by omega) (by omega) hI_S1 (show xB S1 (mR S1 70) from by first | (exact xB_x (xC_o (W := 75) rp0_S1).2)) (show aS 75 S1 = (aS 75 S1) from by first | (exact rfl)) (fun S3 hI_S3 rp0_S3 rp1_S3 => zv_n ⟨zG_T hI_S3, ?_⟩)
  have rp0_S3 : xB S3 (mR S1 70) := rp0_S3
  have rp1_S3 : aS 75 S3 = aGw (aS 75 S1) 0 := rp1_S3
  refine sp_86_69_75_s (ab := (aS 75 S3)) (by omega) (by omega) hI_S3 (show xB S3 (mR S3 70) from by first | (exact xB_x (xC_o (W := 75) rp0_S3).2)) (show aS 75 S3 = (aS 75 S3) from by first | (exact rfl)) (fun v6 S5 hI_S5 hp_v6 rp0_S5 rp1_S5 => zi_n ⟨zG_T hI_S5, ?_⟩)
  have rp0_S5 : xB S5 (mR S5 70) := rp0_S5
  have rp1_S5 : aS 75 S5 = aMv (aS 75 S3) 0 ∧ v6 = aMv (aS 75 S3) 0 69 11 - (aS 75 S3) 69 11 := rp1_S5
  have b1 := i_bd v6
  exact K (v6) _ hI_S5 trivial (show xB S5 (mR S5 70) from by first | (exact xB_x (xC_o (W := 75) rp0_S5).2)) (show aS 75 S5 = aSw ab ∧ v6 = aSv ab from by first | (have z := rp1_S5; rw [rp1_S3, rp1_S1, hpre1] at z; exact z))
theorem g_124_75_s_0 {X : Nat × (Nat → Int32)} {d w : Nat} {S : ma_S} {Q : Option ma_V ⊕ Nat → ma_S → Prop} (i : Int32) (hd : 1 ≤ d) (hw : 21 ≤ w) (hS : zT S) (h : if i < 0 then (Q (.inl (some (.inr (.inr none)))) S) else (if (mI S 75 4) ≤ i then (Q (.inl (some (.inr (.inr none)))) S) else ((0 ≤ i ∧ i.toNatClampNeg < 512) ∧ (if (mI S 76 i.toNatClampNeg) < 0 then (Q (.inl (some (.inr (.inr none)))) S) else (if (512 : Int32) ≤ (mI S 76 i.toNatClampNeg) then (Q (.inl (some (.inr (.inr none)))) S) else ((0 ≤ (mI S 76 i.toNatClampNeg) ∧ (mI S 76 i.toNatClampNeg).toNatClampNeg < 512) ∧ (Q (.inl (some (.inr (.inr (mR S 70 (mI S 76 i.toNatClampNeg).toNatClampNeg))))) S))))))) : ma_wp X d w 124 0 [(0, .inr (.inr (some 75))), (1, .inl i)] [] S Q := by
  refine zw_push hm_124 dX10_thingInQueue_0 (v := .inl i) rfl ?_
  refine zw_if0 hm_124 dX10_thingInQueue_1 (t := 28) rfl zc0_lt ?_ ?_
  · intro hc
    rw [if_pos hc] at h
    refine zw_push hm_124 dX10_thingInQueue_28 (v := .inr (.inr none)) rfl ?_
    exact zw_aret hm_124 dX10_thingInQueue_29 h
  · intro hc
    rw [if_neg hc] at h
    refine zw_push hm_124 dX10_thingInQueue_4 (v := .inl i) rfl ?_
    refine zw_push hm_124 dX10_thingInQueue_5 (v := .inr (.inr (some 75))) rfl ?_
    refine zw_gf hm_124 dX10_thingInQueue_6 (v := .inl (mI S 75 4)) (zT_is hS s_75) (zT_t hS s_75) rfl f_10_32_10 rfl ?_
    refine zw_if2 hm_124 dX10_thingInQueue_9 (t := 28) rfl zc2_ge ?_ ?_
    · intro hc
      rw [if_pos hc] at h
      refine zw_push hm_124 dX10_thingInQueue_28 (v := .inr (.inr none)) rfl ?_
      exact zw_aret hm_124 dX10_thingInQueue_29 h
    · intro hc
      rw [if_neg hc] at h
      refine zw_push hm_124 dX10_thingInQueue_12 (v := .inr (.inr (some 75))) rfl ?_
      refine zw_gf hm_124 dX10_thingInQueue_13 (v := .inr (.inr (some 69))) (zT_is hS s_75) (zT_t hS s_75) rfl f_10_18_10 (zT_f hS r_75_0) ?_
      refine zw_push hm_124 dX10_thingInQueue_16 (v := .inr (.inr (some 75))) rfl ?_
      refine zw_gf hm_124 dX10_thingInQueue_17 (v := .inr (.inr (some 76))) (zT_is hS s_75) (zT_t hS s_75) rfl f_10_9_10 (zT_f hS r_75_1) ?_
      refine zw_push hm_124 dX10_thingInQueue_20 (v := .inl i) rfl ?_
      obtain ⟨hg, h⟩ := h
      refine zw_ia hm_124 dX10_thingInQueue_21 (zT_is hS s_76) (zT_h hS s_76) rfl hg ?_
      show ma_wp X d w 124 22 [(0, .inr (.inr (some 75))), (1, .inl i)] [.inl (mI S 76 i.toNatClampNeg), .inr (.inr (some 69))] S _
      refine zw_cv hm_124 dX10_thingInQueue_22 v_10_66_7 hm_81 [.inl (mI S 76 i.toNatClampNeg)] [] rfl (zT_rt hS s_69 rfl) ⟨by omega, by omega⟩ rfl ?_
      show ma_wp X (d - 1) (w - 21) 81 0 [(0, .inr (.inr (some 69))), (1, .inl (mI S 76 i.toNatClampNeg))] [] S _
      refine zw_push hm_81 dX7_thingAt_0 (v := .inl (mI S 76 i.toNatClampNeg)) rfl ?_
      refine zw_if0 hm_81 dX7_thingAt_1 (t := 20) rfl zc0_lt ?_ ?_
      · intro hc
        rw [if_pos hc] at h
        refine zw_push hm_81 dX7_thingAt_20 (v := .inr (.inr none)) rfl ?_
        refine zw_aret hm_81 dX7_thingAt_21 ?_
        show ma_wp X d w 124 25 [(0, .inr (.inr (some 75))), (1, .inl i)] [.inr (.inr none)] S _
        refine zw_goto hm_124 dX10_thingInQueue_25 (t := 29) rfl ?_
        exact zw_aret hm_124 dX10_thingInQueue_29 h
      · intro hc
        rw [if_neg hc] at h
        refine zw_push hm_81 dX7_thingAt_4 (v := .inl (mI S 76 i.toNatClampNeg)) rfl ?_
        refine zw_push hm_81 dX7_thingAt_5 (v := .inl (512 : Int32)) rfl ?_
        refine zw_if2 hm_81 dX7_thingAt_8 (t := 20) rfl zc2_ge ?_ ?_
        · intro hc
          rw [if_pos hc] at h
          refine zw_push hm_81 dX7_thingAt_20 (v := .inr (.inr none)) rfl ?_
          refine zw_aret hm_81 dX7_thingAt_21 ?_
          show ma_wp X d w 124 25 [(0, .inr (.inr (some 75))), (1, .inl i)] [.inr (.inr none)] S _
          refine zw_goto hm_124 dX10_thingInQueue_25 (t := 29) rfl ?_
          exact zw_aret hm_124 dX10_thingInQueue_29 h
        · intro hc
          rw [if_neg hc] at h
          refine zw_push hm_81 dX7_thingAt_11 (v := .inr (.inr (some 69))) rfl ?_
          refine zw_gf hm_81 dX7_thingAt_12 (v := .inr (.inr (some 70))) (zT_is hS s_69) (zT_t hS s_69) rfl f_7_11_7 (zT_f hS r_69_0) ?_
          refine zw_push hm_81 dX7_thingAt_15 (v := .inl (mI S 76 i.toNatClampNeg)) rfl ?_
          obtain ⟨hg, h⟩ := h
          refine zw_aa hm_81 dX7_thingAt_16 (zT_is hS s_70) (zT_h hS s_70) rfl rfl hg rfl ?_
          show ma_wp X (d - 1) (w - 21) 81 17 [(0, .inr (.inr (some 69))), (1, .inl (mI S 76 i.toNatClampNeg))] [.inr (.inr (mR S 70 (mI S 76 i.toNatClampNeg).toNatClampNeg))] S _
          refine zw_goto hm_81 dX7_thingAt_17 (t := 21) rfl ?_
          refine zw_aret hm_81 dX7_thingAt_21 ?_
          show ma_wp X d w 124 25 [(0, .inr (.inr (some 75))), (1, .inl i)] [.inr (.inr (mR S 70 (mI S 76 i.toNatClampNeg).toNatClampNeg))] S _
          refine zw_goto hm_124 dX10_thingInQueue_25 (t := 29) rfl ?_
          exact zw_aret hm_124 dX10_thingInQueue_29 h
theorem sp_124_75_s {X : Nat × (Nat → Int32)} {d w : Nat} {f : Nat → Nat → Int32} {r : Nat → Nat → Option Nat} {C Z N : Nat} {Q : Option ma_V ⊕ Nat → ma_S → Prop} {S : ma_S} (i : Int32) (hd : 1 ≤ d) (hw : 21 ≤ w) (hI : zI f r C Z N S) (hpre0 : xB S (mR S 70)) (hpre1 : 0 ≤ i.toInt) (hpre2 : i.toInt < (mI S 75 4).toInt) (K : ∀ v S₉, S₉ = S → (∀ c, v = some c → 126 ≤ c ∧ c < N) → (v = zTa (mR S 70) (mI S 76 i.toNatClampNeg)) → Q (.inl (some (.inr (.inr v)))) S₉) : ma_wp X d w 124 0 [(0, .inr (.inr (some 75))), (1, .inl i)] [] S Q := by
  refine g_124_75_s_0 i (by omega) (by omega) (zG_T hI) ?_
  have b1 := i_bd i
  have li2 : (0 : Int32).toInt = 0 := rfl
  refine zd (fun h3 => ?_) (fun h3 => ?_)
  · skip
    have g4 := i_lt h3
    exact K (none) _ rfl (fun _ z => by cases z) (show none = zTa (mR S 70) (mI S 76 i.toNatClampNeg) from by first | (exact ta_no (by omega)) | (exfalso; omega))
  · skip
    have g5 := i_nlt h3
    have f6 := zG_s hI (0) (512) (c := 75) (k := 4) (by decide)
    refine zd (fun h7 => ?_) (fun h7 => ?_)
    · skip
      have g8 := i_le h7
      exact K (none) _ rfl (fun _ z => by cases z) (show none = zTa (mR S 70) (mI S 76 i.toNatClampNeg) from by first | (exact ta_no (by omega)) | (exfalso; omega))
    · skip
      have g9 := i_nle h7
      refine ⟨i_ix (by omega) (by omega), ?_⟩
      have b10 := i_bd (mI S 76 i.toNatClampNeg)
      refine zd (fun h11 => ?_) (fun h11 => ?_)
      · skip
        have g12 := i_lt h11
        exact K (none) _ rfl (fun _ z => by cases z) (show none = zTa (mR S 70) (mI S 76 i.toNatClampNeg) from by first | (exact ta_no (by omega)) | (exfalso; omega))
      · skip
        have g13 := i_nlt h11
        have li14 : (512 : Int32).toInt = 512 := rfl
        refine zd (fun h15 => ?_) (fun h15 => ?_)
        · skip
          have g16 := i_le h15
          exact K (none) _ rfl (fun _ z => by cases z) (show none = zTa (mR S 70) (mI S 76 i.toNatClampNeg) from by first | (exact ta_no (by omega)) | (exfalso; omega))
        · skip
          have g17 := i_nle h15
          refine ⟨i_ix (by omega) (by omega), ?_⟩
          exact K ((mR S 70 (mI S 76 i.toNatClampNeg).toNatClampNeg)) _ rfl (fun _ z => zG_70 hI (c := 70) (by decide) z) (show (mR S 70 (mI S 76 i.toNatClampNeg).toNatClampNeg) = zTa (mR S 70) (mI S 76 i.toNatClampNeg) from by first | (exact ta_rd hpre0 (by omega) (by omega)))

/-! from 95.q24 -/
/-! the moving collectors, the class (written by wip/tools/gen15.py) -/
theorem g_33_81_sv_0 {X : Nat × (Nat → Int32)} {d w : Nat} {S : ma_S} {Q : Option ma_V ⊕ Nat → ma_S → Prop}  (hd : 4 ≤ d) (hw : 92 ≤ w) (hS : zT S) (h : ma_wp X (d - 1) (w - 20) 264 0 [(0, .inr (.inr (some 81)))] [] S (zi (fun v2 S1 => zT S1 ∧ (ma_wp X d w 33 28 [(0, .inr (.inr (some 81))), (1, .inl v2), (2, .inl (0 : Int32))] [] (ma_put (ma_put S1 81 3 (.inl ((mI S1 81 2) - (mI S1 81 3)))) 81 4 (.inl ((mI S1 81 2) - (mI S1 81 3)))) Q)) (fun _ _ => False))) : ma_wp X d w 33 0 [(0, .inr (.inr (some 81)))] [] S Q := by
  refine zw_push hm_33 dX3_cleanAll_0 (v := .inr (.inr (some 81))) rfl ?_
  refine zw_cv hm_33 dX3_cleanAll_1 v_3_37_3 hm_264 [] [] rfl (zT_rt hS s_81 rfl) ⟨by omega, by omega⟩ rfl (zw_mono h (zi_go ?_ ?_))
  · intro v2 S1 hv
    obtain ⟨hS1, h⟩ := hv
    refine zw_sto hm_33 dX3_cleanAll_4 [(1, .inl v2), (0, .inr (.inr (some 81)))] rfl rfl rfl ?_
    refine zw_push hm_33 dX3_cleanAll_5 (v := .inr (.inr (some 81))) rfl ?_
    refine zw_push hm_33 dX3_cleanAll_6 (v := .inr (.inr (some 81))) rfl ?_
    refine zw_gf hm_33 dX3_cleanAll_7 (v := .inl (mI S1 81 2)) (zT_is hS1 s_81) (zT_t hS1 s_81) rfl f_3_9_3 rfl ?_
    refine zw_push hm_33 dX3_cleanAll_10 (v := .inr (.inr (some 81))) rfl ?_
    refine zw_gf hm_33 dX3_cleanAll_11 (v := .inl (mI S1 81 3)) (zT_is hS1 s_81) (zT_t hS1 s_81) rfl f_3_15_3 rfl ?_
    refine zw_stk hm_33 dX3_cleanAll_14 (st₉ := [.inl ((mI S1 81 2) - (mI S1 81 3)), .inr (.inr (some 81))]) rfl rfl ?_
    refine zw_pf hm_33 dX3_cleanAll_15 (zT_is hS1 s_81) (zT_t hS1 s_81) p_3_15_3 zk_int ?_
    refine zw_push hm_33 dX3_cleanAll_18 (v := .inr (.inr (some 81))) rfl ?_
    refine zw_push hm_33 dX3_cleanAll_19 (v := .inr (.inr (some 81))) rfl ?_
    refine zw_gf hm_33 dX3_cleanAll_20 (v := .inl ((mI S1 81 2) - (mI S1 81 3))) (zT_is (zT_pi hS1) s_81) (zT_t (zT_pi hS1) s_81) rfl f_3_15_3 rfl ?_
    refine zw_pf hm_33 dX3_cleanAll_23 (zT_is (zT_pi hS1) s_81) (zT_t (zT_pi hS1) s_81) p_3_18_3 zk_int ?_
    refine zw_push hm_33 dX3_cleanAll_26 (v := .inl (0 : Int32)) rfl ?_
    refine zw_sto hm_33 dX3_cleanAll_27 [(2, .inl (0 : Int32)), (1, .inl v2), (0, .inr (.inr (some 81)))] rfl rfl rfl ?_
    exact zw_sub (ma_nd_of (ks := [0, 1, 2]) rfl (by decide)) (ma_nd_of (ks := [2, 1, 0]) rfl (by decide)) (ma_le_cons rfl (ma_le_cons rfl (ma_le_cons rfl (ma_le_nil _)))) h
  · intro x S9 hx
    exact hx.elim
theorem g_33_81_sv_28 {X : Nat × (Nat → Int32)} {d w : Nat} {S : ma_S} {Q : Option ma_V ⊕ Nat → ma_S → Prop} (l1 : Int32) (l2 : Int32) (hd : 4 ≤ d) (hw : 114 ≤ w) (hS : zT S) (h : if (mI S 75 4) ≤ l2 then (Q (.inl (some (.inl l1))) S) else (ma_wp X (d - 1) (w - 21) 124 0 [(0, .inr (.inr (some 75))), (1, .inl l2)] [] S (zo (fun v2 S1 => zT S1 ∧ ((v2 = none → ma_wp X d w 33 28 [(0, .inr (.inr (some 81))), (1, .inl l1), (2, .inl (l2 + (1 : Int32)))] [] S1 Q) ∧ (∀ c3, v2 = some c3 → ma_wp X (d - 1) (w - 24) 90 0 [(0, .inr (.inr (some 69))), (1, .inr (.inr (some c3))), (2, .inl (mI S1 81 4))] [] S1 (zv (fun S4 => zT S4 ∧ ((126 ≤ c3 ∧ c3 < mN S4) ∧ (ma_wp X d w 33 28 [(0, .inr (.inr (some 81))), (1, .inl l1), (2, .inl (l2 + (1 : Int32)))] [] (ma_put S4 81 4 (.inl ((mI S4 81 4) + (mI S4 c3 2)))) Q))) (fun x S9 => Q (.inr x) S9))))) (fun x S9 => Q (.inr x) S9)))) : ma_wp X d w 33 28 [(0, .inr (.inr (some 81))), (1, .inl l1), (2, .inl l2)] [] S Q := by
  refine zw_push hm_33 dX3_cleanAll_28 (v := .inl l2) rfl ?_
  refine zw_push hm_33 dX3_cleanAll_29 (v := .inr (.inr (some 81))) rfl ?_
  refine zw_gf hm_33 dX3_cleanAll_30 (v := .inr (.inr (some 75))) (zT_is hS s_81) (zT_t hS s_81) rfl f_3_40_3 (zT_f hS r_81_1) ?_
  refine zw_gf hm_33 dX3_cleanAll_33 (v := .inl (mI S 75 4)) (zT_is hS s_75) (zT_t hS s_75) rfl f_3_44_10 rfl ?_
  refine zw_if2 hm_33 dX3_cleanAll_36 (t := 83) rfl zc2_ge ?_ ?_
  · intro hc
    rw [if_pos hc] at h
    refine zw_push hm_33 dX3_cleanAll_83 (v := .inl l1) rfl ?_
    exact zw_iret hm_33 dX3_cleanAll_84 h
  · intro hc
    rw [if_neg hc] at h
    refine zw_push hm_33 dX3_cleanAll_39 (v := .inr (.inr (some 81))) rfl ?_
    refine zw_gf hm_33 dX3_cleanAll_40 (v := .inr (.inr (some 75))) (zT_is hS s_81) (zT_t hS s_81) rfl f_3_40_3 (zT_f hS r_81_1) ?_
    refine zw_push hm_33 dX3_cleanAll_43 (v := .inl l2) rfl ?_
    refine zw_cv hm_33 dX3_cleanAll_44 v_3_49_10 hm_124 [.inl l2] [] rfl (zT_rt hS s_75 rfl) ⟨by omega, by omega⟩ rfl (zw_mono h (zo_go ?_ ?_))
    · intro v2 S1 hv
      obtain ⟨hS1, h⟩ := hv
      refine zw_sto hm_33 dX3_cleanAll_47 [(3, .inr (.inr v2)), (0, .inr (.inr (some 81))), (1, .inl l1), (2, .inl l2)] rfl rfl rfl ?_
      refine zw_push hm_33 dX3_cleanAll_48 (v := .inr (.inr v2)) rfl ?_
      refine zw_ifnull hm_33 dX3_cleanAll_49 (t := 77) rfl ?_ ?_
      · intro hc
        have h := h.1 hc
        (try rw [hc])
        show ma_wp X d w 33 77 [(3, .inr (.inr none)), (0, .inr (.inr (some 81))), (1, .inl l1), (2, .inl l2)] [] S1 _
        refine zw_sto hm_33 dX3_cleanAll_77 [(2, .inl (l2 + (1 : Int32))), (3, .inr (.inr none)), (0, .inr (.inr (some 81))), (1, .inl l1)] rfl rfl rfl ?_
        refine zw_goto hm_33 dX3_cleanAll_80 (t := 28) rfl ?_
        exact zw_sub (ma_nd_of (ks := [0, 1, 2]) rfl (by decide)) (ma_nd_of (ks := [2, 3, 0, 1]) rfl (by decide)) (ma_le_cons rfl (ma_le_cons rfl (ma_le_cons rfl (ma_le_nil _)))) h
      · intro c3 hc
        have h := h.2 c3 hc
        (try rw [hc])
        show ma_wp X d w 33 52 [(3, .inr (.inr (some c3))), (0, .inr (.inr (some 81))), (1, .inl l1), (2, .inl l2)] [] S1 _
        refine zw_push hm_33 dX3_cleanAll_52 (v := .inr (.inr (some 81))) rfl ?_
        refine zw_gf hm_33 dX3_cleanAll_53 (v := .inr (.inr (some 69))) (zT_is hS1 s_81) (zT_t hS1 s_81) rfl f_3_53_3 (zT_f hS1 r_81_0) ?_
        refine zw_push hm_33 dX3_cleanAll_56 (v := .inr (.inr (some c3))) rfl ?_
        refine zw_push hm_33 dX3_cleanAll_57 (v := .inr (.inr (some 81))) rfl ?_
        refine zw_gf hm_33 dX3_cleanAll_58 (v := .inl (mI S1 81 4)) (zT_is hS1 s_81) (zT_t hS1 s_81) rfl f_3_18_3 rfl ?_
        refine zw_cv hm_33 dX3_cleanAll_61 v_3_57_7 hm_90 [.inl (mI S1 81 4), .inr (.inr (some c3))] [] rfl (zT_rt hS1 s_69 rfl) ⟨by omega, by omega⟩ rfl (zw_mono h (zv_go ?_ ?_))
        · intro S4 hv
          obtain ⟨hS4, h⟩ := hv
          refine zw_push hm_33 dX3_cleanAll_64 (v := .inr (.inr (some 81))) rfl ?_
          refine zw_stk hm_33 dX3_cleanAll_65 (st₉ := [.inr (.inr (some 81)), .inr (.inr (some 81))]) rfl rfl ?_
          refine zw_gf hm_33 dX3_cleanAll_66 (v := .inl (mI S4 81 4)) (zT_is hS4 s_81) (zT_t hS4 s_81) rfl f_3_18_3 rfl ?_
          refine zw_push hm_33 dX3_cleanAll_69 (v := .inr (.inr (some c3))) rfl ?_
          obtain ⟨hg, h⟩ := h
          refine zw_gf hm_33 dX3_cleanAll_70 (v := .inl (mI S4 c3 2)) (zT_tis hS4 hg) (zT_tt hS4 hg) rfl f_3_34_9 rfl ?_
          refine zw_stk hm_33 dX3_cleanAll_73 (st₉ := [.inl ((mI S4 81 4) + (mI S4 c3 2)), .inr (.inr (some 81))]) rfl rfl ?_
          refine zw_pf hm_33 dX3_cleanAll_74 (zT_is hS4 s_81) (zT_t hS4 s_81) p_3_18_3 zk_int ?_
          refine zw_sto hm_33 dX3_cleanAll_77 [(2, .inl (l2 + (1 : Int32))), (3, .inr (.inr (some c3))), (0, .inr (.inr (some 81))), (1, .inl l1)] rfl rfl rfl ?_
          refine zw_goto hm_33 dX3_cleanAll_80 (t := 28) rfl ?_
          exact zw_sub (ma_nd_of (ks := [0, 1, 2]) rfl (by decide)) (ma_nd_of (ks := [2, 3, 0, 1]) rfl (by decide)) (ma_le_cons rfl (ma_le_cons rfl (ma_le_cons rfl (ma_le_nil _)))) h
        · intro x S9 hx
          exact ⟨by decide, hx⟩
    · intro x S9 hx
      exact ⟨by decide, hx⟩
theorem lp_33_81_sv_28 {X : Nat × (Nat → Int32)} {d w : Nat} {f : Nat → Nat → Int32} {r : Nat → Nat → Option Nat} {C Z N : Nat} {Q : Option ma_V ⊕ Nat → ma_S → Prop} {ab : Nat→Nat→Int32} (hd : 4 ≤ d) (hw : 114 ≤ w) (K : ∀ v S₉, zJ81 f r C Z N S₉ → (True) → (xB S₉ (mR S₉ 70)) → (aH S₉ = hCl ab ∧ v = aSv ab) → Q (.inl (some (.inl v))) S₉) : ∀ (n : Nat) (S : ma_S) (l1 : Int32) (l2 : Int32), (512 - l2.toInt).toNat = n → zJ81 f r C Z N S → (0 ≤ l2.toInt) → ((mI S 81 4).toInt ≤ 1500 + 61 * l2.toInt) → (xB S (mR S 70)) → ((mI S 81 3) = ab 87 5 - ab 87 3) → ((mI S 81 2) = ab 87 5) → (qK7 ab) → (l1 = aSv ab) → (hMf ((mI S 75 4).toInt - l2.toInt).toNat l2.toNatClampNeg (aM (ab 87) S) (mI S 81 4).toInt = hFo (aSw ab)) → (qJh (aM (ab 87) S) (ab 87 5 - ab 87 3).toInt (ab 87 3).toInt (ab 87 5).toInt l2.toNatClampNeg (mI S 81 4).toInt) → ma_wp X d w 33 28 [(0, .inr (.inr (some 81))), (1, .inl l1), (2, .inl l2)] [] S Q := by
  intro n
  induction n using Nat.strongRecOn with
  | _ n IH =>
    intro S l1 l2 hmu hI  hi0 hi1 hi2 hi3 hi4 hi5 hi6 hi7 hi8
    refine g_33_81_sv_28 l1 l2 (by omega) (by omega) (zG_T hI) ?_
    have x1 : 0 ≤ (mI S 81 3).toInt ∧ (mI S 81 3).toInt ≤ (mI S 81 2).toInt := zG_x hI
    have f2 := zG_s hI (0) (1500) (c := 81) (k := 3) (by decide)
    have f3 := zG_s hI (0) (1500) (c := 81) (k := 2) (by decide)
    have f4 := zG_s hI (0) (512) (c := 75) (k := 4) (by decide)
    have f5 := zG_s hI (0) (400000) (c := 81) (k := 4) (by decide)
    have b6 := i_bd l2
    refine zd (fun h7 => ?_) (fun h7 => ?_)
    · skip
      have g8 := i_le h7
      have b9 := i_bd l1
      exact K (l1) _ hI trivial (show xB S (mR S 70) from by first | (exact xB_x (xC_o (W := 75) hi2).2)) (show aH S = hCl ab ∧ l1 = aSv ab from by first | (have z := Fo_e hi7 (by omega); exact ⟨Hcl_e z.1 z.2 hi3 hi4 hi5, hi6⟩))
    · skip
      have g10 := i_nle h7
      refine sp_124_75_s (l2) (by omega) (by omega) (zJ81_dn hI) (show xB S (mR S 70) from by first | (exact xB_x (xC_o (W := 75) hi2).2)) (by omega) (show l2.toInt < (mI S 75 4).toInt from by omega) (fun v2 S1 eS_S1 hq_v2 rp0_S1 => zo_n ⟨(by rw [eS_S1]; exact zG_T hI), ?_⟩)
      replace eS_S1 := eS_S1.symm; subst eS_S1
      have rp0_S1 : v2 = zTa (mR S 70) (mI S 76 l2.toNatClampNeg) := rp0_S1
      refine ⟨fun hc => ?_, fun c3 hc => ?_⟩
      · skip
        have rn_c3 : zTa (mR S 70) (mI S 76 l2.toNatClampNeg) = none := rp0_S1.symm.trans hc
        have b11 := i_bd l1
        first | have e12 : (l2 + (1 : Int32)).toInt = l2.toInt + (1) := i_addk rfl (by omega) (by omega) | have b13 := i_bd (l2 + (1 : Int32))
        exact IH _ (by omega) _ (l1) ((l2 + (1 : Int32))) rfl hI (by omega) (show (mI S 81 4).toInt ≤ 1500 + 61 * ((l2 + (1 : Int32))).toInt from by omega) (show xB S (mR S 70) from by first | (exact (Jh_no (Jh_q hi8 (by omega) (by omega) rfl).1 hi2 rn_c3).elim)) (show (mI S 81 3) = ab 87 5 - ab 87 3 from by first | (exact (Jh_no (Jh_q hi8 (by omega) (by omega) rfl).1 hi2 rn_c3).elim)) (show (mI S 81 2) = ab 87 5 from by first | (exact (Jh_no (Jh_q hi8 (by omega) (by omega) rfl).1 hi2 rn_c3).elim)) (show qK7 ab from by first | (exact (Jh_no (Jh_q hi8 (by omega) (by omega) rfl).1 hi2 rn_c3).elim)) (show (l1) = aSv ab from by first | (exact (Jh_no (Jh_q hi8 (by omega) (by omega) rfl).1 hi2 rn_c3).elim)) (show hMf ((mI S 75 4).toInt - ((l2 + (1 : Int32))).toInt).toNat ((l2 + (1 : Int32))).toNatClampNeg (aM (ab 87) S) (mI S 81 4).toInt = hFo (aSw ab) from by first | (exact (Jh_no (Jh_q hi8 (by omega) (by omega) rfl).1 hi2 rn_c3).elim)) (show qJh (aM (ab 87) S) (ab 87 5 - ab 87 3).toInt (ab 87 3).toInt (ab 87 5).toInt ((l2 + (1 : Int32))).toNatClampNeg (mI S 81 4).toInt from by first | (exact (Jh_no (Jh_q hi8 (by omega) (by omega) rfl).1 hi2 rn_c3).elim))
      · skip
        have th_c3 := hq_v2 c3 hc
        have rg_c3 : zTa (mR S 70) (mI S 76 l2.toNatClampNeg) = some c3 := rp0_S1.symm.trans hc
        subst hc
        refine sp_90_69_s (ab := (aS 75 S)) (R := (mR S 70)) (y := ((mI S 76 l2.toNatClampNeg))) c3 ((mI S 81 4)) (by omega) (by omega) (zJ81_dn hI) th_c3 (show xB S (mR S 70) from by first | (exact xB_x (xC_o (W := 75) hi2).2)) (show aS 75 S = (aS 75 S) from by first | (exact rfl)) (show zTa (mR S 70) ((mI S 76 l2.toNatClampNeg)) = some c3 from by first | (exact rg_c3)) (show qMv (aS 75 S) ((mI S 76 l2.toNatClampNeg)).toNatClampNeg (mI S 81 4) from by first | (exact (Jh_q hi8 (by omega) (by omega) rfl).2)) (by omega) (fun S4 hL_S4 rp0_S4 rp1_S4 => zv_n ⟨zG_T hL_S4, ?_⟩)
        have hI_S4 := zJ81_up hI hL_S4
        have rp0_S4 : xB S4 (mR S 70) := by
          have z := rp0_S4
          (try rw [show mI S 65 = f 65 from funext (fun k => zG_z hI rfl)] at z)
          (try rw [show mI S 64 1 = f 64 1 from zG_z hI rfl] at z)
          exact z
        have rp1_S4 : aS 75 S4 = aMo (aS 75 S) ((mI S 76 l2.toNatClampNeg)).toNatClampNeg (mI S 81 4) := by
          have z := rp1_S4
          (try rw [show mI S 65 = f 65 from funext (fun k => zG_z hI rfl)] at z)
          (try rw [show mI S 64 1 = f 64 1 from zG_z hI rfl] at z)
          exact z
        refine ⟨zG_n hI_S4 th_c3, ?_⟩
        have q15 : (mI S4 81 4).toInt = (mI S 81 4).toInt := zG_zi hL_S4 rfl
        have f16 := zG_s hI_S4 (0) (400000) (c := 81) (k := 4) (by decide)
        have f17 := zG_th hI_S4 th_c3
        first | have e18 : ((mI S4 81 4) + (mI S4 c3 2)).toInt = (mI S4 81 4).toInt + (mI S4 c3 2).toInt := i_add (by omega) (by omega) | have b19 := i_bd ((mI S4 81 4) + (mI S4 c3 2))
        have hI14 : zJ81 f r C Z N (ma_put S4 81 4 (.inl ((mI S4 81 4) + (mI S4 c3 2)))) := zG_sp hI_S4 (0) (400000) rfl (by decide) (by decide) (by decide) (show zJ81_x (mI S4) from zG_x hI_S4) (by omega) (by omega)
        have b20 := i_bd l1
        first | have e21 : (l2 + (1 : Int32)).toInt = l2.toInt + (1) := i_addk rfl (by omega) (by omega) | have b22 := i_bd (l2 + (1 : Int32))
        have q23 : (mI S4 81 3).toInt = (mI S 81 3).toInt := zG_zi hL_S4 rfl
        have x24 : 0 ≤ (mI S4 81 3).toInt ∧ (mI S4 81 3).toInt ≤ (mI S4 81 2).toInt := zG_x hI_S4
        have f25 := zG_s hI_S4 (0) (1500) (c := 81) (k := 3) (by decide)
        have q26 : (mI S4 81 2).toInt = (mI S 81 2).toInt := zG_zi hL_S4 rfl
        have f27 := zG_s hI_S4 (0) (1500) (c := 81) (k := 2) (by decide)
        have f28 := zG_s hI_S4 (0) (512) (c := 75) (k := 4) (by decide)
        exact IH _ (by omega) _ (l1) ((l2 + (1 : Int32))) rfl hI14 (by omega) (show ((mI S4 81 4) + (mI S4 c3 2)).toInt ≤ 1500 + 61 * ((l2 + (1 : Int32))).toInt from by omega) (show xB (ma_put S4 81 4 (.inl ((mI S4 81 4) + (mI S4 c3 2)))) (mR (ma_put S4 81 4 (.inl ((mI S4 81 4) + (mI S4 c3 2)))) 70) from by first | (exact xB_x (xC_n (c := 81) (k := 4) (x := ((mI S4 81 4) + (mI S4 c3 2))) (xC_o (W := 75) rp0_S4) ⟨by decide, Or.inl ⟨rfl, rfl⟩⟩).2)) (show (mI S4 81 3) = ab 87 5 - ab 87 3 from by first | (exact (show mI S4 81 3 = mI S 81 3 from zG_z hL_S4 rfl).trans hi3)) (show (mI S4 81 2) = ab 87 5 from by first | (exact (show mI S4 81 2 = mI S 81 2 from zG_z hL_S4 rfl).trans hi4)) (show qK7 ab from by first | (exact hi5)) (show (l1) = aSv ab from by first | (exact hi6)) (show hMf ((mI S4 75 4).toInt - ((l2 + (1 : Int32))).toInt).toNat ((l2 + (1 : Int32))).toNatClampNeg (aM (ab 87) (ma_put S4 81 4 (.inl ((mI S4 81 4) + (mI S4 c3 2))))) ((mI S4 81 4) + (mI S4 c3 2)).toInt = hFo (aSw ab) from by first | (have ty := xB_th (W := 75) hi2 rg_c3; have f2 := congrArg Int32.toInt ty.2.2.2.2.1; have u := xB_th (W := 75) rp0_S4 rg_c3; have u2 := congrArg Int32.toInt u.2.2.2.2.1; rw [rp1_S4, Mo_r (by decide) (by decide)] at u2; exact Fo_s (S₉ := (ma_put S4 81 4 (.inl ((mI S4 81 4) + (mI S4 c3 2))))) hi7 (by omega) (by omega) (by omega) (Jh_q hi8 (by omega) (by omega) rfl).1 ((xC_n (c := 81) (k := 4) (x := ((mI S4 81 4) + (mI S4 c3 2))) (xC_o (W := 75) rp0_S4) ⟨by decide, Or.inl ⟨rfl, rfl⟩⟩).1.trans rp1_S4) (by omega) (by omega))) (show qJh (aM (ab 87) (ma_put S4 81 4 (.inl ((mI S4 81 4) + (mI S4 c3 2))))) (ab 87 5 - ab 87 3).toInt (ab 87 3).toInt (ab 87 5).toInt ((l2 + (1 : Int32))).toNatClampNeg ((mI S4 81 4) + (mI S4 c3 2)).toInt from by first | (have ty := xB_th (W := 75) hi2 rg_c3; have f2 := congrArg Int32.toInt ty.2.2.2.2.1; have u := xB_th (W := 75) rp0_S4 rg_c3; have u2 := congrArg Int32.toInt u.2.2.2.2.1; rw [rp1_S4, Mo_r (by decide) (by decide)] at u2; exact Jh_s (S₉ := (ma_put S4 81 4 (.inl ((mI S4 81 4) + (mI S4 c3 2))))) hi8 (by omega) (by omega) ((xC_n (c := 81) (k := 4) (x := ((mI S4 81 4) + (mI S4 c3 2))) (xC_o (W := 75) rp0_S4) ⟨by decide, Or.inl ⟨rfl, rfl⟩⟩).1.trans rp1_S4) (by omega) (by omega)))
theorem sp_33_81_sv {X : Nat × (Nat → Int32)} {d w : Nat} {f : Nat → Nat → Int32} {r : Nat → Nat → Option Nat} {C Z N : Nat} {Q : Option ma_V ⊕ Nat → ma_S → Prop} {ab : Nat→Nat→Int32} {S : ma_S}  (hd : 4 ≤ d) (hw : 114 ≤ w) (hI : zJ81 f r C Z N S) (hpre0 : xB S (mR S 70)) (hpre1 : aH S = ab) (hpre2 : qHv ab) (K : ∀ v S₉, zJ81 f r C Z N S₉ → (True) → (xB S₉ (mR S₉ 70)) → (aH S₉ = hCl ab ∧ v = aSv ab) → Q (.inl (some (.inl v))) S₉) : ma_wp X d w 33 0 [(0, .inr (.inr (some 81)))] [] S Q := by
  refine g_33_81_sv_0  (by omega) (by omega) (zG_T hI) ?_
  refine sp_264_81_s (ab := (aS 75 S)) (by omega) (by omega) (zJ81_dn hI) (show xB S (mR S 70) from by first | (exact xB_x (xC_o (W := 75) hpre0).2)) (show aS 75 S = (aS 75 S) from by first | (exact rfl)) (fun v2 S1 hL_S1 hp_v2 rp0_S1 rp1_S1 => zi_n ⟨zG_T hL_S1, ?_⟩)
  have hI_S1 := zJ81_up hI hL_S1
  have rp0_S1 : xB S1 (mR S1 70) := by
    have z := rp0_S1
    (try rw [show mI S 65 = f 65 from funext (fun k => zG_z hI rfl)] at z)
    (try rw [show mI S 64 1 = f 64 1 from zG_z hI rfl] at z)
    exact z
  have rp1_S1 : aS 75 S1 = aSw (aS 75 S) ∧ v2 = aSv (aS 75 S) := by
    have z := rp1_S1
    (try rw [show mI S 65 = f 65 from funext (fun k => zG_z hI rfl)] at z)
    (try rw [show mI S 64 1 = f 64 1 from zG_z hI rfl] at z)
    exact z
  have x2 : 0 ≤ (mI S 81 3).toInt ∧ (mI S 81 3).toInt ≤ (mI S 81 2).toInt := zG_x hI
  have f3 := zG_s hI (0) (1500) (c := 81) (k := 2) (by decide)
  have q4 : (mI S1 81 2).toInt = (mI S 81 2).toInt := zG_zi hL_S1 rfl
  have x5 : 0 ≤ (mI S1 81 3).toInt ∧ (mI S1 81 3).toInt ≤ (mI S1 81 2).toInt := zG_x hI_S1
  have f6 := zG_s hI_S1 (0) (1500) (c := 81) (k := 2) (by decide)
  have f7 := zG_s hI (0) (1500) (c := 81) (k := 3) (by decide)
  have q8 : (mI S1 81 3).toInt = (mI S 81 3).toInt := zG_zi hL_S1 rfl
  have f9 := zG_s hI_S1 (0) (1500) (c := 81) (k := 3) (by decide)
  first | have e10 : ((mI S1 81 2) - (mI S1 81 3)).toInt = (mI S1 81 2).toInt - (mI S1 81 3).toInt := i_sub (by omega) (by omega) | have b11 := i_bd ((mI S1 81 2) - (mI S1 81 3))
  have hI1 : zJ81 f r C Z N (ma_put S1 81 3 (.inl ((mI S1 81 2) - (mI S1 81 3)))) := zG_sp hI_S1 (0) (1500) rfl (by decide) (by decide) (by decide) (show 0 ≤ ((mI S1 81 2) - (mI S1 81 3)).toInt ∧ ((mI S1 81 2) - (mI S1 81 3)).toInt ≤ (mI S1 81 2).toInt from by omega) (by omega) (by omega)
  have hI12 : zJ81 f r C Z N (ma_put (ma_put S1 81 3 (.inl ((mI S1 81 2) - (mI S1 81 3)))) 81 4 (.inl ((mI S1 81 2) - (mI S1 81 3)))) := zG_sp hI1 (0) (400000) rfl (by decide) (by decide) (by decide) (show zJ81_x (mI (ma_put S1 81 3 (.inl ((mI S1 81 2) - (mI S1 81 3))))) from zG_x hI1) (by omega) (by omega)
  have b13 := i_bd v2
  have li14 : (0 : Int32).toInt = 0 := rfl
  have f15 := zG_s hI_S1 (0) (512) (c := 75) (k := 4) (by decide)
  exact lp_33_81_sv_28 (by omega) (by omega) K _ _ (v2) ((0 : Int32)) rfl hI12 (by omega) (show ((mI S1 81 2) - (mI S1 81 3)).toInt ≤ 1500 + 61 * ((0 : Int32)).toInt from by omega) (show xB (ma_put (ma_put S1 81 3 (.inl ((mI S1 81 2) - (mI S1 81 3)))) 81 4 (.inl ((mI S1 81 2) - (mI S1 81 3)))) (mR (ma_put (ma_put S1 81 3 (.inl ((mI S1 81 2) - (mI S1 81 3)))) 81 4 (.inl ((mI S1 81 2) - (mI S1 81 3)))) 70) from by first | (exact xB_x (xC_n (c := 81) (k := 4) (x := ((mI S1 81 2) - (mI S1 81 3))) (xC_n (c := 81) (k := 3) (x := ((mI S1 81 2) - (mI S1 81 3))) (xC_o (W := 75) rp0_S1) ⟨by decide, Or.inl ⟨rfl, rfl⟩⟩) ⟨by decide, Or.inl ⟨rfl, rfl⟩⟩).2)) (show ((mI S1 81 2) - (mI S1 81 3)) = ab 87 5 - ab 87 3 from by first | (exact (show mI S1 81 2 - mI S1 81 3 = ab 87 5 - ab 87 3 from by rw [(show mI S1 81 2 = mI S 81 2 from zG_z hL_S1 rfl), (show mI S1 81 3 = mI S 81 3 from zG_z hL_S1 rfl), ← hpre1]; rfl))) (show (mI S1 81 2) = ab 87 5 from by first | (rw [(show mI S1 81 2 = mI S 81 2 from zG_z hL_S1 rfl), ← hpre1]; rfl)) (show qK7 ab from by first | (exact K7_H hpre1)) (show (v2) = aSv ab from by first | (exact rp1_S1.2.trans (H_sv.trans (congrArg aSv hpre1)))) (show hMf ((mI S1 75 4).toInt - ((0 : Int32)).toInt).toNat ((0 : Int32)).toNatClampNeg (aM (ab 87) (ma_put (ma_put S1 81 3 (.inl ((mI S1 81 2) - (mI S1 81 3)))) 81 4 (.inl ((mI S1 81 2) - (mI S1 81 3))))) ((mI S1 81 2) - (mI S1 81 3)).toInt = hFo (aSw ab) from by first | (exact Fo_0 (S₉ := (ma_put (ma_put S1 81 3 (.inl ((mI S1 81 2) - (mI S1 81 3)))) 81 4 (.inl ((mI S1 81 2) - (mI S1 81 3))))) (show aM (ab 87) (ma_put (ma_put S1 81 3 (.inl ((mI S1 81 2) - (mI S1 81 3)))) 81 4 (.inl ((mI S1 81 2) - (mI S1 81 3)))) = aSw ab from (M_sw (S := S) ((xC_n (c := 81) (k := 4) (x := ((mI S1 81 2) - (mI S1 81 3))) (xC_n (c := 81) (k := 3) (x := ((mI S1 81 2) - (mI S1 81 3))) (xC_o (W := 75) rp0_S1) ⟨by decide, Or.inl ⟨rfl, rfl⟩⟩) ⟨by decide, Or.inl ⟨rfl, rfl⟩⟩).1.trans rp1_S1.1)).trans (congrArg aSw (H_id hpre1))) (show mI S1 81 2 - mI S1 81 3 = ab 87 5 - ab 87 3 from by rw [(show mI S1 81 2 = mI S 81 2 from zG_z hL_S1 rfl), (show mI S1 81 3 = mI S 81 3 from zG_z hL_S1 rfl), ← hpre1]; rfl))) (show qJh (aM (ab 87) (ma_put (ma_put S1 81 3 (.inl ((mI S1 81 2) - (mI S1 81 3)))) 81 4 (.inl ((mI S1 81 2) - (mI S1 81 3))))) (ab 87 5 - ab 87 3).toInt (ab 87 3).toInt (ab 87 5).toInt ((0 : Int32)).toNatClampNeg ((mI S1 81 2) - (mI S1 81 3)).toInt from by first | (exact Jh_1 (S₉ := (ma_put (ma_put S1 81 3 (.inl ((mI S1 81 2) - (mI S1 81 3)))) 81 4 (.inl ((mI S1 81 2) - (mI S1 81 3))))) hpre2 (show aM (ab 87) (ma_put (ma_put S1 81 3 (.inl ((mI S1 81 2) - (mI S1 81 3)))) 81 4 (.inl ((mI S1 81 2) - (mI S1 81 3)))) = aSw ab from (M_sw (S := S) ((xC_n (c := 81) (k := 4) (x := ((mI S1 81 2) - (mI S1 81 3))) (xC_n (c := 81) (k := 3) (x := ((mI S1 81 2) - (mI S1 81 3))) (xC_o (W := 75) rp0_S1) ⟨by decide, Or.inl ⟨rfl, rfl⟩⟩) ⟨by decide, Or.inl ⟨rfl, rfl⟩⟩).1.trans rp1_S1.1)).trans (congrArg aSw (H_id hpre1))) (show mI S1 81 2 - mI S1 81 3 = ab 87 5 - ab 87 3 from by rw [(show mI S1 81 2 = mI S 81 2 from zG_z hL_S1 rfl), (show mI S1 81 3 = mI S 81 3 from zG_z hL_S1 rfl), ← hpre1]; rfl)))

