/-! from 95.g26 -/
/-! the heap by numbers, the class (written by wip/tools/gen18.py) -/
theorem g_149_64_s_0 {X : Nat × (Nat → Int32)} {d w : Nat} {S : ma_S} {Q : Option ma_V ⊕ Nat → ma_S → Prop} (n : Int32) (hd : 6 ≤ d) (hw : 89 ≤ w) (hS : zT S) (h : ma_wp X (d - 1) (w - 20) 116 0 [(0, .inr (.inr (some 75)))] [] S (zv (fun S1 => zT S1 ∧ (if n < 0 then (Q (.inr 4) (ma_bump S1)) else (if (512 : Int32) ≤ n then (Q (.inr 4) (ma_bump S1)) else ((0 ≤ n ∧ n.toNatClampNeg < 512) ∧ (((mR S1 70 n.toNatClampNeg) = none → Q (.inr 4) (ma_bump S1)) ∧ (∀ c3, (mR S1 70 n.toNatClampNeg) = some c3 → (126 ≤ c3 ∧ c3 < mN S1) ∧ (if (mI S1 c3 4) < (mI S1 75 5) then (Q (.inl (some (.inr (.inr (some c3))))) S1) else ((126 ≤ c3 ∧ c3 < mN S1) ∧ (if (512 : Int32) ≤ (mI S1 c3 0) then (Q (.inr 4) (ma_bump S1)) else ((126 ≤ c3 ∧ c3 < mN S1) ∧ ((0 ≤ (mI S1 c3 0) ∧ (mI S1 c3 0).toNatClampNeg < 512) ∧ (if (mI S1 77 (mI S1 c3 0).toNatClampNeg) = 0 then (Q (.inr 4) (ma_bump S1)) else (Q (.inl (some (.inr (.inr (some c3))))) S1))))))))))))) (fun x S9 => Q (.inr x) S9))) : ma_wp X d w 149 0 [(0, .inr (.inr (some 64))), (1, .inl n)] [] S Q := by
  refine zw_push hm_149 dX11_needReached_0 (v := .inr (.inr (some 64))) rfl ?_
  refine zw_gf hm_149 dX11_needReached_1 (v := .inr (.inr (some 75))) (zT_is hS s_64) (zT_t hS s_64) rfl f_11_35_11 (zT_f hS r_64_9) ?_
  refine zw_cv hm_149 dX11_needReached_4 v_11_358_10 hm_116 [] [] rfl (zT_rt hS s_75 rfl) ⟨by omega, by omega⟩ rfl (zw_mono h (zv_go ?_ ?_))
  · intro S1 hv
    obtain ⟨hS1, h⟩ := hv
    refine zw_push hm_149 dX11_needReached_7 (v := .inr (.inr (some 64))) rfl ?_
    refine zw_gf hm_149 dX11_needReached_8 (v := .inr (.inr (some 69))) (zT_is hS1 s_64) (zT_t hS1 s_64) rfl f_11_26_11 (zT_f hS1 r_64_8) ?_
    refine zw_push hm_149 dX11_needReached_11 (v := .inl n) rfl ?_
    refine zw_cv hm_149 dX11_needReached_12 v_11_176_7 hm_81 [.inl n] [] rfl (zT_rt hS1 s_69 rfl) ⟨by omega, by omega⟩ rfl ?_
    show ma_wp X (d - 1) (w - 21) 81 0 [(0, .inr (.inr (some 69))), (1, .inl n)] [] S1 _
    refine zw_push hm_81 dX7_thingAt_0 (v := .inl n) rfl ?_
    refine zw_if0 hm_81 dX7_thingAt_1 (t := 20) rfl zc0_lt ?_ ?_
    · intro hc
      rw [if_pos hc] at h
      refine zw_push hm_81 dX7_thingAt_20 (v := .inr (.inr none)) rfl ?_
      refine zw_aret hm_81 dX7_thingAt_21 ?_
      show ma_wp X d w 149 15 [(0, .inr (.inr (some 64))), (1, .inl n)] [.inr (.inr none)] S1 _
      refine zw_sto hm_149 dX11_needReached_15 [(2, .inr (.inr none)), (0, .inr (.inr (some 64))), (1, .inl n)] rfl rfl rfl ?_
      refine zw_push hm_149 dX11_needReached_16 (v := .inr (.inr none)) rfl ?_
      refine zw_ifnull hm_149 dX11_needReached_17 (t := 31) rfl (fun _ => ?_) (fun _ z => by cases z)
      exact zw_thr hm_149 dX11_needReached_31 dX11_needReached_34 dX11_needReached_35 dX11_needReached_38 x_11_364_366 n_11_364 (by omega) (by show 0 + 81 ≤ w; omega) h
    · intro hc
      rw [if_neg hc] at h
      refine zw_push hm_81 dX7_thingAt_4 (v := .inl n) rfl ?_
      refine zw_push hm_81 dX7_thingAt_5 (v := .inl (512 : Int32)) rfl ?_
      refine zw_if2 hm_81 dX7_thingAt_8 (t := 20) rfl zc2_ge ?_ ?_
      · intro hc
        rw [if_pos hc] at h
        refine zw_push hm_81 dX7_thingAt_20 (v := .inr (.inr none)) rfl ?_
        refine zw_aret hm_81 dX7_thingAt_21 ?_
        show ma_wp X d w 149 15 [(0, .inr (.inr (some 64))), (1, .inl n)] [.inr (.inr none)] S1 _
        refine zw_sto hm_149 dX11_needReached_15 [(2, .inr (.inr none)), (0, .inr (.inr (some 64))), (1, .inl n)] rfl rfl rfl ?_
        refine zw_push hm_149 dX11_needReached_16 (v := .inr (.inr none)) rfl ?_
        refine zw_ifnull hm_149 dX11_needReached_17 (t := 31) rfl (fun _ => ?_) (fun _ z => by cases z)
        exact zw_thr hm_149 dX11_needReached_31 dX11_needReached_34 dX11_needReached_35 dX11_needReached_38 x_11_364_366 n_11_364 (by omega) (by show 0 + 81 ≤ w; omega) h
      · intro hc
        rw [if_neg hc] at h
        refine zw_push hm_81 dX7_thingAt_11 (v := .inr (.inr (some 69))) rfl ?_
        refine zw_gf hm_81 dX7_thingAt_12 (v := .inr (.inr (some 70))) (zT_is hS1 s_69) (zT_t hS1 s_69) rfl f_7_11_7 (zT_f hS1 r_69_0) ?_
        refine zw_push hm_81 dX7_thingAt_15 (v := .inl n) rfl ?_
        obtain ⟨hg, h⟩ := h
        refine zw_aa hm_81 dX7_thingAt_16 (zT_is hS1 s_70) (zT_h hS1 s_70) rfl rfl hg rfl ?_
        show ma_wp X (d - 1) (w - 21) 81 17 [(0, .inr (.inr (some 69))), (1, .inl n)] [.inr (.inr (mR S1 70 n.toNatClampNeg))] S1 _
        refine zw_goto hm_81 dX7_thingAt_17 (t := 21) rfl ?_
        refine zw_aret hm_81 dX7_thingAt_21 ?_
        show ma_wp X d w 149 15 [(0, .inr (.inr (some 64))), (1, .inl n)] [.inr (.inr (mR S1 70 n.toNatClampNeg))] S1 _
        refine zw_sto hm_149 dX11_needReached_15 [(2, .inr (.inr (mR S1 70 n.toNatClampNeg))), (0, .inr (.inr (some 64))), (1, .inl n)] rfl rfl rfl ?_
        refine zw_push hm_149 dX11_needReached_16 (v := .inr (.inr (mR S1 70 n.toNatClampNeg))) rfl ?_
        refine zw_ifnull hm_149 dX11_needReached_17 (t := 31) rfl ?_ ?_
        · intro hc
          have h := h.1 hc
          (try rw [hc])
          show ma_wp X d w 149 31 [(2, .inr (.inr none)), (0, .inr (.inr (some 64))), (1, .inl n)] [] S1 _
          exact zw_thr hm_149 dX11_needReached_31 dX11_needReached_34 dX11_needReached_35 dX11_needReached_38 x_11_364_366 n_11_364 (by omega) (by show 0 + 81 ≤ w; omega) h
        · intro c3 hc
          have h := h.2 c3 hc
          (try rw [hc])
          show ma_wp X d w 149 20 [(2, .inr (.inr (some c3))), (0, .inr (.inr (some 64))), (1, .inl n)] [] S1 _
          refine zw_push hm_149 dX11_needReached_20 (v := .inr (.inr (some 64))) rfl ?_
          refine zw_gf hm_149 dX11_needReached_21 (v := .inr (.inr (some 75))) (zT_is hS1 s_64) (zT_t hS1 s_64) rfl f_11_35_11 (zT_f hS1 r_64_9) ?_
          refine zw_push hm_149 dX11_needReached_24 (v := .inr (.inr (some c3))) rfl ?_
          refine zw_cv hm_149 dX11_needReached_25 v_11_361_10 hm_122 [.inr (.inr (some c3))] [] rfl (zT_rt hS1 s_75 rfl) ⟨by omega, by omega⟩ rfl ?_
          show ma_wp X (d - 1) (w - 21) 122 0 [(0, .inr (.inr (some 75))), (1, .inr (.inr (some c3)))] [] S1 _
          refine zw_push hm_122 dX10_keeps_0 (v := .inr (.inr (some c3))) rfl ?_
          obtain ⟨hg, h⟩ := h
          refine zw_gf hm_122 dX10_keeps_1 (v := .inl (mI S1 c3 4)) (zT_tis hS1 hg) (zT_tt hS1 hg) rfl f_10_49_9 rfl ?_
          refine zw_push hm_122 dX10_keeps_4 (v := .inr (.inr (some 75))) rfl ?_
          refine zw_gf hm_122 dX10_keeps_5 (v := .inl (mI S1 75 5)) (zT_is hS1 s_75) (zT_t hS1 s_75) rfl f_10_35_10 rfl ?_
          refine zw_if2 hm_122 dX10_keeps_8 (t := 19) rfl zc2_lt ?_ ?_
          · intro hc
            rw [if_pos hc] at h
            refine zw_push hm_122 dX10_keeps_19 (v := .inl (1 : Int32)) rfl ?_
            refine zw_goto hm_122 dX10_keeps_20 (t := 24) rfl ?_
            refine zw_bret hm_122 dX10_keeps_24 (by decide) ?_
            show ma_wp X d w 149 28 [(2, .inr (.inr (some c3))), (0, .inr (.inr (some 64))), (1, .inl n)] [.inl (1 : Int32)] S1 _
            refine zw_if0 hm_149 dX11_needReached_28 (t := 39) rfl zc0_ne (fun _ => ?_) (fun hc => absurd (by decide) hc)
            refine zw_push hm_149 dX11_needReached_39 (v := .inr (.inr (some c3))) rfl ?_
            exact zw_aret hm_149 dX11_needReached_40 h
          · intro hc
            rw [if_neg hc] at h
            refine zw_push hm_122 dX10_keeps_11 (v := .inr (.inr (some 75))) rfl ?_
            refine zw_push hm_122 dX10_keeps_12 (v := .inr (.inr (some c3))) rfl ?_
            refine zw_cv hm_122 dX10_keeps_13 v_10_54_10 hm_123 [.inr (.inr (some c3))] [] rfl (zT_rt hS1 s_75 rfl) ⟨by omega, by omega⟩ rfl ?_
            show ma_wp X ((d - 1) - 1) ((w - 21) - 21) 123 0 [(0, .inr (.inr (some 75))), (1, .inr (.inr (some c3)))] [] S1 _
            refine zw_push hm_123 dX10_colourOf_0 (v := .inr (.inr (some c3))) rfl ?_
            obtain ⟨hg, h⟩ := h
            refine zw_gf hm_123 dX10_colourOf_1 (v := .inl (mI S1 c3 0)) (zT_tis hS1 hg) (zT_tt hS1 hg) rfl f_10_58_9 rfl ?_
            refine zw_push hm_123 dX10_colourOf_4 (v := .inl (512 : Int32)) rfl ?_
            refine zw_if2 hm_123 dX10_colourOf_7 (t := 22) rfl zc2_ge ?_ ?_
            · intro hc
              rw [if_pos hc] at h
              refine zw_push hm_123 dX10_colourOf_22 (v := .inl (0 : Int32)) rfl ?_
              refine zw_iret hm_123 dX10_colourOf_23 ?_
              show ma_wp X (d - 1) (w - 21) 122 16 [(0, .inr (.inr (some 75))), (1, .inr (.inr (some c3)))] [.inl (0 : Int32)] S1 _
              refine zw_if0 hm_122 dX10_keeps_16 (t := 23) rfl zc0_eq (fun _ => ?_) (fun hc => absurd (by decide) hc)
              refine zw_push hm_122 dX10_keeps_23 (v := .inl (0 : Int32)) rfl ?_
              refine zw_bret hm_122 dX10_keeps_24 (by decide) ?_
              show ma_wp X d w 149 28 [(2, .inr (.inr (some c3))), (0, .inr (.inr (some 64))), (1, .inl n)] [.inl (0 : Int32)] S1 _
              refine zw_if0 hm_149 dX11_needReached_28 (t := 39) rfl zc0_ne (fun hc => absurd hc (by decide)) (fun _ => ?_)
              exact zw_thr hm_149 dX11_needReached_31 dX11_needReached_34 dX11_needReached_35 dX11_needReached_38 x_11_364_366 n_11_364 (by omega) (by show 0 + 81 ≤ w; omega) h
            · intro hc
              rw [if_neg hc] at h
              refine zw_push hm_123 dX10_colourOf_10 (v := .inr (.inr (some 75))) rfl ?_
              refine zw_gf hm_123 dX10_colourOf_11 (v := .inr (.inr (some 77))) (zT_is hS1 s_75) (zT_t hS1 s_75) rfl f_10_15_10 (zT_f hS1 r_75_2) ?_
              refine zw_push hm_123 dX10_colourOf_14 (v := .inr (.inr (some c3))) rfl ?_
              obtain ⟨hg, h⟩ := h
              refine zw_gf hm_123 dX10_colourOf_15 (v := .inl (mI S1 c3 0)) (zT_tis hS1 hg) (zT_tt hS1 hg) rfl f_10_58_9 rfl ?_
              obtain ⟨hg, h⟩ := h
              refine zw_ia hm_123 dX10_colourOf_18 (zT_is hS1 s_77) (zT_h hS1 s_77) rfl hg ?_
              show ma_wp X ((d - 1) - 1) ((w - 21) - 21) 123 19 [(0, .inr (.inr (some 75))), (1, .inr (.inr (some c3)))] [.inl (mI S1 77 (mI S1 c3 0).toNatClampNeg)] S1 _
              refine zw_goto hm_123 dX10_colourOf_19 (t := 23) rfl ?_
              refine zw_iret hm_123 dX10_colourOf_23 ?_
              show ma_wp X (d - 1) (w - 21) 122 16 [(0, .inr (.inr (some 75))), (1, .inr (.inr (some c3)))] [.inl (mI S1 77 (mI S1 c3 0).toNatClampNeg)] S1 _
              refine zw_if0 hm_122 dX10_keeps_16 (t := 23) rfl zc0_eq ?_ ?_
              · intro hc
                rw [if_pos hc] at h
                refine zw_push hm_122 dX10_keeps_23 (v := .inl (0 : Int32)) rfl ?_
                refine zw_bret hm_122 dX10_keeps_24 (by decide) ?_
                show ma_wp X d w 149 28 [(2, .inr (.inr (some c3))), (0, .inr (.inr (some 64))), (1, .inl n)] [.inl (0 : Int32)] S1 _
                refine zw_if0 hm_149 dX11_needReached_28 (t := 39) rfl zc0_ne (fun hc => absurd hc (by decide)) (fun _ => ?_)
                exact zw_thr hm_149 dX11_needReached_31 dX11_needReached_34 dX11_needReached_35 dX11_needReached_38 x_11_364_366 n_11_364 (by omega) (by show 0 + 81 ≤ w; omega) h
              · intro hc
                rw [if_neg hc] at h
                refine zw_push hm_122 dX10_keeps_19 (v := .inl (1 : Int32)) rfl ?_
                refine zw_goto hm_122 dX10_keeps_20 (t := 24) rfl ?_
                refine zw_bret hm_122 dX10_keeps_24 (by decide) ?_
                show ma_wp X d w 149 28 [(2, .inr (.inr (some c3))), (0, .inr (.inr (some 64))), (1, .inl n)] [.inl (1 : Int32)] S1 _
                refine zw_if0 hm_149 dX11_needReached_28 (t := 39) rfl zc0_ne (fun _ => ?_) (fun hc => absurd (by decide) hc)
                refine zw_push hm_149 dX11_needReached_39 (v := .inr (.inr (some c3))) rfl ?_
                exact zw_aret hm_149 dX11_needReached_40 h
  · intro x S9 hx
    exact ⟨by decide, hx⟩
theorem sp_149_64_s {X : Nat × (Nat → Int32)} {d w : Nat} {f : Nat → Nat → Int32} {r : Nat → Nat → Option Nat} {C Z N : Nat} {Q : Option ma_V ⊕ Nat → ma_S → Prop} {R : zRT} {a7 : Nat→Nat→Int32} {a8 : Nat→Nat→Int32} {S : ma_S} (n : Int32) (hd : 6 ≤ d) (hw : 89 ≤ w) (hI : zI f r C Z N S) (hpre0 : xB S R) (hpre1 : aS 75 S = a7) (hpre2 : aS 88 S = a8) (K : ∀ v S₉, zI f r C Z N S₉ → (∃ c, v = some c ∧ 126 ≤ c ∧ c < N) → (xB S₉ R) → (aS 88 S₉ = a8) → (v = zTa R n) → (zRq a7 n) → Q (.inl (some (.inr (.inr v)))) S₉) (KX : ∀ x S₉, (x = 4) → zI f r C Z N S₉ → (xB S₉ R) → (aS 88 S₉ = a8) → (x = 4 ∧ ¬ zRq a7 n) → Q (.inr x) (ma_bump S₉)) : ma_wp X d w 149 0 [(0, .inr (.inr (some 64))), (1, .inl n)] [] S Q := by
  refine g_149_64_s_0 n (by omega) (by omega) (zG_T hI) ?_
  refine sp_116_75_s (ab := (aS 75 S)) (R := R) (a8 := a8) (by omega) (by omega) hI (show xB S R from by first | (exact (xC_o (W := 75) hpre0).2)) (show aS 75 S = (aS 75 S) from by first | (exact rfl)) (show aS 88 S = a8 from by first | (exact (xC_o (W := 88) hpre0).1.trans hpre2)) (fun S1 hI_S1 rp0_S1 rp1_S1 rp2_S1 => zv_n ⟨zG_T hI_S1, ?_⟩)
  have rp0_S1 : xB S1 R := rp0_S1
  have rp1_S1 : aS 75 S1 = aSp 512 (aRo (aWh (aS 75 S) 0) 0) := rp1_S1
  have rp2_S1 : aS 88 S1 = a8 := rp2_S1
  have b1 := i_bd n
  have li2 : (0 : Int32).toInt = 0 := rfl
  refine zd (fun h3 => ?_) (fun h3 => ?_)
  · skip
    have g4 := i_lt h3
    exact KX 4 _ (by decide) hI_S1 (show xB S1 R from by first | (exact (xC_o (W := 75) rp0_S1).2)) (show aS 88 S1 = a8 from by first | (exact (xC_o (W := 88) rp0_S1).1.trans rp2_S1)) (show 4 = 4 ∧ ¬ zRq a7 n from by first | (refine ⟨rfl, ?_⟩; intro w; have w1 := w.1; have w2 := w.2.1; omega))
  · skip
    have g5 := i_nlt h3
    have li6 : (512 : Int32).toInt = 512 := rfl
    refine zd (fun h7 => ?_) (fun h7 => ?_)
    · skip
      have g8 := i_le h7
      exact KX 4 _ (by decide) hI_S1 (show xB S1 R from by first | (exact (xC_o (W := 75) rp0_S1).2)) (show aS 88 S1 = a8 from by first | (exact (xC_o (W := 88) rp0_S1).1.trans rp2_S1)) (show 4 = 4 ∧ ¬ zRq a7 n from by first | (refine ⟨rfl, ?_⟩; intro w; have w1 := w.1; have w2 := w.2.1; omega))
    · skip
      have g9 := i_nle h7
      refine ⟨i_ix (by omega) (by omega), ?_⟩
      refine ⟨fun hc => ?_, fun c3 hc => ?_⟩
      · skip
        have rn_c3 : zTa R n = none := (ta_rd (y := n) rp0_S1 (by omega) (by omega)).symm.trans hc
        exact KX 4 _ (by decide) hI_S1 (show xB S1 R from by first | (exact (xC_o (W := 75) rp0_S1).2)) (show aS 88 S1 = a8 from by first | (exact (xC_o (W := 88) rp0_S1).1.trans rp2_S1)) (show 4 = 4 ∧ ¬ zRq a7 n from by first | (refine ⟨rfl, ?_⟩; intro w; refine xB_nt (W := 75) hpre0 rn_c3 ?_; rw [hpre1]; exact ⟨w.1, w.2.1, w.2.2.1⟩))
      · skip
        have th_c3 := (fun _ z => zG_70 hI_S1 (c := 70) (by decide) z) c3 hc
        have rg_c3 : zTa R n = some c3 := (ta_rd (y := n) rp0_S1 (by omega) (by omega)).symm.trans hc
        refine ⟨zG_n hI_S1 th_c3, ?_⟩
        have f10 := zG_th hI_S1 th_c3
        have b11 := i_bd (mI S1 75 5)
        refine zd (fun h12 => ?_) (fun h12 => ?_)
        · skip
          have g13 := i_lt h12
          exact K ((some c3)) _ hI_S1 ⟨c3, rfl, th_c3⟩ (show xB S1 R from by first | (exact (xC_o (W := 75) rp0_S1).2)) (show aS 88 S1 = a8 from by first | (exact (xC_o (W := 88) rp0_S1).1.trans rp2_S1)) (show (some c3) = zTa R n from by first | (exact rg_c3.symm)) (show zRq a7 n from by first | (have ty := xB_th (W := 75) hpre0 rg_c3; have t1 := xB_th (W := 75) rp0_S1 rg_c3; have k5 : mI S1 75 5 = 0 := (aS_I (W := 75) (S := S1) (c := 75) (c₉ := 75) (k := 5) rfl rfl).symm.trans ((congrFun (congrFun rp1_S1 75) 5).trans aRA_5); have k5i := congrArg Int32.toInt k5; have k7 : mI S1 77 (mI S1 c3 0).toNatClampNeg = aRA a7 77 n.toNatClampNeg := (by rw [t1.2.2.1, ← hpre1]; exact (aS_I (W := 75) (S := S1) (c := 77) (c₉ := 77) (k := n.toNatClampNeg) rfl rfl).symm.trans (congrFun (congrFun rp1_S1 77) n.toNatClampNeg)); have k7i := congrArg Int32.toInt k7; have l5 : (0 : Int32).toInt = 0 := rfl; have a6 : a7 126 n.toNatClampNeg ≠ 0 := (by rw [← hpre1, ty.2.2.2.2.2.2.2.2]; decide); first | (exfalso; omega) | exact ⟨ty.1, ty.2.1, a6, fun w => by have w2 := congrArg Int32.toInt w; omega⟩))
        · skip
          have g14 := i_nlt h12
          refine ⟨zG_n hI_S1 th_c3, ?_⟩
          have f15 := zG_th hI_S1 th_c3
          refine zd (fun h16 => ?_) (fun h16 => ?_)
          · skip
            have g17 := i_le h16
            exact KX 4 _ (by decide) hI_S1 (show xB S1 R from by first | (exact (xC_o (W := 75) rp0_S1).2)) (show aS 88 S1 = a8 from by first | (exact (xC_o (W := 88) rp0_S1).1.trans rp2_S1)) (show 4 = 4 ∧ ¬ zRq a7 n from by first | (refine ⟨rfl, ?_⟩; have ty := xB_th (W := 75) hpre0 rg_c3; have t1 := xB_th (W := 75) rp0_S1 rg_c3; have k5 : mI S1 75 5 = 0 := (aS_I (W := 75) (S := S1) (c := 75) (c₉ := 75) (k := 5) rfl rfl).symm.trans ((congrFun (congrFun rp1_S1 75) 5).trans aRA_5); have k5i := congrArg Int32.toInt k5; have k7 : mI S1 77 (mI S1 c3 0).toNatClampNeg = aRA a7 77 n.toNatClampNeg := (by rw [t1.2.2.1, ← hpre1]; exact (aS_I (W := 75) (S := S1) (c := 77) (c₉ := 77) (k := n.toNatClampNeg) rfl rfl).symm.trans (congrFun (congrFun rp1_S1 77) n.toNatClampNeg)); have k7i := congrArg Int32.toInt k7; have l5 : (0 : Int32).toInt = 0 := rfl; have a6 : a7 126 n.toNatClampNeg ≠ 0 := (by rw [← hpre1, ty.2.2.2.2.2.2.2.2]; decide); first | (exfalso; omega) | (intro w; exact w.2.2.2 (Int32.toInt_inj.mp (by omega)))))
          · skip
            have g18 := i_nle h16
            refine ⟨zG_n hI_S1 th_c3, ?_⟩
            refine ⟨i_ix (by omega) (by omega), ?_⟩
            have b19 := i_bd (mI S1 77 (mI S1 c3 0).toNatClampNeg)
            refine zd (fun h20 => ?_) (fun h20 => ?_)
            · skip
              have g21 := i_eq h20
              exact KX 4 _ (by decide) hI_S1 (show xB S1 R from by first | (exact (xC_o (W := 75) rp0_S1).2)) (show aS 88 S1 = a8 from by first | (exact (xC_o (W := 88) rp0_S1).1.trans rp2_S1)) (show 4 = 4 ∧ ¬ zRq a7 n from by first | (refine ⟨rfl, ?_⟩; have ty := xB_th (W := 75) hpre0 rg_c3; have t1 := xB_th (W := 75) rp0_S1 rg_c3; have k5 : mI S1 75 5 = 0 := (aS_I (W := 75) (S := S1) (c := 75) (c₉ := 75) (k := 5) rfl rfl).symm.trans ((congrFun (congrFun rp1_S1 75) 5).trans aRA_5); have k5i := congrArg Int32.toInt k5; have k7 : mI S1 77 (mI S1 c3 0).toNatClampNeg = aRA a7 77 n.toNatClampNeg := (by rw [t1.2.2.1, ← hpre1]; exact (aS_I (W := 75) (S := S1) (c := 77) (c₉ := 77) (k := n.toNatClampNeg) rfl rfl).symm.trans (congrFun (congrFun rp1_S1 77) n.toNatClampNeg)); have k7i := congrArg Int32.toInt k7; have l5 : (0 : Int32).toInt = 0 := rfl; have a6 : a7 126 n.toNatClampNeg ≠ 0 := (by rw [← hpre1, ty.2.2.2.2.2.2.2.2]; decide); first | (exfalso; omega) | (intro w; exact w.2.2.2 (Int32.toInt_inj.mp (by omega)))))
            · skip
              have g22 := i_ne h20
              exact K ((some c3)) _ hI_S1 ⟨c3, rfl, th_c3⟩ (show xB S1 R from by first | (exact (xC_o (W := 75) rp0_S1).2)) (show aS 88 S1 = a8 from by first | (exact (xC_o (W := 88) rp0_S1).1.trans rp2_S1)) (show (some c3) = zTa R n from by first | (exact rg_c3.symm)) (show zRq a7 n from by first | (have ty := xB_th (W := 75) hpre0 rg_c3; have t1 := xB_th (W := 75) rp0_S1 rg_c3; have k5 : mI S1 75 5 = 0 := (aS_I (W := 75) (S := S1) (c := 75) (c₉ := 75) (k := 5) rfl rfl).symm.trans ((congrFun (congrFun rp1_S1 75) 5).trans aRA_5); have k5i := congrArg Int32.toInt k5; have k7 : mI S1 77 (mI S1 c3 0).toNatClampNeg = aRA a7 77 n.toNatClampNeg := (by rw [t1.2.2.1, ← hpre1]; exact (aS_I (W := 75) (S := S1) (c := 77) (c₉ := 77) (k := n.toNatClampNeg) rfl rfl).symm.trans (congrFun (congrFun rp1_S1 77) n.toNatClampNeg)); have k7i := congrArg Int32.toInt k7; have l5 : (0 : Int32).toInt = 0 := rfl; have a6 : a7 126 n.toNatClampNeg ≠ 0 := (by rw [← hpre1, ty.2.2.2.2.2.2.2.2]; decide); first | (exfalso; omega) | exact ⟨ty.1, ty.2.1, a6, fun w => by have w2 := congrArg Int32.toInt w; omega⟩))
/-! WHAT IS REACHED is no matter of what a walk's cells held before -/
section B8
variable {a b : Nat → Nat → Int32} {y n i : Int32} {m k c : Nat} {x : Int32}
theorem xu_s {c₉ k₉ : Nat} : ma_u a c₉ k₉ x c₉ k₉ = x := if_pos ⟨rfl, rfl⟩
theorem xu_o {c₉ k₉ : Nat} (h : ¬ (c = c₉ ∧ k = k₉)) : ma_u a c₉ k₉ x c k = a c k := if_neg h
def zOf (a b : Nat → Nat → Int32) : Prop := ∀ c k, c ≠ 75 → c ≠ 76 → c ≠ 77 → a c k = b c k
def zJJ (a b : Nat → Nat → Int32) : Prop := zOf a b ∧ (a 75 3 = b 75 3 ∧ a 75 4 = b 75 4 ∧ a 75 5 = b 75 5) ∧ (∀ k, k < 512 → a 77 k = b 77 k) ∧ (∀ k : Nat, (k : Int) < (a 75 4).toInt → a 76 k = b 76 k) ∧ 0 ≤ (a 75 3).toInt
theorem JJ_cc (h : zJJ a b) : aCc a y ↔ aCc b y := by
  obtain ⟨h1, h2, h3, _, _⟩ := h
  unfold aCc
  rw [h1 126 _ (by decide) (by decide) (by decide), h1 130 _ (by decide) (by decide) (by decide), h2.2.1, h2.2.2]
  constructor
  · intro w
    have := tn_cast w.1
    rw [← h3 y.toNatClampNeg (by omega)]
    exact w
  · intro w
    have := tn_cast w.1
    rw [h3 y.toNatClampNeg (by omega)]
    exact w
theorem JJ_cm (h : zJJ a b) : zJJ (aCm a y) (aCm b y) := by
  by_cases hc : aCc a y
  · have hc2 := (JJ_cc h).mp hc
    rw [aCm_y hc, aCm_y hc2]
    obtain ⟨h1, h2, h3, h4, h5⟩ := h
    have tl := hc.2.2.2.2.1
    have e1 : (a 75 4 + 1).toInt = (a 75 4).toInt + 1 := i_p1 (by omega)
    refine ⟨fun c k q1 q2 q3 => ?_, ⟨?_, ?_, ?_⟩, fun k hk => ?_, fun k hk => ?_, ?_⟩
    · rw [xu_o (fun w => q1 w.1), xu_o (fun w => q2 w.1), xu_o (fun w => q3 w.1), xu_o (fun w => q1 w.1), xu_o (fun w => q2 w.1), xu_o (fun w => q3 w.1)]
      exact h1 c k q1 q2 q3
    · rw [xu_o (by omega), xu_o (by omega), xu_o (by omega), xu_o (by omega), xu_o (by omega), xu_o (by omega)]
      exact h2.1
    · rw [xu_s, xu_s, h2.2.1]
    · rw [xu_o (by omega), xu_o (by omega), xu_o (by omega), xu_o (by omega), xu_o (by omega), xu_o (by omega)]
      exact h2.2.2
    · rw [xu_o (by omega), xu_o (by omega), xu_o (c₉ := 75) (by omega), xu_o (c₉ := 76) (by omega)]
      by_cases w : k = y.toNatClampNeg
      · rw [w, xu_s, xu_s]
      · rw [xu_o (fun q => w q.2), xu_o (fun q => w q.2)]
        exact h3 k hk
    · rw [xu_s, e1] at hk
      rw [xu_o (by omega), xu_o (c₉ := 75) (by omega)]
      by_cases w : k = (a 75 4).toNatClampNeg
      · rw [w, xu_s, h2.2.1, xu_s]
      · rw [xu_o (fun q => w q.2), xu_o (by omega), xu_o (fun q => w (by rw [h2.2.1]; exact q.2)), xu_o (by omega)]
        have := tn_cast (x := a 75 4) (by omega)
        exact h4 k (by omega)
    · rw [xu_o (by omega), xu_o (by omega), xu_o (by omega)]
      exact h5
  · rw [aCm_n hc, aCm_n (fun w => hc ((JJ_cc h).mpr w))]
    exact h
theorem Of_ref (h : zOf a b) : aRef a m i = aRef b m i := by
  by_cases hm : 1000 + m = 75 ∨ 1000 + m = 76 ∨ 1000 + m = 77
  · omega
  · unfold aRef
    rw [h (1000 + m) _ (by omega) (by omega) (by omega), h 130 _ (by decide) (by decide) (by decide), h 71 _ (by decide) (by decide) (by decide)]
theorem JJ_cwf : ∀ (f : Nat) (i : Int32) (a b : Nat → Nat → Int32), zJJ a b → zJJ (aCwf m f i a) (aCwf m f i b) := by
  intro f
  induction f with
  | zero => intro i a b h; exact h
  | succ f ih =>
    intro i a b h
    show zJJ (aCwf m f (i + 1) (aCm a (aRef a m i))) (aCwf m f (i + 1) (aCm b (aRef b m i)))
    rw [Of_ref h.1]
    exact ih _ _ _ (JJ_cm h)
theorem JJ_pop (h : zJJ a b) (hl : (a 75 3).toInt < (a 75 4).toInt) (ht : (a 75 4).toInt ≤ 512) : zJJ (aPop a) (aPop b) := by
  have h5 := h.2.2.2.2
  have e0 := tn_cast h5
  have eq : a 76 (a 75 3).toNatClampNeg = b 76 (b 75 3).toNatClampNeg := by
    rw [← h.2.1.1]
    exact h.2.2.2.1 _ (by omega)
  have e1 : (a 75 3 + 1).toInt = (a 75 3).toInt + 1 := i_p1 (by omega)
  have step : zJJ (ma_u a 75 3 (a 75 3 + 1)) (ma_u b 75 3 (b 75 3 + 1)) := by
    obtain ⟨h1, h2, h3, h4, h5⟩ := h
    refine ⟨fun c k q1 q2 q3 => ?_, ⟨?_, ?_, ?_⟩, fun k hk => ?_, fun k hk => ?_, ?_⟩
    · rw [xu_o (fun w => q1 w.1), xu_o (fun w => q1 w.1)]
      exact h1 c k q1 q2 q3
    · rw [xu_s, xu_s, h2.1]
    · rw [xu_o (by omega), xu_o (by omega)]
      exact h2.2.1
    · rw [xu_o (by omega), xu_o (by omega)]
      exact h2.2.2
    · rw [xu_o (by omega), xu_o (by omega)]
      exact h3 k hk
    · rw [xu_o (by omega)] at hk
      rw [xu_o (by omega), xu_o (by omega)]
      exact h4 k hk
    · rw [xu_s, e1]
      omega
  have col : ∀ z, zJJ (ma_u (ma_u a 75 3 (a 75 3 + 1)) 77 z 2) (ma_u (ma_u b 75 3 (b 75 3 + 1)) 77 z 2) := by
    intro z
    obtain ⟨h1, h2, h3, h4, h5⟩ := step
    refine ⟨fun c k q1 q2 q3 => ?_, ⟨?_, ?_, ?_⟩, fun k hk => ?_, fun k hk => ?_, ?_⟩
    · rw [xu_o (fun w => q3 w.1), xu_o (c₉ := 77) (fun w => q3 w.1)]
      exact h1 c k q1 q2 q3
    · rw [xu_o (by omega), xu_o (c₉ := 77) (by omega)]
      exact h2.1
    · rw [xu_o (by omega), xu_o (c₉ := 77) (by omega)]
      exact h2.2.1
    · rw [xu_o (by omega), xu_o (c₉ := 77) (by omega)]
      exact h2.2.2
    · by_cases w : k = z
      · rw [w, xu_s, xu_s]
      · rw [xu_o (fun q => w q.2), xu_o (c₉ := 77) (fun q => w q.2)]
        exact h3 k hk
    · rw [xu_o (by omega)] at hk
      rw [xu_o (by omega), xu_o (c₉ := 77) (by omega)]
      exact h4 k hk
    · rw [xu_o (by omega)]
      exact h5
  unfold aPop
  rw [← eq, h.1 126 _ (by decide) (by decide) (by decide)]
  split
  · unfold aCw
    rw [(col _).1 128 _ (by decide) (by decide) (by decide)]
    exact JJ_cwf _ _ _ _ (col _)
  · exact step
end B8

/-! from 95.g27 -/
/-! the heap by numbers, the class (written by wip/tools/gen18.py) -/
section B9
variable {a b : Nat → Nat → Int32} {y n i : Int32} {m k c : Nat} {x : Int32}
def xTl (a : Nat → Nat → Int32) : Prop := (a 75 4).toInt ≤ 512
theorem tl_cm (h : xTl a) : xTl (aCm a y) := by
  by_cases hc : aCc a y
  · rw [aCm_y hc]
    unfold xTl
    rw [xu_s, i_p1 (by have := hc.2.2.2.2.1; omega)]
    have := hc.2.2.2.2.1
    omega
  · rw [aCm_n hc]
    exact h
theorem tl_cwf : ∀ (f : Nat) (i : Int32) (a : Nat → Nat → Int32), xTl a → xTl (aCwf m f i a) := by
  intro f
  induction f with
  | zero => intro i a h; exact h
  | succ f ih =>
    intro i a h
    exact ih _ _ (tl_cm h)
theorem tl_pop (h : xTl a) : xTl (aPop a) := by
  have s : xTl (ma_u a 75 3 (a 75 3 + 1)) := by
    unfold xTl
    rw [xu_o (by omega)]
    exact h
  unfold aPop
  split
  · refine tl_cwf _ _ _ ?_
    unfold xTl
    rw [xu_o (by omega)]
    exact s
  · exact s
theorem JJ_sp : ∀ (f : Nat) (a b : Nat → Nat → Int32), zJJ a b → xTl a → zJJ (aSp f a) (aSp f b) := by
  intro f
  induction f with
  | zero => intro a b h _; exact h
  | succ f ih =>
    intro a b h ht
    show zJJ (if (a 75 3).toInt < (a 75 4).toInt then aSp f (aPop a) else a) (if (b 75 3).toInt < (b 75 4).toInt then aSp f (aPop b) else b)
    rw [← h.2.1.1, ← h.2.1.2.1]
    by_cases hl : (a 75 3).toInt < (a 75 4).toInt
    · rw [if_pos hl, if_pos hl]
      exact ih _ _ (JJ_pop h hl ht) (tl_pop ht)
    · rw [if_neg hl, if_neg hl]
      exact h
theorem JJ_hf : ∀ (f : Nat) (n : Int32) (a b : Nat → Nat → Int32), zJJ a b → xTl a → zJJ (aHf f n a) (aHf f n b) ∧ xTl (aHf f n a) := by
  intro f
  induction f with
  | zero => intro n a b h t; exact ⟨h, t⟩
  | succ f ih =>
    intro n a b h t
    show zJJ (aHf f (n + 1) (if 0 ≤ n.toInt ∧ n.toInt < 512 ∧ a 126 n.toNatClampNeg ≠ 0 ∧ 0 < (a 133 n.toNatClampNeg).toInt then aCm a n else a)) (aHf f (n + 1) (if 0 ≤ n.toInt ∧ n.toInt < 512 ∧ b 126 n.toNatClampNeg ≠ 0 ∧ 0 < (b 133 n.toNatClampNeg).toInt then aCm b n else b)) ∧ xTl (aHf f (n + 1) (if 0 ≤ n.toInt ∧ n.toInt < 512 ∧ a 126 n.toNatClampNeg ≠ 0 ∧ 0 < (a 133 n.toNatClampNeg).toInt then aCm a n else a))
    rw [← h.1 126 _ (by decide) (by decide) (by decide), ← h.1 133 _ (by decide) (by decide) (by decide)]
    split
    · exact ih _ _ _ (JJ_cm h) (tl_cm t)
    · exact ih _ _ _ h t
theorem JJ_wf : ∀ (f : Nat) (n : Int32) (a b : Nat → Nat → Int32), zJJ a b → xTl a → zJJ (aWf f n a) (aWf f n b) ∧ xTl (aWf f n a) := by
  intro f
  induction f with
  | zero =>
    intro n a b h t
    show zJJ (aHo a 0) (aHo b 0) ∧ xTl (aHo a 0)
    unfold aHo
    rw [← h.1 69 6 (by decide) (by decide) (by decide)]
    exact JJ_hf _ _ _ _ h t
  | succ f ih =>
    intro n a b h t
    show zJJ (aWf f (n + 1) (aCm a (a 74 n.toNatClampNeg))) (aWf f (n + 1) (aCm b (b 74 n.toNatClampNeg))) ∧ xTl (aWf f (n + 1) (aCm a (a 74 n.toNatClampNeg)))
    rw [← h.1 74 _ (by decide) (by decide) (by decide)]
    exact ih _ _ _ (JJ_cm h) (tl_cm t)
theorem JJ_rf : ∀ (f : Nat) (n : Int32) (a b : Nat → Nat → Int32), zJJ a b → xTl a → zJJ (aRf f n a) (aRf f n b) ∧ xTl (aRf f n a) := by
  intro f
  induction f with
  | zero =>
    intro n a b h t
    show zJJ (aWi a 0) (aWi b 0) ∧ xTl (aWi a 0)
    unfold aWi
    rw [← h.1 69 5 (by decide) (by decide) (by decide)]
    exact JJ_wf _ _ _ _ h t
  | succ f ih =>
    intro n a b h t
    show zJJ (aRf f (n + 1) (aCm a (a 72 n.toNatClampNeg))) (aRf f (n + 1) (aCm b (b 72 n.toNatClampNeg))) ∧ xTl (aRf f (n + 1) (aCm a (a 72 n.toNatClampNeg)))
    rw [← h.1 72 _ (by decide) (by decide) (by decide)]
    exact ih _ _ _ (JJ_cm h) (tl_cm t)
theorem JJ_wh (h : zOf a b) : zJJ (aWh a 0) (aWh b 0) ∧ xTl (aWh a 0) := by
  have r3 : ∀ q : Nat → Nat → Int32, aWh q 0 75 3 = 0 := fun q => by
    unfold aWh
    rw [xu_o (by omega), xu_o (by omega), xu_s]
  have r4 : ∀ q : Nat → Nat → Int32, aWh q 0 75 4 = 0 := fun q => by
    unfold aWh
    rw [xu_o (by omega), xu_s]
  have r5 : ∀ q : Nat → Nat → Int32, aWh q 0 75 5 = 0 := fun q => by
    unfold aWh
    rw [xu_s]
  have ro : ∀ (q : Nat → Nat → Int32) c k, c ≠ 75 → aWh q 0 c k = zFl q 77 0 512 c k := fun q c k w => by
    unfold aWh
    rw [xu_o (fun z => w z.1), xu_o (fun z => w z.1), xu_o (fun z => w z.1)]
  refine ⟨⟨fun c k q1 q2 q3 => ?_, ⟨?_, ?_, ?_⟩, fun k hk => ?_, fun k hk => ?_, ?_⟩, ?_⟩
  · rw [ro _ _ _ q1, ro _ _ _ q1]
    unfold zFl
    rw [if_neg (fun z => q3 z.1), if_neg (fun z => q3 z.1)]
    exact h c k q1 q2 q3
  · rw [r3, r3]
  · rw [r4, r4]
  · rw [r5, r5]
  · rw [ro _ _ _ (by decide), ro _ _ _ (by decide)]
    unfold zFl
    rw [if_pos ⟨rfl, by omega⟩, if_pos ⟨rfl, by omega⟩]
  · rw [r4] at hk
    have : (0 : Int32).toInt = 0 := rfl
    omega
  · rw [r3]
    decide
  · unfold xTl
    rw [r4]
    decide
theorem Of_RA (h : zOf a b) : zJJ (aRA a) (aRA b) := by
  have w := JJ_wh h
  have r := JJ_rf (16 - (0 : Int32).toInt).toNat 0 _ _ w.1 w.2
  exact JJ_sp 512 _ _ r.1 r.2
theorem Of_Rq (h : zOf a b) : zRq a n ↔ zRq b n := by
  unfold zRq
  rw [h 126 _ (by decide) (by decide) (by decide)]
  constructor
  · intro w
    have := tn_cast w.1
    rw [← (Of_RA h).2.2.1 _ (by omega)]
    exact w
  · intro w
    have := tn_cast w.1
    rw [(Of_RA h).2.2.1 _ (by omega)]
    exact w
theorem Of_S {S : ma_S} : zOf (aS 75 S) (aS 88 S) := fun _ _ h1 h2 h3 => aS_W ⟨h1, h2, h3⟩
theorem Rq_S {S : ma_S} : zRq (aS 75 S) n ↔ zRq (aS 88 S) n := Of_Rq Of_S
end B9
/-! THE CALLS -/
def zHw (a : Nat → Nat → Int32) (n i : Int32) : Prop := 0 ≤ i.toInt ∧ i.toInt < (a 128 n.toNatClampNeg).toInt - 1
def zIr (a : Nat → Nat → Int32) (n i : Int32) : Prop := a (1000 + n.toNatClampNeg) i.toNatClampNeg ≠ 0
section B10
variable {a : Nat → Nat → Int32} {n i y : Int32} {S S1 : ma_S} {R : zRT} {c : Nat}
theorem rq_up (h : zRq (aS 75 S) n) (e : aS 88 S = a) : zRq a n := by
  rw [← e]
  exact Rq_S.mp h
theorem rq_no (h : ¬ zRq (aS 75 S) n) (e : aS 88 S = a) : ¬ zRq a n := by
  rw [← e]
  exact fun w => h (Rq_S.mpr w)
theorem ir_y (hC : xB S R) (rg : zTa R n = some c) (e : aS 88 S = a) (hi : 0 ≤ i.toInt) (hb : ¬ lg_cmp (((mL S c 3).toUInt64 >>> (i.toInt64.toUInt64 &&& Int64.toUInt64 63)).toInt64 &&& (1 : Int64)) (0 : Int64) = 0) : zIr a n i := by
  unfold zIr
  rw [← e, rf_bit hC rg hi]
  unfold zbit
  rw [if_neg hb]
  decide
theorem ir_n (hC : xB S R) (rg : zTa R n = some c) (e : aS 88 S = a) (hi : 0 ≤ i.toInt) (hb : lg_cmp (((mL S c 3).toUInt64 >>> (i.toInt64.toUInt64 &&& Int64.toUInt64 63)).toInt64 &&& (1 : Int64)) (0 : Int64) = 0) : ¬ zIr a n i := by
  unfold zIr
  rw [← e, rf_bit hC rg hi]
  unfold zbit
  rw [if_pos hb]
  exact fun w => w rfl
end B10
theorem g_151_64_s_0 {X : Nat × (Nat → Int32)} {d w : Nat} {S : ma_S} {Q : Option ma_V ⊕ Nat → ma_S → Prop} (n : Int32) (hd : 7 ≤ d) (hw : 111 ≤ w) (hS : zT S) (h : if n = (-1 : Int32) then (Q (.inl (some (.inr (.inr none)))) S) else (ma_wp X (d - 1) (w - 22) 149 0 [(0, .inr (.inr (some 64))), (1, .inl n)] [] S (zo (fun v2 S1 => zT S1 ∧ ((∃ c3, v2 = some c3 ∧ (Q (.inl (some (.inr (.inr (some c3))))) S1)))) (fun x S9 => Q (.inr x) S9)))) : ma_wp X d w 151 0 [(0, .inr (.inr (some 64))), (1, .inl n)] [] S Q := by
  refine zw_push hm_151 dX11_needReachedOrNothing_0 (v := .inl n) rfl ?_
  refine zw_push hm_151 dX11_needReachedOrNothing_1 (v := .inl (-1 : Int32)) rfl ?_
  refine zw_if2 hm_151 dX11_needReachedOrNothing_2 (t := 9) rfl zc2_ne ?_ ?_
  · intro hc
    rw [if_neg hc] at h
    refine zw_push hm_151 dX11_needReachedOrNothing_9 (v := .inr (.inr (some 64))) rfl ?_
    refine zw_push hm_151 dX11_needReachedOrNothing_10 (v := .inl n) rfl ?_
    refine zw_cv hm_151 dX11_needReachedOrNothing_11 v_11_123_11 hm_149 [.inl n] [] rfl (zT_rt hS s_64 rfl) ⟨by omega, by omega⟩ rfl (zw_mono h (zo_go ?_ ?_))
    · intro v2 S1 hv
      obtain ⟨hS1, h⟩ := hv
      obtain ⟨c3, hc, h⟩ := h
      subst hc
      show ma_wp X d w 151 14 [(0, .inr (.inr (some 64))), (1, .inl n)] [.inr (.inr (some c3))] S1 _
      exact zw_aret hm_151 dX11_needReachedOrNothing_14 h
    · intro x S9 hx
      exact ⟨by decide, hx⟩
  · intro hc
    rw [if_pos (Classical.not_not.mp hc)] at h
    refine zw_push hm_151 dX11_needReachedOrNothing_5 (v := .inr (.inr none)) rfl ?_
    refine zw_goto hm_151 dX11_needReachedOrNothing_6 (t := 14) rfl ?_
    exact zw_aret hm_151 dX11_needReachedOrNothing_14 h
theorem sp_151_64_s {X : Nat × (Nat → Int32)} {d w : Nat} {f : Nat → Nat → Int32} {r : Nat → Nat → Option Nat} {C Z N : Nat} {Q : Option ma_V ⊕ Nat → ma_S → Prop} {R : zRT} {a7 : Nat→Nat→Int32} {a8 : Nat→Nat→Int32} {S : ma_S} (n : Int32) (hd : 7 ≤ d) (hw : 111 ≤ w) (hI : zI f r C Z N S) (hpre0 : xB S R) (hpre1 : aS 75 S = a7) (hpre2 : aS 88 S = a8) (K : ∀ v S₉, zI f r C Z N S₉ → (∀ c, v = some c → 126 ≤ c ∧ c < N) → (xB S₉ R) → (aS 88 S₉ = a8) → (v = zTa R n) → (n = -1 ∨ zRq a7 n) → Q (.inl (some (.inr (.inr v)))) S₉) (KX : ∀ x S₉, (x = 4) → zI f r C Z N S₉ → (xB S₉ R) → (aS 88 S₉ = a8) → (x = 4 ∧ n ≠ -1 ∧ ¬ zRq a7 n) → Q (.inr x) (ma_bump S₉)) : ma_wp X d w 151 0 [(0, .inr (.inr (some 64))), (1, .inl n)] [] S Q := by
  refine g_151_64_s_0 n (by omega) (by omega) (zG_T hI) ?_
  have b1 := i_bd n
  have li2 : (-1 : Int32).toInt = -1 := rfl
  refine zd (fun h3 => ?_) (fun h3 => ?_)
  · skip
    have g4 := i_eq h3
    exact K (none) _ hI (fun _ z => by cases z) (show xB S R from by first | (exact (xC_o (W := 75) hpre0).2)) (show aS 88 S = a8 from by first | (exact (xC_o (W := 88) hpre0).1.trans hpre2)) (show none = zTa R n from by first | (rw [show n = -1 from by assumption]; exact ta_m1)) (show n = -1 ∨ zRq a7 n from by first | (exact Or.inl (by assumption)))
  · skip
    have g5 := i_ne h3
    refine sp_149_64_s (R := R) (a7 := (aS 75 S)) (a8 := a8) (n) (by omega) (by omega) hI (show xB S R from by first | (exact (xC_o (W := 75) hpre0).2)) (show aS 75 S = (aS 75 S) from by first | (exact rfl)) (show aS 88 S = a8 from by first | (exact (xC_o (W := 88) hpre0).1.trans hpre2)) (fun v2 S1 hI_S1 hq_v2 rp0_S1 rp1_S1 rp2_S1 rp3_S1 => zo_n ⟨zG_T hI_S1, ?_⟩) (fun x S9 hx h9 rx0 rx1 rx2 => by have h9u := h9; exact zo_x (KX x S9 (by omega) h9u (show xB S9 R from by first | (exact (xC_o (W := 75) rx0).2)) (show aS 88 S9 = a8 from by first | (exact (xC_o (W := 88) rx0).1.trans rx1)) (show x = 4 ∧ n ≠ -1 ∧ ¬ zRq a7 n from by first | (exact ⟨rx2.1, by assumption, hpre1 ▸ rx2.2⟩))))
    have rp0_S1 : xB S1 R := rp0_S1
    have rp1_S1 : aS 88 S1 = a8 := rp1_S1
    have rp2_S1 : v2 = zTa R n := rp2_S1
    have rp3_S1 : zRq (aS 75 S) n := rp3_S1
    obtain ⟨c3, hc, th_c3⟩ := hq_v2
    have rg_c3 : zTa R n = some c3 := rp2_S1.symm.trans hc
    refine ⟨c3, hc, ?_⟩
    exact K ((some c3)) _ hI_S1 (fun _ z => by cases z; exact th_c3) (show xB S1 R from by first | (exact (xC_o (W := 75) rp0_S1).2)) (show aS 88 S1 = a8 from by first | (exact (xC_o (W := 88) rp0_S1).1.trans rp1_S1)) (show (some c3) = zTa R n from by first | (exact rg_c3.symm)) (show n = -1 ∨ zRq a7 n from by first | (rw [hpre1] at *; exact Or.inr rp3_S1) | (exact Or.inr (hpre1 ▸ rp3_S1)))

/-! from 95.g28 -/
/-! the heap by numbers, the class (written by wip/tools/gen18.py) -/
theorem g_148_64_s_p87_0 {X : Nat × (Nat → Int32)} {d w : Nat} {S : ma_S} {Q : Option ma_V ⊕ Nat → ma_S → Prop} (o : Int32) (i : Int32) (x : Int32) (hd : 7 ≤ d) (hw : 111 ≤ w) (hS : zT S) (h : mR S 64 11 = some 87 ∧ (mR S 64 11 = some 87 ∧ (ma_wp X (d - 1) (w - 22) 149 0 [(0, .inr (.inr (some 64))), (1, .inl o)] [] S (zo (fun v2 S1 => zT S1 ∧ ((∃ c3, v2 = some c3 ∧ ((126 ≤ c3 ∧ c3 < mN S1) ∧ (if i < 0 then (Q (.inr 1) (ma_bump S1)) else ((126 ≤ c3 ∧ c3 < mN S1) ∧ (if ((mI S1 c3 2) - (1 : Int32)) ≤ i then (Q (.inr 1) (ma_bump S1)) else ((126 ≤ c3 ∧ c3 < mN S1) ∧ ((126 ≤ c3 ∧ c3 < mN S1) ∧ (if i < 0 then (ma_wp X (d - 1) (w - 25) 95 0 [(0, .inr (.inr (some 69))), (1, .inr (.inr (some c3))), (2, .inl i), (3, .inl x)] [] S1 (zi (fun v5 S4 => zT S4 ∧ (Q (.inl (some (.inl v5))) S4)) (fun x S9 => Q (.inr x) S9))) else ((126 ≤ c3 ∧ c3 < mN S1) ∧ (if ((mI S1 c3 2) - (1 : Int32)) ≤ i then (ma_wp X (d - 1) (w - 25) 95 0 [(0, .inr (.inr (some 69))), (1, .inr (.inr (some c3))), (2, .inl i), (3, .inl x)] [] S1 (zi (fun v7 S6 => zT S6 ∧ (Q (.inl (some (.inl v7))) S6)) (fun x S9 => Q (.inr x) S9))) else ((126 ≤ c3 ∧ c3 < mN S1) ∧ (if (lg_cmp ((((mL S1 c3 3).toUInt64 >>> (i.toInt64.toUInt64 &&& Int64.toUInt64 63)).toInt64) &&& (1 : Int64)) (0 : Int64)) = 0 then (ma_wp X (d - 1) (w - 25) 95 0 [(0, .inr (.inr (some 69))), (1, .inr (.inr (some c3))), (2, .inl i), (3, .inl x)] [] S1 (zi (fun v9 S8 => zT S8 ∧ (Q (.inl (some (.inl v9))) S8)) (fun x S9 => Q (.inr x) S9))) else (Q (.inr 5) (ma_bump S1)))))))))))))))) (fun x S9 => Q (.inr x) S9))))) : ma_wp X d w 148 0 [(0, .inr (.inr (some 64))), (1, .inl o), (2, .inl i), (3, .inl x)] [] S Q := by
  refine zw_push hm_148 dX11_put_0 (v := .inr (.inr (some 64))) rfl ?_
  refine zw_cv hm_148 dX11_put_1 v_11_119_11 hm_144 [] [] rfl (zT_rt hS s_64 rfl) ⟨by omega, by omega⟩ rfl ?_
  show ma_wp X (d - 1) (w - 20) 144 0 [(0, .inr (.inr (some 64)))] [] S _
  refine zw_push hm_144 dX11_needCollector_0 (v := .inr (.inr (some 64))) rfl ?_
  obtain ⟨hg, h⟩ := h
  refine zw_gf hm_144 dX11_needCollector_1 (v := .inr (.inr (some 87))) (zT_is hS s_64) (zT_t hS s_64) rfl f_11_98_11 (congrArg (fun z => Sum.inr (Sum.inr z)) hg) ?_
  refine zw_ifnonnull hm_144 dX11_needCollector_4 (t := 15) rfl (fun z => by cases z) (fun _ _ => ?_)
  refine zw_push hm_144 dX11_needCollector_15 (v := .inr (.inr (some 64))) rfl ?_
  obtain ⟨hg, h⟩ := h
  refine zw_gf hm_144 dX11_needCollector_16 (v := .inr (.inr (some 87))) (zT_is hS s_64) (zT_t hS s_64) rfl f_11_98_11 (congrArg (fun z => Sum.inr (Sum.inr z)) hg) ?_
  refine zw_aret hm_144 dX11_needCollector_19 ?_
  show ma_wp X d w 148 4 [(0, .inr (.inr (some 64))), (1, .inl o), (2, .inl i), (3, .inl x)] [.inr (.inr (some 87))] S _
  refine zw_stk hm_148 dX11_put_4 (st₉ := []) rfl rfl ?_
  refine zw_push hm_148 dX11_put_5 (v := .inr (.inr (some 64))) rfl ?_
  refine zw_push hm_148 dX11_put_6 (v := .inl o) rfl ?_
  refine zw_cv hm_148 dX11_put_7 v_11_123_11 hm_149 [.inl o] [] rfl (zT_rt hS s_64 rfl) ⟨by omega, by omega⟩ rfl (zw_mono h (zo_go ?_ ?_))
  · intro v2 S1 hv
    obtain ⟨hS1, h⟩ := hv
    obtain ⟨c3, hc, h⟩ := h
    subst hc
    show ma_wp X d w 148 10 [(0, .inr (.inr (some 64))), (1, .inl o), (2, .inl i), (3, .inl x)] [.inr (.inr (some c3))] S1 _
    refine zw_sto hm_148 dX11_put_10 [(4, .inr (.inr (some c3))), (0, .inr (.inr (some 64))), (1, .inl o), (2, .inl i), (3, .inl x)] rfl rfl rfl ?_
    refine zw_push hm_148 dX11_put_12 (v := .inr (.inr (some c3))) rfl ?_
    refine zw_push hm_148 dX11_put_14 (v := .inl i) rfl ?_
    obtain ⟨hg, h⟩ := h
    refine zw_cv hm_148 dX11_put_15 v_11_127_9 hm_114 [.inl i] [] rfl (zT_trt hS1 hg) ⟨by omega, by omega⟩ rfl ?_
    show ma_wp X (d - 1) (w - 21) 114 0 [(0, .inr (.inr (some c3))), (1, .inl i)] [] S1 _
    refine zw_push hm_114 dX9_hasWord_0 (v := .inl i) rfl ?_
    refine zw_if0 hm_114 dX9_hasWord_1 (t := 18) rfl zc0_lt ?_ ?_
    · intro hc
      rw [if_pos hc] at h
      refine zw_push hm_114 dX9_hasWord_18 (v := .inl (0 : Int32)) rfl ?_
      refine zw_bret hm_114 dX9_hasWord_19 (by decide) ?_
      show ma_wp X d w 148 18 [(4, .inr (.inr (some c3))), (0, .inr (.inr (some 64))), (1, .inl o), (2, .inl i), (3, .inl x)] [.inl (0 : Int32)] S1 _
      refine zw_if0 hm_148 dX11_put_18 (t := 29) rfl zc0_ne (fun hc => absurd hc (by decide)) (fun _ => ?_)
      exact zw_thr hm_148 dX11_put_21 dX11_put_24 dX11_put_25 dX11_put_28 x_11_72_74 n_11_72 (by omega) (by show 0 + 81 ≤ w; omega) h
    · intro hc
      rw [if_neg hc] at h
      refine zw_push hm_114 dX9_hasWord_4 (v := .inl i) rfl ?_
      refine zw_push hm_114 dX9_hasWord_5 (v := .inr (.inr (some c3))) rfl ?_
      obtain ⟨hg, h⟩ := h
      refine zw_gf hm_114 dX9_hasWord_6 (v := .inl (mI S1 c3 2)) (zT_tis hS1 hg) (zT_tt hS1 hg) rfl f_9_16_9 rfl ?_
      refine zw_push hm_114 dX9_hasWord_9 (v := .inl (1 : Int32)) rfl ?_
      refine zw_stk hm_114 dX9_hasWord_10 (st₉ := [.inl ((mI S1 c3 2) - (1 : Int32)), .inl i]) rfl rfl ?_
      refine zw_if2 hm_114 dX9_hasWord_11 (t := 18) rfl zc2_ge ?_ ?_
      · intro hc
        rw [if_pos hc] at h
        refine zw_push hm_114 dX9_hasWord_18 (v := .inl (0 : Int32)) rfl ?_
        refine zw_bret hm_114 dX9_hasWord_19 (by decide) ?_
        show ma_wp X d w 148 18 [(4, .inr (.inr (some c3))), (0, .inr (.inr (some 64))), (1, .inl o), (2, .inl i), (3, .inl x)] [.inl (0 : Int32)] S1 _
        refine zw_if0 hm_148 dX11_put_18 (t := 29) rfl zc0_ne (fun hc => absurd hc (by decide)) (fun _ => ?_)
        exact zw_thr hm_148 dX11_put_21 dX11_put_24 dX11_put_25 dX11_put_28 x_11_72_74 n_11_72 (by omega) (by show 0 + 81 ≤ w; omega) h
      · intro hc
        rw [if_neg hc] at h
        refine zw_push hm_114 dX9_hasWord_14 (v := .inl (1 : Int32)) rfl ?_
        refine zw_goto hm_114 dX9_hasWord_15 (t := 19) rfl ?_
        refine zw_bret hm_114 dX9_hasWord_19 (by decide) ?_
        show ma_wp X d w 148 18 [(4, .inr (.inr (some c3))), (0, .inr (.inr (some 64))), (1, .inl o), (2, .inl i), (3, .inl x)] [.inl (1 : Int32)] S1 _
        refine zw_if0 hm_148 dX11_put_18 (t := 29) rfl zc0_ne (fun _ => ?_) (fun hc => absurd (by decide) hc)
        refine zw_push hm_148 dX11_put_29 (v := .inr (.inr (some c3))) rfl ?_
        refine zw_push hm_148 dX11_put_31 (v := .inl i) rfl ?_
        obtain ⟨hg, h⟩ := h
        refine zw_cv hm_148 dX11_put_32 v_11_132_9 hm_113 [.inl i] [] rfl (zT_trt hS1 hg) ⟨by omega, by omega⟩ rfl ?_
        show ma_wp X (d - 1) (w - 21) 113 0 [(0, .inr (.inr (some c3))), (1, .inl i)] [] S1 _
        refine zw_push hm_113 dX9_isReference_0 (v := .inr (.inr (some c3))) rfl ?_
        refine zw_push hm_113 dX9_isReference_1 (v := .inl i) rfl ?_
        obtain ⟨hg, h⟩ := h
        refine zw_cv hm_113 dX9_isReference_2 v_9_26_9 hm_114 [.inl i] [] rfl (zT_trt hS1 hg) ⟨by omega, by omega⟩ rfl ?_
        show ma_wp X ((d - 1) - 1) ((w - 21) - 21) 114 0 [(0, .inr (.inr (some c3))), (1, .inl i)] [] S1 _
        refine zw_push hm_114 dX9_hasWord_0 (v := .inl i) rfl ?_
        refine zw_if0 hm_114 dX9_hasWord_1 (t := 18) rfl zc0_lt ?_ ?_
        · intro hc
          rw [if_pos hc] at h
          refine zw_push hm_114 dX9_hasWord_18 (v := .inl (0 : Int32)) rfl ?_
          refine zw_bret hm_114 dX9_hasWord_19 (by decide) ?_
          show ma_wp X (d - 1) (w - 21) 113 5 [(0, .inr (.inr (some c3))), (1, .inl i)] [.inl (0 : Int32)] S1 _
          refine zw_if0 hm_113 dX9_isReference_5 (t := 25) rfl zc0_eq (fun _ => ?_) (fun hc => absurd (by decide) hc)
          refine zw_push hm_113 dX9_isReference_25 (v := .inl (0 : Int32)) rfl ?_
          refine zw_bret hm_113 dX9_isReference_26 (by decide) ?_
          show ma_wp X d w 148 35 [(4, .inr (.inr (some c3))), (0, .inr (.inr (some 64))), (1, .inl o), (2, .inl i), (3, .inl x)] [.inl (0 : Int32)] S1 _
          refine zw_if0 hm_148 dX11_put_35 (t := 46) rfl zc0_eq (fun _ => ?_) (fun hc => absurd (by decide) hc)
          refine zw_push hm_148 dX11_put_46 (v := .inr (.inr (some 64))) rfl ?_
          refine zw_gf hm_148 dX11_put_47 (v := .inr (.inr (some 69))) (zT_is hS1 s_64) (zT_t hS1 s_64) rfl f_11_26_11 (zT_f hS1 r_64_8) ?_
          refine zw_push hm_148 dX11_put_50 (v := .inr (.inr (some c3))) rfl ?_
          refine zw_push hm_148 dX11_put_52 (v := .inl i) rfl ?_
          refine zw_push hm_148 dX11_put_53 (v := .inl x) rfl ?_
          refine zw_cv hm_148 dX11_put_54 v_11_138_7 hm_95 [.inl x, .inl i, .inr (.inr (some c3))] [] rfl (zT_rt hS1 s_69 rfl) ⟨by omega, by omega⟩ rfl (zw_mono h (zi_go ?_ ?_))
          · intro v5 S4 hv
            obtain ⟨hS4, h⟩ := hv
            exact zw_iret hm_148 dX11_put_57 h
          · intro x S9 hx
            exact ⟨by decide, hx⟩
        · intro hc
          rw [if_neg hc] at h
          refine zw_push hm_114 dX9_hasWord_4 (v := .inl i) rfl ?_
          refine zw_push hm_114 dX9_hasWord_5 (v := .inr (.inr (some c3))) rfl ?_
          obtain ⟨hg, h⟩ := h
          refine zw_gf hm_114 dX9_hasWord_6 (v := .inl (mI S1 c3 2)) (zT_tis hS1 hg) (zT_tt hS1 hg) rfl f_9_16_9 rfl ?_
          refine zw_push hm_114 dX9_hasWord_9 (v := .inl (1 : Int32)) rfl ?_
          refine zw_stk hm_114 dX9_hasWord_10 (st₉ := [.inl ((mI S1 c3 2) - (1 : Int32)), .inl i]) rfl rfl ?_
          refine zw_if2 hm_114 dX9_hasWord_11 (t := 18) rfl zc2_ge ?_ ?_
          · intro hc
            rw [if_pos hc] at h
            refine zw_push hm_114 dX9_hasWord_18 (v := .inl (0 : Int32)) rfl ?_
            refine zw_bret hm_114 dX9_hasWord_19 (by decide) ?_
            show ma_wp X (d - 1) (w - 21) 113 5 [(0, .inr (.inr (some c3))), (1, .inl i)] [.inl (0 : Int32)] S1 _
            refine zw_if0 hm_113 dX9_isReference_5 (t := 25) rfl zc0_eq (fun _ => ?_) (fun hc => absurd (by decide) hc)
            refine zw_push hm_113 dX9_isReference_25 (v := .inl (0 : Int32)) rfl ?_
            refine zw_bret hm_113 dX9_isReference_26 (by decide) ?_
            show ma_wp X d w 148 35 [(4, .inr (.inr (some c3))), (0, .inr (.inr (some 64))), (1, .inl o), (2, .inl i), (3, .inl x)] [.inl (0 : Int32)] S1 _
            refine zw_if0 hm_148 dX11_put_35 (t := 46) rfl zc0_eq (fun _ => ?_) (fun hc => absurd (by decide) hc)
            refine zw_push hm_148 dX11_put_46 (v := .inr (.inr (some 64))) rfl ?_
            refine zw_gf hm_148 dX11_put_47 (v := .inr (.inr (some 69))) (zT_is hS1 s_64) (zT_t hS1 s_64) rfl f_11_26_11 (zT_f hS1 r_64_8) ?_
            refine zw_push hm_148 dX11_put_50 (v := .inr (.inr (some c3))) rfl ?_
            refine zw_push hm_148 dX11_put_52 (v := .inl i) rfl ?_
            refine zw_push hm_148 dX11_put_53 (v := .inl x) rfl ?_
            refine zw_cv hm_148 dX11_put_54 v_11_138_7 hm_95 [.inl x, .inl i, .inr (.inr (some c3))] [] rfl (zT_rt hS1 s_69 rfl) ⟨by omega, by omega⟩ rfl (zw_mono h (zi_go ?_ ?_))
            · intro v7 S6 hv
              obtain ⟨hS6, h⟩ := hv
              exact zw_iret hm_148 dX11_put_57 h
            · intro x S9 hx
              exact ⟨by decide, hx⟩
          · intro hc
            rw [if_neg hc] at h
            refine zw_push hm_114 dX9_hasWord_14 (v := .inl (1 : Int32)) rfl ?_
            refine zw_goto hm_114 dX9_hasWord_15 (t := 19) rfl ?_
            refine zw_bret hm_114 dX9_hasWord_19 (by decide) ?_
            show ma_wp X (d - 1) (w - 21) 113 5 [(0, .inr (.inr (some c3))), (1, .inl i)] [.inl (1 : Int32)] S1 _
            refine zw_if0 hm_113 dX9_isReference_5 (t := 25) rfl zc0_eq (fun hc => absurd hc (by decide)) (fun _ => ?_)
            refine zw_push hm_113 dX9_isReference_8 (v := .inr (.inr (some c3))) rfl ?_
            obtain ⟨hg, h⟩ := h
            refine zw_gf hm_113 dX9_isReference_9 (v := .inr (.inl (mL S1 c3 3))) (zT_tis hS1 hg) (zT_tt hS1 hg) rfl f_9_19_9 rfl ?_
            refine zw_push hm_113 dX9_isReference_12 (v := .inl i) rfl ?_
            refine zw_stk hm_113 dX9_isReference_13 (st₉ := [.inr (.inl (((mL S1 c3 3).toUInt64 >>> (i.toInt64.toUInt64 &&& Int64.toUInt64 63)).toInt64))]) rfl rfl ?_
            refine zw_push hm_113 dX9_isReference_14 (v := .inr (.inl (1 : Int64))) rfl ?_
            refine zw_stk hm_113 dX9_isReference_15 (st₉ := [.inr (.inl ((((mL S1 c3 3).toUInt64 >>> (i.toInt64.toUInt64 &&& Int64.toUInt64 63)).toInt64) &&& (1 : Int64)))]) rfl rfl ?_
            refine zw_push hm_113 dX9_isReference_16 (v := .inr (.inl (0 : Int64))) rfl ?_
            refine zw_stk hm_113 dX9_isReference_17 (st₉ := [.inl (lg_cmp ((((mL S1 c3 3).toUInt64 >>> (i.toInt64.toUInt64 &&& Int64.toUInt64 63)).toInt64) &&& (1 : Int64)) (0 : Int64))]) rfl rfl ?_
            refine zw_if0 hm_113 dX9_isReference_18 (t := 25) rfl zc0_eq ?_ ?_
            · intro hc
              rw [if_pos hc] at h
              refine zw_push hm_113 dX9_isReference_25 (v := .inl (0 : Int32)) rfl ?_
              refine zw_bret hm_113 dX9_isReference_26 (by decide) ?_
              show ma_wp X d w 148 35 [(4, .inr (.inr (some c3))), (0, .inr (.inr (some 64))), (1, .inl o), (2, .inl i), (3, .inl x)] [.inl (0 : Int32)] S1 _
              refine zw_if0 hm_148 dX11_put_35 (t := 46) rfl zc0_eq (fun _ => ?_) (fun hc => absurd (by decide) hc)
              refine zw_push hm_148 dX11_put_46 (v := .inr (.inr (some 64))) rfl ?_
              refine zw_gf hm_148 dX11_put_47 (v := .inr (.inr (some 69))) (zT_is hS1 s_64) (zT_t hS1 s_64) rfl f_11_26_11 (zT_f hS1 r_64_8) ?_
              refine zw_push hm_148 dX11_put_50 (v := .inr (.inr (some c3))) rfl ?_
              refine zw_push hm_148 dX11_put_52 (v := .inl i) rfl ?_
              refine zw_push hm_148 dX11_put_53 (v := .inl x) rfl ?_
              refine zw_cv hm_148 dX11_put_54 v_11_138_7 hm_95 [.inl x, .inl i, .inr (.inr (some c3))] [] rfl (zT_rt hS1 s_69 rfl) ⟨by omega, by omega⟩ rfl (zw_mono h (zi_go ?_ ?_))
              · intro v9 S8 hv
                obtain ⟨hS8, h⟩ := hv
                exact zw_iret hm_148 dX11_put_57 h
              · intro x S9 hx
                exact ⟨by decide, hx⟩
            · intro hc
              rw [if_neg hc] at h
              refine zw_push hm_113 dX9_isReference_21 (v := .inl (1 : Int32)) rfl ?_
              refine zw_goto hm_113 dX9_isReference_22 (t := 26) rfl ?_
              refine zw_bret hm_113 dX9_isReference_26 (by decide) ?_
              show ma_wp X d w 148 35 [(4, .inr (.inr (some c3))), (0, .inr (.inr (some 64))), (1, .inl o), (2, .inl i), (3, .inl x)] [.inl (1 : Int32)] S1 _
              refine zw_if0 hm_148 dX11_put_35 (t := 46) rfl zc0_eq (fun hc => absurd hc (by decide)) (fun _ => ?_)
              exact zw_thr hm_148 dX11_put_38 dX11_put_41 dX11_put_42 dX11_put_45 x_11_135_137 n_11_135 (by omega) (by show 0 + 81 ≤ w; omega) h
  · intro x S9 hx
    exact ⟨by decide, hx⟩
theorem sp_148_64_s_p87 {X : Nat × (Nat → Int32)} {d w : Nat} {f : Nat → Nat → Int32} {r : Nat → Nat → Option Nat} {C Z N : Nat} {Q : Option ma_V ⊕ Nat → ma_S → Prop} {ab : Nat→Nat→Int32} {S : ma_S} (o : Int32) (i : Int32) (x : Int32) (hd : 7 ≤ d) (hw : 111 ≤ w) (hI : zB f r C Z N S) (hr : r 64 11 = some 87) (hpre0 : xB S (mR S 70)) (hpre1 : aS 88 S = ab) (K : ∀ v S₉, zB f r C Z N S₉ → (True) → (xB S₉ (mR S₉ 70)) → (zRq ab o ∧ zHw ab o i ∧ ¬ zIr ab o i ∧ aS 88 S₉ = aCi ab o.toNatClampNeg i x ∧ v = aWo ab o.toNatClampNeg i) → Q (.inl (some (.inl v))) S₉) (KX : ∀ x S₉, (x = 1 ∨ x = 4 ∨ x = 5) → zB f r C Z N S₉ → (xB S₉ (mR S₉ 70)) → (aS 88 S₉ = ab) → ((x = 4 ∧ ¬ zRq ab o) ∨ (x = 1 ∧ zRq ab o ∧ ¬ zHw ab o i) ∨ (x = 5 ∧ zRq ab o ∧ zHw ab o i ∧ zIr ab o i)) → Q (.inr x) (ma_bump S₉)) : ma_wp X d w 148 0 [(0, .inr (.inr (some 64))), (1, .inl o), (2, .inl i), (3, .inl x)] [] S Q := by
  refine g_148_64_s_p87_0 o i x (by omega) (by omega) (zG_T hI) ?_
  refine ⟨((zG_r hI (by decide)).trans hr), ?_⟩
  refine ⟨((zG_r hI (by decide)).trans hr), ?_⟩
  have b1 := i_bd o
  refine sp_149_64_s (R := (mR S 70)) (a7 := (aS 75 S)) (a8 := (aS 88 S)) (o) (by omega) (by omega) (zB_dn_zI hI) (show xB S (mR S 70) from by first | (exact (xC_o (W := 75) hpre0).2)) (show aS 75 S = (aS 75 S) from by first | (exact rfl)) (show aS 88 S = (aS 88 S) from by first | (exact rfl)) (fun v2 S1 hL_S1 hq_v2 rp0_S1 rp1_S1 rp2_S1 rp3_S1 => zo_n ⟨zG_T hL_S1, ?_⟩) (fun x S9 hx h9 rx0 rx1 rx2 => by have h9u := (zB_up_zI hI h9); exact zo_x (KX x S9 (by omega) h9u (show xB S9 (mR S9 70) from by first | (exact xB_x (xC_o (W := 75) rx0).2)) (show aS 88 S9 = ab from by first | (exact rx1.trans hpre1)) (show (x = 4 ∧ ¬ zRq ab o) ∨ (x = 1 ∧ zRq ab o ∧ ¬ zHw ab o i) ∨ (x = 5 ∧ zRq ab o ∧ zHw ab o i ∧ zIr ab o i) from by first | (exact Or.inl ⟨rx2.1, rq_no rx2.2 hpre1⟩))))
  have hI_S1 := zB_up_zI hI hL_S1
  have rp0_S1 : xB S1 (mR S 70) := by
    have z := rp0_S1
    (try rw [show mI S 65 = f 65 from funext (fun k => zG_z hI rfl)] at z)
    (try rw [show mI S 64 1 = f 64 1 from zG_z hI rfl] at z)
    exact z
  have rp1_S1 : aS 88 S1 = (aS 88 S) := by
    have z := rp1_S1
    (try rw [show mI S 65 = f 65 from funext (fun k => zG_z hI rfl)] at z)
    (try rw [show mI S 64 1 = f 64 1 from zG_z hI rfl] at z)
    exact z
  have rp2_S1 : v2 = zTa (mR S 70) o := by
    have z := rp2_S1
    (try rw [show mI S 65 = f 65 from funext (fun k => zG_z hI rfl)] at z)
    (try rw [show mI S 64 1 = f 64 1 from zG_z hI rfl] at z)
    exact z
  have rp3_S1 : zRq (aS 75 S) o := by
    have z := rp3_S1
    (try rw [show mI S 65 = f 65 from funext (fun k => zG_z hI rfl)] at z)
    (try rw [show mI S 64 1 = f 64 1 from zG_z hI rfl] at z)
    exact z
  obtain ⟨c3, hc, th_c3⟩ := hq_v2
  have rg_c3 : zTa (mR S 70) o = some c3 := rp2_S1.symm.trans hc
  refine ⟨c3, hc, ?_⟩
  refine ⟨zG_n hI_S1 th_c3, ?_⟩
  have b2 := i_bd i
  have li3 : (0 : Int32).toInt = 0 := rfl
  refine zd (fun h4 => ?_) (fun h4 => ?_)
  · skip
    have g5 := i_lt h4
    exact KX 1 _ (by decide) hI_S1 (show xB S1 (mR S1 70) from by first | (exact xB_x (xC_o (W := 75) rp0_S1).2)) (show aS 88 S1 = ab from by first | (exact (xC_o (W := 88) rp0_S1).1.trans (rp1_S1.trans hpre1))) (show (1 = 4 ∧ ¬ zRq ab o) ∨ (1 = 1 ∧ zRq ab o ∧ ¬ zHw ab o i) ∨ (1 = 5 ∧ zRq ab o ∧ zHw ab o i ∧ zIr ab o i) from by first | (have ty := xB_th (W := 88) rp0_S1 rg_c3; have z2 := congrArg Int32.toInt ty.2.2.2.2.1; rw [(rp1_S1.trans hpre1)] at z2; exact Or.inr (Or.inl ⟨rfl, (rq_up rp3_S1 hpre1), fun w => by have w1 := w.1; have w2 := w.2; omega⟩)))
  · skip
    have g6 := i_nlt h4
    refine ⟨zG_n hI_S1 th_c3, ?_⟩
    have f7 := zG_th hI_S1 th_c3
    first | have e8 : ((mI S1 c3 2) - (1 : Int32)).toInt = (mI S1 c3 2).toInt - (1) := i_subk rfl (by omega) (by omega) | have b9 := i_bd ((mI S1 c3 2) - (1 : Int32))
    refine zd (fun h10 => ?_) (fun h10 => ?_)
    · skip
      have g11 := i_le h10
      exact KX 1 _ (by decide) hI_S1 (show xB S1 (mR S1 70) from by first | (exact xB_x (xC_o (W := 75) rp0_S1).2)) (show aS 88 S1 = ab from by first | (exact (xC_o (W := 88) rp0_S1).1.trans (rp1_S1.trans hpre1))) (show (1 = 4 ∧ ¬ zRq ab o) ∨ (1 = 1 ∧ zRq ab o ∧ ¬ zHw ab o i) ∨ (1 = 5 ∧ zRq ab o ∧ zHw ab o i ∧ zIr ab o i) from by first | (have ty := xB_th (W := 88) rp0_S1 rg_c3; have z2 := congrArg Int32.toInt ty.2.2.2.2.1; rw [(rp1_S1.trans hpre1)] at z2; exact Or.inr (Or.inl ⟨rfl, (rq_up rp3_S1 hpre1), fun w => by have w1 := w.1; have w2 := w.2; omega⟩)))
    · skip
      have g12 := i_nle h10
      refine ⟨zG_n hI_S1 th_c3, ?_⟩
      refine ⟨zG_n hI_S1 th_c3, ?_⟩
      refine zd (fun h13 => ?_) (fun h13 => ?_)
      · skip
        have g14 := i_lt h13
        have b15 := i_bd x
        refine sp_95_69_s (ab := (aS 88 S1)) (R := (mR S 70)) (W := 88) (y := (o)) c3 (i) (x) (by omega) (by omega) (zB_dn_zI hI_S1) th_c3 (show xB S1 (mR S 70) from by first | (exact (xC_o (W := 75) rp0_S1).2)) (show aS 88 S1 = (aS 88 S1) from by first | (exact rfl)) (show xW 88 from by first | (exact xW88)) (show zTa (mR S 70) (o) = some c3 from by first | (exact rg_c3)) (fun v5 S4 hL_S4 hp_v5 rp0_S4 rp1_S4 => zi_n ⟨zG_T hL_S4, ?_⟩)
        have hI_S4 := zB_up_zI hI_S1 hL_S4
        have rp0_S4 : xB S4 (mR S 70) := by
          have z := rp0_S4
          (try rw [show mI S1 65 = f 65 from funext (fun k => zG_z hI_S1 rfl)] at z)
          (try rw [show mI S1 64 1 = f 64 1 from zG_z hI_S1 rfl] at z)
          exact z
        have rp1_S4 : aS 88 S4 = aCi (aS 88 S1) (o).toNatClampNeg i x ∧ v5 = aWo (aS 88 S1) (o).toNatClampNeg i := by
          have z := rp1_S4
          (try rw [show mI S1 65 = f 65 from funext (fun k => zG_z hI_S1 rfl)] at z)
          (try rw [show mI S1 64 1 = f 64 1 from zG_z hI_S1 rfl] at z)
          exact z
        have b16 := i_bd v5
        exact K (v5) _ hI_S4 trivial (show xB S4 (mR S4 70) from by first | (exact xB_x (xC_o (W := 75) rp0_S4).2)) (show zRq ab o ∧ zHw ab o i ∧ ¬ zIr ab o i ∧ aS 88 S4 = aCi ab o.toNatClampNeg i x ∧ v5 = aWo ab o.toNatClampNeg i from by first | (exfalso; omega) | (have ty := xB_th (W := 88) rp0_S1 rg_c3; have z2 := congrArg Int32.toInt ty.2.2.2.2.1; rw [(rp1_S1.trans hpre1)] at z2; have ci := rp1_S4; rw [(rp1_S1.trans hpre1)] at ci; exact ⟨(rq_up rp3_S1 hpre1), ⟨by omega, by omega⟩, ir_n rp0_S1 rg_c3 (rp1_S1.trans hpre1) (by omega) (by assumption), ci.1, ci.2⟩))
      · skip
        have g17 := i_nlt h13
        refine ⟨zG_n hI_S1 th_c3, ?_⟩
        refine zd (fun h18 => ?_) (fun h18 => ?_)
        · skip
          have g19 := i_le h18
          have b20 := i_bd x
          refine sp_95_69_s (ab := (aS 88 S1)) (R := (mR S 70)) (W := 88) (y := (o)) c3 (i) (x) (by omega) (by omega) (zB_dn_zI hI_S1) th_c3 (show xB S1 (mR S 70) from by first | (exact (xC_o (W := 75) rp0_S1).2)) (show aS 88 S1 = (aS 88 S1) from by first | (exact rfl)) (show xW 88 from by first | (exact xW88)) (show zTa (mR S 70) (o) = some c3 from by first | (exact rg_c3)) (fun v7 S6 hL_S6 hp_v7 rp0_S6 rp1_S6 => zi_n ⟨zG_T hL_S6, ?_⟩)
          have hI_S6 := zB_up_zI hI_S1 hL_S6
          have rp0_S6 : xB S6 (mR S 70) := by
            have z := rp0_S6
            (try rw [show mI S1 65 = f 65 from funext (fun k => zG_z hI_S1 rfl)] at z)
            (try rw [show mI S1 64 1 = f 64 1 from zG_z hI_S1 rfl] at z)
            exact z
          have rp1_S6 : aS 88 S6 = aCi (aS 88 S1) (o).toNatClampNeg i x ∧ v7 = aWo (aS 88 S1) (o).toNatClampNeg i := by
            have z := rp1_S6
            (try rw [show mI S1 65 = f 65 from funext (fun k => zG_z hI_S1 rfl)] at z)
            (try rw [show mI S1 64 1 = f 64 1 from zG_z hI_S1 rfl] at z)
            exact z
          have b21 := i_bd v7
          exact K (v7) _ hI_S6 trivial (show xB S6 (mR S6 70) from by first | (exact xB_x (xC_o (W := 75) rp0_S6).2)) (show zRq ab o ∧ zHw ab o i ∧ ¬ zIr ab o i ∧ aS 88 S6 = aCi ab o.toNatClampNeg i x ∧ v7 = aWo ab o.toNatClampNeg i from by first | (exfalso; omega) | (have ty := xB_th (W := 88) rp0_S1 rg_c3; have z2 := congrArg Int32.toInt ty.2.2.2.2.1; rw [(rp1_S1.trans hpre1)] at z2; have ci := rp1_S6; rw [(rp1_S1.trans hpre1)] at ci; exact ⟨(rq_up rp3_S1 hpre1), ⟨by omega, by omega⟩, ir_n rp0_S1 rg_c3 (rp1_S1.trans hpre1) (by omega) (by assumption), ci.1, ci.2⟩))
        · skip
          have g22 := i_nle h18
          refine ⟨zG_n hI_S1 th_c3, ?_⟩
          have b23 := i_bd (lg_cmp ((((mL S1 c3 3).toUInt64 >>> (i.toInt64.toUInt64 &&& Int64.toUInt64 63)).toInt64) &&& (1 : Int64)) (0 : Int64))
          refine zd (fun h24 => ?_) (fun h24 => ?_)
          · skip
            have g25 := i_eq h24
            have b26 := i_bd x
            refine sp_95_69_s (ab := (aS 88 S1)) (R := (mR S 70)) (W := 88) (y := (o)) c3 (i) (x) (by omega) (by omega) (zB_dn_zI hI_S1) th_c3 (show xB S1 (mR S 70) from by first | (exact (xC_o (W := 75) rp0_S1).2)) (show aS 88 S1 = (aS 88 S1) from by first | (exact rfl)) (show xW 88 from by first | (exact xW88)) (show zTa (mR S 70) (o) = some c3 from by first | (exact rg_c3)) (fun v9 S8 hL_S8 hp_v9 rp0_S8 rp1_S8 => zi_n ⟨zG_T hL_S8, ?_⟩)
            have hI_S8 := zB_up_zI hI_S1 hL_S8
            have rp0_S8 : xB S8 (mR S 70) := by
              have z := rp0_S8
              (try rw [show mI S1 65 = f 65 from funext (fun k => zG_z hI_S1 rfl)] at z)
              (try rw [show mI S1 64 1 = f 64 1 from zG_z hI_S1 rfl] at z)
              exact z
            have rp1_S8 : aS 88 S8 = aCi (aS 88 S1) (o).toNatClampNeg i x ∧ v9 = aWo (aS 88 S1) (o).toNatClampNeg i := by
              have z := rp1_S8
              (try rw [show mI S1 65 = f 65 from funext (fun k => zG_z hI_S1 rfl)] at z)
              (try rw [show mI S1 64 1 = f 64 1 from zG_z hI_S1 rfl] at z)
              exact z
            have b27 := i_bd v9
            exact K (v9) _ hI_S8 trivial (show xB S8 (mR S8 70) from by first | (exact xB_x (xC_o (W := 75) rp0_S8).2)) (show zRq ab o ∧ zHw ab o i ∧ ¬ zIr ab o i ∧ aS 88 S8 = aCi ab o.toNatClampNeg i x ∧ v9 = aWo ab o.toNatClampNeg i from by first | (exfalso; omega) | (have ty := xB_th (W := 88) rp0_S1 rg_c3; have z2 := congrArg Int32.toInt ty.2.2.2.2.1; rw [(rp1_S1.trans hpre1)] at z2; have ci := rp1_S8; rw [(rp1_S1.trans hpre1)] at ci; exact ⟨(rq_up rp3_S1 hpre1), ⟨by omega, by omega⟩, ir_n rp0_S1 rg_c3 (rp1_S1.trans hpre1) (by omega) (by assumption), ci.1, ci.2⟩))
          · skip
            have g28 := i_ne h24
            exact KX 5 _ (by decide) hI_S1 (show xB S1 (mR S1 70) from by first | (exact xB_x (xC_o (W := 75) rp0_S1).2)) (show aS 88 S1 = ab from by first | (exact (xC_o (W := 88) rp0_S1).1.trans (rp1_S1.trans hpre1))) (show (5 = 4 ∧ ¬ zRq ab o) ∨ (5 = 1 ∧ zRq ab o ∧ ¬ zHw ab o i) ∨ (5 = 5 ∧ zRq ab o ∧ zHw ab o i ∧ zIr ab o i) from by first | (have ty := xB_th (W := 88) rp0_S1 rg_c3; have z2 := congrArg Int32.toInt ty.2.2.2.2.1; rw [(rp1_S1.trans hpre1)] at z2; exact Or.inr (Or.inr ⟨rfl, (rq_up rp3_S1 hpre1), ⟨by omega, by omega⟩, ir_y rp0_S1 rg_c3 (rp1_S1.trans hpre1) (by omega) (by assumption)⟩)))

/-! from 95.g29 -/
/-! the heap by numbers, the class (written by wip/tools/gen18.py) -/
theorem g_152_64_s_p87_0 {X : Nat × (Nat → Int32)} {d w : Nat} {S : ma_S} {Q : Option ma_V ⊕ Nat → ma_S → Prop} (o : Int32) (i : Int32) (hd : 7 ≤ d) (hw : 111 ≤ w) (hS : zT S) (h : mR S 64 11 = some 87 ∧ (mR S 64 11 = some 87 ∧ (ma_wp X (d - 1) (w - 22) 149 0 [(0, .inr (.inr (some 64))), (1, .inl o)] [] S (zo (fun v2 S1 => zT S1 ∧ ((∃ c3, v2 = some c3 ∧ ((126 ≤ c3 ∧ c3 < mN S1) ∧ (if i < 0 then (Q (.inr 1) (ma_bump S1)) else ((126 ≤ c3 ∧ c3 < mN S1) ∧ (if ((mI S1 c3 2) - (1 : Int32)) ≤ i then (Q (.inr 1) (ma_bump S1)) else (ma_wp X (d - 1) (w - 23) 96 0 [(0, .inr (.inr (some 69))), (1, .inr (.inr (some c3))), (2, .inl i)] [] S1 (zi (fun v5 S4 => zT S4 ∧ (Q (.inl (some (.inl v5))) S4)) (fun x S9 => Q (.inr x) S9)))))))))) (fun x S9 => Q (.inr x) S9))))) : ma_wp X d w 152 0 [(0, .inr (.inr (some 64))), (1, .inl o), (2, .inl i)] [] S Q := by
  refine zw_push hm_152 dX11_get_0 (v := .inr (.inr (some 64))) rfl ?_
  refine zw_cv hm_152 dX11_get_1 v_11_119_11 hm_144 [] [] rfl (zT_rt hS s_64 rfl) ⟨by omega, by omega⟩ rfl ?_
  show ma_wp X (d - 1) (w - 20) 144 0 [(0, .inr (.inr (some 64)))] [] S _
  refine zw_push hm_144 dX11_needCollector_0 (v := .inr (.inr (some 64))) rfl ?_
  obtain ⟨hg, h⟩ := h
  refine zw_gf hm_144 dX11_needCollector_1 (v := .inr (.inr (some 87))) (zT_is hS s_64) (zT_t hS s_64) rfl f_11_98_11 (congrArg (fun z => Sum.inr (Sum.inr z)) hg) ?_
  refine zw_ifnonnull hm_144 dX11_needCollector_4 (t := 15) rfl (fun z => by cases z) (fun _ _ => ?_)
  refine zw_push hm_144 dX11_needCollector_15 (v := .inr (.inr (some 64))) rfl ?_
  obtain ⟨hg, h⟩ := h
  refine zw_gf hm_144 dX11_needCollector_16 (v := .inr (.inr (some 87))) (zT_is hS s_64) (zT_t hS s_64) rfl f_11_98_11 (congrArg (fun z => Sum.inr (Sum.inr z)) hg) ?_
  refine zw_aret hm_144 dX11_needCollector_19 ?_
  show ma_wp X d w 152 4 [(0, .inr (.inr (some 64))), (1, .inl o), (2, .inl i)] [.inr (.inr (some 87))] S _
  refine zw_stk hm_152 dX11_get_4 (st₉ := []) rfl rfl ?_
  refine zw_push hm_152 dX11_get_5 (v := .inr (.inr (some 64))) rfl ?_
  refine zw_push hm_152 dX11_get_6 (v := .inl o) rfl ?_
  refine zw_cv hm_152 dX11_get_7 v_11_123_11 hm_149 [.inl o] [] rfl (zT_rt hS s_64 rfl) ⟨by omega, by omega⟩ rfl (zw_mono h (zo_go ?_ ?_))
  · intro v2 S1 hv
    obtain ⟨hS1, h⟩ := hv
    obtain ⟨c3, hc, h⟩ := h
    subst hc
    show ma_wp X d w 152 10 [(0, .inr (.inr (some 64))), (1, .inl o), (2, .inl i)] [.inr (.inr (some c3))] S1 _
    refine zw_sto hm_152 dX11_get_10 [(3, .inr (.inr (some c3))), (0, .inr (.inr (some 64))), (1, .inl o), (2, .inl i)] rfl rfl rfl ?_
    refine zw_push hm_152 dX11_get_11 (v := .inr (.inr (some c3))) rfl ?_
    refine zw_push hm_152 dX11_get_12 (v := .inl i) rfl ?_
    obtain ⟨hg, h⟩ := h
    refine zw_cv hm_152 dX11_get_13 v_11_127_9 hm_114 [.inl i] [] rfl (zT_trt hS1 hg) ⟨by omega, by omega⟩ rfl ?_
    show ma_wp X (d - 1) (w - 21) 114 0 [(0, .inr (.inr (some c3))), (1, .inl i)] [] S1 _
    refine zw_push hm_114 dX9_hasWord_0 (v := .inl i) rfl ?_
    refine zw_if0 hm_114 dX9_hasWord_1 (t := 18) rfl zc0_lt ?_ ?_
    · intro hc
      rw [if_pos hc] at h
      refine zw_push hm_114 dX9_hasWord_18 (v := .inl (0 : Int32)) rfl ?_
      refine zw_bret hm_114 dX9_hasWord_19 (by decide) ?_
      show ma_wp X d w 152 16 [(3, .inr (.inr (some c3))), (0, .inr (.inr (some 64))), (1, .inl o), (2, .inl i)] [.inl (0 : Int32)] S1 _
      refine zw_if0 hm_152 dX11_get_16 (t := 27) rfl zc0_ne (fun hc => absurd hc (by decide)) (fun _ => ?_)
      exact zw_thr hm_152 dX11_get_19 dX11_get_22 dX11_get_23 dX11_get_26 x_11_72_74 n_11_72 (by omega) (by show 0 + 81 ≤ w; omega) h
    · intro hc
      rw [if_neg hc] at h
      refine zw_push hm_114 dX9_hasWord_4 (v := .inl i) rfl ?_
      refine zw_push hm_114 dX9_hasWord_5 (v := .inr (.inr (some c3))) rfl ?_
      obtain ⟨hg, h⟩ := h
      refine zw_gf hm_114 dX9_hasWord_6 (v := .inl (mI S1 c3 2)) (zT_tis hS1 hg) (zT_tt hS1 hg) rfl f_9_16_9 rfl ?_
      refine zw_push hm_114 dX9_hasWord_9 (v := .inl (1 : Int32)) rfl ?_
      refine zw_stk hm_114 dX9_hasWord_10 (st₉ := [.inl ((mI S1 c3 2) - (1 : Int32)), .inl i]) rfl rfl ?_
      refine zw_if2 hm_114 dX9_hasWord_11 (t := 18) rfl zc2_ge ?_ ?_
      · intro hc
        rw [if_pos hc] at h
        refine zw_push hm_114 dX9_hasWord_18 (v := .inl (0 : Int32)) rfl ?_
        refine zw_bret hm_114 dX9_hasWord_19 (by decide) ?_
        show ma_wp X d w 152 16 [(3, .inr (.inr (some c3))), (0, .inr (.inr (some 64))), (1, .inl o), (2, .inl i)] [.inl (0 : Int32)] S1 _
        refine zw_if0 hm_152 dX11_get_16 (t := 27) rfl zc0_ne (fun hc => absurd hc (by decide)) (fun _ => ?_)
        exact zw_thr hm_152 dX11_get_19 dX11_get_22 dX11_get_23 dX11_get_26 x_11_72_74 n_11_72 (by omega) (by show 0 + 81 ≤ w; omega) h
      · intro hc
        rw [if_neg hc] at h
        refine zw_push hm_114 dX9_hasWord_14 (v := .inl (1 : Int32)) rfl ?_
        refine zw_goto hm_114 dX9_hasWord_15 (t := 19) rfl ?_
        refine zw_bret hm_114 dX9_hasWord_19 (by decide) ?_
        show ma_wp X d w 152 16 [(3, .inr (.inr (some c3))), (0, .inr (.inr (some 64))), (1, .inl o), (2, .inl i)] [.inl (1 : Int32)] S1 _
        refine zw_if0 hm_152 dX11_get_16 (t := 27) rfl zc0_ne (fun _ => ?_) (fun hc => absurd (by decide) hc)
        refine zw_push hm_152 dX11_get_27 (v := .inr (.inr (some 64))) rfl ?_
        refine zw_gf hm_152 dX11_get_28 (v := .inr (.inr (some 69))) (zT_is hS1 s_64) (zT_t hS1 s_64) rfl f_11_26_11 (zT_f hS1 r_64_8) ?_
        refine zw_push hm_152 dX11_get_31 (v := .inr (.inr (some c3))) rfl ?_
        refine zw_push hm_152 dX11_get_32 (v := .inl i) rfl ?_
        refine zw_cv hm_152 dX11_get_33 v_11_165_7 hm_96 [.inl i, .inr (.inr (some c3))] [] rfl (zT_rt hS1 s_69 rfl) ⟨by omega, by omega⟩ rfl (zw_mono h (zi_go ?_ ?_))
        · intro v5 S4 hv
          obtain ⟨hS4, h⟩ := hv
          exact zw_iret hm_152 dX11_get_36 h
        · intro x S9 hx
          exact ⟨by decide, hx⟩
  · intro x S9 hx
    exact ⟨by decide, hx⟩
theorem sp_152_64_s_p87 {X : Nat × (Nat → Int32)} {d w : Nat} {f : Nat → Nat → Int32} {r : Nat → Nat → Option Nat} {C Z N : Nat} {Q : Option ma_V ⊕ Nat → ma_S → Prop} {ab : Nat→Nat→Int32} {S : ma_S} (o : Int32) (i : Int32) (hd : 7 ≤ d) (hw : 111 ≤ w) (hI : zB f r C Z N S) (hr : r 64 11 = some 87) (hpre0 : xB S (mR S 70)) (hpre1 : aS 88 S = ab) (K : ∀ v S₉, zB f r C Z N S₉ → (True) → (xB S₉ (mR S₉ 70)) → (zRq ab o ∧ zHw ab o i ∧ aS 88 S₉ = ab ∧ v = aWo ab o.toNatClampNeg i) → Q (.inl (some (.inl v))) S₉) (KX : ∀ x S₉, (x = 1 ∨ x = 4) → zB f r C Z N S₉ → (xB S₉ (mR S₉ 70)) → (aS 88 S₉ = ab) → ((x = 4 ∧ ¬ zRq ab o) ∨ (x = 1 ∧ zRq ab o ∧ ¬ zHw ab o i)) → Q (.inr x) (ma_bump S₉)) : ma_wp X d w 152 0 [(0, .inr (.inr (some 64))), (1, .inl o), (2, .inl i)] [] S Q := by
  refine g_152_64_s_p87_0 o i (by omega) (by omega) (zG_T hI) ?_
  refine ⟨((zG_r hI (by decide)).trans hr), ?_⟩
  refine ⟨((zG_r hI (by decide)).trans hr), ?_⟩
  have b1 := i_bd o
  refine sp_149_64_s (R := (mR S 70)) (a7 := (aS 75 S)) (a8 := (aS 88 S)) (o) (by omega) (by omega) (zB_dn_zI hI) (show xB S (mR S 70) from by first | (exact (xC_o (W := 75) hpre0).2)) (show aS 75 S = (aS 75 S) from by first | (exact rfl)) (show aS 88 S = (aS 88 S) from by first | (exact rfl)) (fun v2 S1 hL_S1 hq_v2 rp0_S1 rp1_S1 rp2_S1 rp3_S1 => zo_n ⟨zG_T hL_S1, ?_⟩) (fun x S9 hx h9 rx0 rx1 rx2 => by have h9u := (zB_up_zI hI h9); exact zo_x (KX x S9 (by omega) h9u (show xB S9 (mR S9 70) from by first | (exact xB_x (xC_o (W := 75) rx0).2)) (show aS 88 S9 = ab from by first | (exact rx1.trans hpre1)) (show (x = 4 ∧ ¬ zRq ab o) ∨ (x = 1 ∧ zRq ab o ∧ ¬ zHw ab o i) from by first | (exact Or.inl ⟨rx2.1, rq_no rx2.2 hpre1⟩))))
  have hI_S1 := zB_up_zI hI hL_S1
  have rp0_S1 : xB S1 (mR S 70) := by
    have z := rp0_S1
    (try rw [show mI S 65 = f 65 from funext (fun k => zG_z hI rfl)] at z)
    (try rw [show mI S 64 1 = f 64 1 from zG_z hI rfl] at z)
    exact z
  have rp1_S1 : aS 88 S1 = (aS 88 S) := by
    have z := rp1_S1
    (try rw [show mI S 65 = f 65 from funext (fun k => zG_z hI rfl)] at z)
    (try rw [show mI S 64 1 = f 64 1 from zG_z hI rfl] at z)
    exact z
  have rp2_S1 : v2 = zTa (mR S 70) o := by
    have z := rp2_S1
    (try rw [show mI S 65 = f 65 from funext (fun k => zG_z hI rfl)] at z)
    (try rw [show mI S 64 1 = f 64 1 from zG_z hI rfl] at z)
    exact z
  have rp3_S1 : zRq (aS 75 S) o := by
    have z := rp3_S1
    (try rw [show mI S 65 = f 65 from funext (fun k => zG_z hI rfl)] at z)
    (try rw [show mI S 64 1 = f 64 1 from zG_z hI rfl] at z)
    exact z
  obtain ⟨c3, hc, th_c3⟩ := hq_v2
  have rg_c3 : zTa (mR S 70) o = some c3 := rp2_S1.symm.trans hc
  refine ⟨c3, hc, ?_⟩
  refine ⟨zG_n hI_S1 th_c3, ?_⟩
  have b2 := i_bd i
  have li3 : (0 : Int32).toInt = 0 := rfl
  refine zd (fun h4 => ?_) (fun h4 => ?_)
  · skip
    have g5 := i_lt h4
    exact KX 1 _ (by decide) hI_S1 (show xB S1 (mR S1 70) from by first | (exact xB_x (xC_o (W := 75) rp0_S1).2)) (show aS 88 S1 = ab from by first | (exact (xC_o (W := 88) rp0_S1).1.trans (rp1_S1.trans hpre1))) (show (1 = 4 ∧ ¬ zRq ab o) ∨ (1 = 1 ∧ zRq ab o ∧ ¬ zHw ab o i) from by first | (have ty := xB_th (W := 88) rp0_S1 rg_c3; have z2 := congrArg Int32.toInt ty.2.2.2.2.1; rw [(rp1_S1.trans hpre1)] at z2; exact Or.inr ⟨rfl, (rq_up rp3_S1 hpre1), fun w => by have w1 := w.1; have w2 := w.2; omega⟩))
  · skip
    have g6 := i_nlt h4
    refine ⟨zG_n hI_S1 th_c3, ?_⟩
    have f7 := zG_th hI_S1 th_c3
    first | have e8 : ((mI S1 c3 2) - (1 : Int32)).toInt = (mI S1 c3 2).toInt - (1) := i_subk rfl (by omega) (by omega) | have b9 := i_bd ((mI S1 c3 2) - (1 : Int32))
    refine zd (fun h10 => ?_) (fun h10 => ?_)
    · skip
      have g11 := i_le h10
      exact KX 1 _ (by decide) hI_S1 (show xB S1 (mR S1 70) from by first | (exact xB_x (xC_o (W := 75) rp0_S1).2)) (show aS 88 S1 = ab from by first | (exact (xC_o (W := 88) rp0_S1).1.trans (rp1_S1.trans hpre1))) (show (1 = 4 ∧ ¬ zRq ab o) ∨ (1 = 1 ∧ zRq ab o ∧ ¬ zHw ab o i) from by first | (have ty := xB_th (W := 88) rp0_S1 rg_c3; have z2 := congrArg Int32.toInt ty.2.2.2.2.1; rw [(rp1_S1.trans hpre1)] at z2; exact Or.inr ⟨rfl, (rq_up rp3_S1 hpre1), fun w => by have w1 := w.1; have w2 := w.2; omega⟩))
    · skip
      have g12 := i_nle h10
      refine sp_96_69_s (ab := (aS 88 S1)) (R := (mR S 70)) (W := 88) (y := (o)) c3 (i) (by omega) (by omega) (zB_dn_zI hI_S1) th_c3 (show xB S1 (mR S 70) from by first | (exact (xC_o (W := 75) rp0_S1).2)) (show aS 88 S1 = (aS 88 S1) from by first | (exact rfl)) (show xW 88 from by first | (exact xW88)) (show zTa (mR S 70) (o) = some c3 from by first | (exact rg_c3)) (fun v5 S4 hL_S4 hp_v5 rp0_S4 rp1_S4 rp2_S4 => zi_n ⟨zG_T hL_S4, ?_⟩)
      have hI_S4 := zB_up_zI hI_S1 hL_S4
      have rp0_S4 : xB S4 (mR S 70) := by
        have z := rp0_S4
        (try rw [show mI S1 65 = f 65 from funext (fun k => zG_z hI_S1 rfl)] at z)
        (try rw [show mI S1 64 1 = f 64 1 from zG_z hI_S1 rfl] at z)
        exact z
      have rp1_S4 : aS 88 S4 = (aS 88 S1) := by
        have z := rp1_S4
        (try rw [show mI S1 65 = f 65 from funext (fun k => zG_z hI_S1 rfl)] at z)
        (try rw [show mI S1 64 1 = f 64 1 from zG_z hI_S1 rfl] at z)
        exact z
      have rp2_S4 : v5 = aWo (aS 88 S1) (o).toNatClampNeg i := by
        have z := rp2_S4
        (try rw [show mI S1 65 = f 65 from funext (fun k => zG_z hI_S1 rfl)] at z)
        (try rw [show mI S1 64 1 = f 64 1 from zG_z hI_S1 rfl] at z)
        exact z
      have b13 := i_bd v5
      exact K (v5) _ hI_S4 trivial (show xB S4 (mR S4 70) from by first | (exact xB_x (xC_o (W := 75) rp0_S4).2)) (show zRq ab o ∧ zHw ab o i ∧ aS 88 S4 = ab ∧ v5 = aWo ab o.toNatClampNeg i from by first | (exfalso; omega) | (have ty := xB_th (W := 88) rp0_S1 rg_c3; have z2 := congrArg Int32.toInt ty.2.2.2.2.1; rw [(rp1_S1.trans hpre1)] at z2; have wo := rp2_S4; rw [(rp1_S1.trans hpre1)] at wo; exact ⟨(rq_up rp3_S1 hpre1), ⟨by omega, by omega⟩, rp1_S4.trans (rp1_S1.trans hpre1), wo⟩))
theorem g_154_64_s_p87_0 {X : Nat × (Nat → Int32)} {d w : Nat} {S : ma_S} {Q : Option ma_V ⊕ Nat → ma_S → Prop} (i : Int32) (o : Int32) (hd : 8 ≤ d) (hw : 132 ≤ w) (hS : zT S) (h : if i < 0 then (Q (.inr 2) (ma_bump S)) else (if (16 : Int32) ≤ i then (Q (.inr 2) (ma_bump S)) else (mR S 64 11 = some 87 ∧ (mR S 64 11 = some 87 ∧ (ma_wp X (d - 1) (w - 21) 151 0 [(0, .inr (.inr (some 64))), (1, .inl o)] [] S (zo (fun v2 S1 => zT S1 ∧ ((0 ≤ i ∧ i.toNatClampNeg < 16) ∧ ((v2 = none → (0 ≤ i ∧ i.toNatClampNeg < 16) ∧ (Q (.inl (some (.inl (mI S1 73 i.toNatClampNeg)))) (ma_put S1 73 i.toNatClampNeg (.inl (-1 : Int32))))) ∧ (∀ c3, v2 = some c3 → (126 ≤ c3 ∧ c3 < mN S1) ∧ ((0 ≤ i ∧ i.toNatClampNeg < 16) ∧ (Q (.inl (some (.inl (mI S1 73 i.toNatClampNeg)))) (ma_put S1 73 i.toNatClampNeg (.inl (mI S1 c3 0))))))))) (fun x S9 => Q (.inr x) S9))))))) : ma_wp X d w 154 0 [(0, .inr (.inr (some 64))), (1, .inl i), (2, .inl o)] [] S Q := by
  refine zw_push hm_154 dX11_weak_0 (v := .inl i) rfl ?_
  refine zw_cs hm_154 dX11_weak_1 pn_11_109 sl_11_109 hm_142 [.inl i] [] rfl ⟨by omega, by omega⟩ rfl ?_
  show ma_wp X (d - 1) (w - 20) 142 0 [(0, .inl i)] [] S _
  refine zw_push hm_142 dX11_isSlot_0 (v := .inl i) rfl ?_
  refine zw_if0 hm_142 dX11_isSlot_1 (t := 14) rfl zc0_lt ?_ ?_
  · intro hc
    rw [if_pos hc] at h
    refine zw_push hm_142 dX11_isSlot_14 (v := .inl (0 : Int32)) rfl ?_
    refine zw_bret hm_142 dX11_isSlot_15 (by decide) ?_
    show ma_wp X d w 154 4 [(0, .inr (.inr (some 64))), (1, .inl i), (2, .inl o)] [.inl (0 : Int32)] S _
    refine zw_if0 hm_154 dX11_weak_4 (t := 15) rfl zc0_ne (fun hc => absurd hc (by decide)) (fun _ => ?_)
    exact zw_thr hm_154 dX11_weak_7 dX11_weak_10 dX11_weak_11 dX11_weak_14 x_11_79_81 n_11_79 (by omega) (by show 0 + 81 ≤ w; omega) h
  · intro hc
    rw [if_neg hc] at h
    refine zw_push hm_142 dX11_isSlot_4 (v := .inl i) rfl ?_
    refine zw_push hm_142 dX11_isSlot_5 (v := .inl (16 : Int32)) rfl ?_
    refine zw_if2 hm_142 dX11_isSlot_7 (t := 14) rfl zc2_ge ?_ ?_
    · intro hc
      rw [if_pos hc] at h
      refine zw_push hm_142 dX11_isSlot_14 (v := .inl (0 : Int32)) rfl ?_
      refine zw_bret hm_142 dX11_isSlot_15 (by decide) ?_
      show ma_wp X d w 154 4 [(0, .inr (.inr (some 64))), (1, .inl i), (2, .inl o)] [.inl (0 : Int32)] S _
      refine zw_if0 hm_154 dX11_weak_4 (t := 15) rfl zc0_ne (fun hc => absurd hc (by decide)) (fun _ => ?_)
      exact zw_thr hm_154 dX11_weak_7 dX11_weak_10 dX11_weak_11 dX11_weak_14 x_11_79_81 n_11_79 (by omega) (by show 0 + 81 ≤ w; omega) h
    · intro hc
      rw [if_neg hc] at h
      refine zw_push hm_142 dX11_isSlot_10 (v := .inl (1 : Int32)) rfl ?_
      refine zw_goto hm_142 dX11_isSlot_11 (t := 15) rfl ?_
      refine zw_bret hm_142 dX11_isSlot_15 (by decide) ?_
      show ma_wp X d w 154 4 [(0, .inr (.inr (some 64))), (1, .inl i), (2, .inl o)] [.inl (1 : Int32)] S _
      refine zw_if0 hm_154 dX11_weak_4 (t := 15) rfl zc0_ne (fun _ => ?_) (fun hc => absurd (by decide) hc)
      refine zw_push hm_154 dX11_weak_15 (v := .inr (.inr (some 64))) rfl ?_
      refine zw_cv hm_154 dX11_weak_16 v_11_119_11 hm_144 [] [] rfl (zT_rt hS s_64 rfl) ⟨by omega, by omega⟩ rfl ?_
      show ma_wp X (d - 1) (w - 20) 144 0 [(0, .inr (.inr (some 64)))] [] S _
      refine zw_push hm_144 dX11_needCollector_0 (v := .inr (.inr (some 64))) rfl ?_
      obtain ⟨hg, h⟩ := h
      refine zw_gf hm_144 dX11_needCollector_1 (v := .inr (.inr (some 87))) (zT_is hS s_64) (zT_t hS s_64) rfl f_11_98_11 (congrArg (fun z => Sum.inr (Sum.inr z)) hg) ?_
      refine zw_ifnonnull hm_144 dX11_needCollector_4 (t := 15) rfl (fun z => by cases z) (fun _ _ => ?_)
      refine zw_push hm_144 dX11_needCollector_15 (v := .inr (.inr (some 64))) rfl ?_
      obtain ⟨hg, h⟩ := h
      refine zw_gf hm_144 dX11_needCollector_16 (v := .inr (.inr (some 87))) (zT_is hS s_64) (zT_t hS s_64) rfl f_11_98_11 (congrArg (fun z => Sum.inr (Sum.inr z)) hg) ?_
      refine zw_aret hm_144 dX11_needCollector_19 ?_
      show ma_wp X d w 154 19 [(0, .inr (.inr (some 64))), (1, .inl i), (2, .inl o)] [.inr (.inr (some 87))] S _
      refine zw_stk hm_154 dX11_weak_19 (st₉ := []) rfl rfl ?_
      refine zw_push hm_154 dX11_weak_20 (v := .inr (.inr (some 64))) rfl ?_
      refine zw_push hm_154 dX11_weak_21 (v := .inl o) rfl ?_
      refine zw_cv hm_154 dX11_weak_22 v_11_142_11 hm_151 [.inl o] [] rfl (zT_rt hS s_64 rfl) ⟨by omega, by omega⟩ rfl (zw_mono h (zo_go ?_ ?_))
      · intro v2 S1 hv
        obtain ⟨hS1, h⟩ := hv
        refine zw_sto hm_154 dX11_weak_25 [(3, .inr (.inr v2)), (0, .inr (.inr (some 64))), (1, .inl i), (2, .inl o)] rfl rfl rfl ?_
        refine zw_push hm_154 dX11_weak_26 (v := .inr (.inr (some 64))) rfl ?_
        refine zw_gf hm_154 dX11_weak_27 (v := .inr (.inr (some 69))) (zT_is hS1 s_64) (zT_t hS1 s_64) rfl f_11_26_11 (zT_f hS1 r_64_8) ?_
        refine zw_gf hm_154 dX11_weak_30 (v := .inr (.inr (some 73))) (zT_is hS1 s_69) (zT_t hS1 s_69) rfl f_11_173_7 (zT_f hS1 r_69_3) ?_
        refine zw_push hm_154 dX11_weak_33 (v := .inl i) rfl ?_
        obtain ⟨hg, h⟩ := h
        refine zw_ia hm_154 dX11_weak_34 (zT_is hS1 s_73) (zT_h hS1 s_73) rfl hg ?_
        show ma_wp X d w 154 35 [(3, .inr (.inr v2)), (0, .inr (.inr (some 64))), (1, .inl i), (2, .inl o)] [.inl (mI S1 73 i.toNatClampNeg)] S1 _
        refine zw_sto hm_154 dX11_weak_35 [(4, .inl (mI S1 73 i.toNatClampNeg)), (3, .inr (.inr v2)), (0, .inr (.inr (some 64))), (1, .inl i), (2, .inl o)] rfl rfl rfl ?_
        refine zw_push hm_154 dX11_weak_37 (v := .inr (.inr (some 64))) rfl ?_
        refine zw_gf hm_154 dX11_weak_38 (v := .inr (.inr (some 69))) (zT_is hS1 s_64) (zT_t hS1 s_64) rfl f_11_26_11 (zT_f hS1 r_64_8) ?_
        refine zw_gf hm_154 dX11_weak_41 (v := .inr (.inr (some 73))) (zT_is hS1 s_69) (zT_t hS1 s_69) rfl f_11_173_7 (zT_f hS1 r_69_3) ?_
        refine zw_push hm_154 dX11_weak_44 (v := .inl i) rfl ?_
        refine zw_push hm_154 dX11_weak_45 (v := .inr (.inr v2)) rfl ?_
        refine zw_cs hm_154 dX11_weak_46 pn_11_161 sl_11_161 hm_146 [.inr (.inr v2)] [.inl i, .inr (.inr (some 73))] rfl ⟨by omega, by omega⟩ rfl ?_
        show ma_wp X (d - 1) (w - 20) 146 0 [(0, .inr (.inr v2))] [] S1 _
        refine zw_push hm_146 dX11_numberOf_0 (v := .inr (.inr v2)) rfl ?_
        refine zw_ifnonnull hm_146 dX11_numberOf_1 (t := 8) rfl ?_ ?_
        · intro hc
          have h := h.1 hc
          (try rw [hc])
          show ma_wp X (d - 1) (w - 20) 146 4 [(0, .inr (.inr none))] [] S1 _
          refine zw_push hm_146 dX11_numberOf_4 (v := .inl (-1 : Int32)) rfl ?_
          refine zw_goto hm_146 dX11_numberOf_5 (t := 12) rfl ?_
          refine zw_iret hm_146 dX11_numberOf_12 ?_
          show ma_wp X d w 154 49 [(4, .inl (mI S1 73 i.toNatClampNeg)), (3, .inr (.inr none)), (0, .inr (.inr (some 64))), (1, .inl i), (2, .inl o)] [.inl (-1 : Int32), .inl i, .inr (.inr (some 73))] S1 _
          obtain ⟨hg, h⟩ := h
          refine zw_ias hm_154 dX11_weak_49 (zT_is hS1 s_73) (zT_h hS1 s_73) rfl hg ?_
          refine zw_push hm_154 dX11_weak_50 (v := .inl (mI S1 73 i.toNatClampNeg)) rfl ?_
          exact zw_iret hm_154 dX11_weak_52 h
        · intro c3 hc
          have h := h.2 c3 hc
          (try rw [hc])
          show ma_wp X (d - 1) (w - 20) 146 8 [(0, .inr (.inr (some c3)))] [] S1 _
          refine zw_push hm_146 dX11_numberOf_8 (v := .inr (.inr (some c3))) rfl ?_
          obtain ⟨hg, h⟩ := h
          refine zw_gf hm_146 dX11_numberOf_9 (v := .inl (mI S1 c3 0)) (zT_tis hS1 hg) (zT_tt hS1 hg) rfl f_11_182_9 rfl ?_
          refine zw_iret hm_146 dX11_numberOf_12 ?_
          show ma_wp X d w 154 49 [(4, .inl (mI S1 73 i.toNatClampNeg)), (3, .inr (.inr (some c3))), (0, .inr (.inr (some 64))), (1, .inl i), (2, .inl o)] [.inl (mI S1 c3 0), .inl i, .inr (.inr (some 73))] S1 _
          obtain ⟨hg, h⟩ := h
          refine zw_ias hm_154 dX11_weak_49 (zT_is hS1 s_73) (zT_h hS1 s_73) rfl hg ?_
          refine zw_push hm_154 dX11_weak_50 (v := .inl (mI S1 73 i.toNatClampNeg)) rfl ?_
          exact zw_iret hm_154 dX11_weak_52 h
      · intro x S9 hx
        exact ⟨by decide, hx⟩
theorem sp_154_64_s_p87 {X : Nat × (Nat → Int32)} {d w : Nat} {f : Nat → Nat → Int32} {r : Nat → Nat → Option Nat} {C Z N : Nat} {Q : Option ma_V ⊕ Nat → ma_S → Prop} {ab : Nat→Nat→Int32} {S : ma_S} (i : Int32) (o : Int32) (hd : 8 ≤ d) (hw : 132 ≤ w) (hI : zB f r C Z N S) (hr : r 64 11 = some 87) (hpre0 : xB S (mR S 70)) (hpre1 : aS 88 S = ab) (K : ∀ v S₉, zB f r C Z N S₉ → (True) → (xB S₉ (mR S₉ 70)) → ((0 ≤ i.toInt ∧ i.toInt ≤ 15) ∧ (o = -1 ∨ zRq ab o) ∧ aS 88 S₉ = ma_u ab 73 i.toNatClampNeg (aNm ab o) ∧ v = ab 73 i.toNatClampNeg) → Q (.inl (some (.inl v))) S₉) (KX : ∀ x S₉, (x = 2 ∨ x = 4) → zB f r C Z N S₉ → (xB S₉ (mR S₉ 70)) → (aS 88 S₉ = ab) → ((x = 2 ∧ ¬ (0 ≤ i.toInt ∧ i.toInt ≤ 15)) ∨ ((0 ≤ i.toInt ∧ i.toInt ≤ 15) ∧ x = 4 ∧ o ≠ -1 ∧ ¬ zRq ab o)) → Q (.inr x) (ma_bump S₉)) : ma_wp X d w 154 0 [(0, .inr (.inr (some 64))), (1, .inl i), (2, .inl o)] [] S Q := by
  refine g_154_64_s_p87_0 i o (by omega) (by omega) (zG_T hI) ?_
  have b1 := i_bd i
  have li2 : (0 : Int32).toInt = 0 := rfl
  refine zd (fun h3 => ?_) (fun h3 => ?_)
  · skip
    have g4 := i_lt h3
    exact KX 2 _ (by decide) hI (show xB S (mR S 70) from by first | (exact xB_x (xC_o (W := 75) hpre0).2)) (show aS 88 S = ab from by first | (exact (xC_o (W := 88) hpre0).1.trans hpre1)) (show (2 = 2 ∧ ¬ (0 ≤ i.toInt ∧ i.toInt ≤ 15)) ∨ ((0 ≤ i.toInt ∧ i.toInt ≤ 15) ∧ 2 = 4 ∧ o ≠ -1 ∧ ¬ zRq ab o) from by first | (exact Or.inl ⟨rfl, by omega⟩))
  · skip
    have g5 := i_nlt h3
    have li6 : (16 : Int32).toInt = 16 := rfl
    refine zd (fun h7 => ?_) (fun h7 => ?_)
    · skip
      have g8 := i_le h7
      exact KX 2 _ (by decide) hI (show xB S (mR S 70) from by first | (exact xB_x (xC_o (W := 75) hpre0).2)) (show aS 88 S = ab from by first | (exact (xC_o (W := 88) hpre0).1.trans hpre1)) (show (2 = 2 ∧ ¬ (0 ≤ i.toInt ∧ i.toInt ≤ 15)) ∨ ((0 ≤ i.toInt ∧ i.toInt ≤ 15) ∧ 2 = 4 ∧ o ≠ -1 ∧ ¬ zRq ab o) from by first | (exact Or.inl ⟨rfl, by omega⟩))
    · skip
      have g9 := i_nle h7
      refine ⟨((zG_r hI (by decide)).trans hr), ?_⟩
      refine ⟨((zG_r hI (by decide)).trans hr), ?_⟩
      have b10 := i_bd o
      refine sp_151_64_s (R := (mR S 70)) (a7 := (aS 75 S)) (a8 := (aS 88 S)) (o) (by omega) (by omega) (zB_dn_zI hI) (show xB S (mR S 70) from by first | (exact (xC_o (W := 75) hpre0).2)) (show aS 75 S = (aS 75 S) from by first | (exact rfl)) (show aS 88 S = (aS 88 S) from by first | (exact rfl)) (fun v2 S1 hL_S1 hq_v2 rp0_S1 rp1_S1 rp2_S1 rp3_S1 => zo_n ⟨zG_T hL_S1, ?_⟩) (fun x S9 hx h9 rx0 rx1 rx2 => by have h9u := (zB_up_zI hI h9); exact zo_x (KX x S9 (by omega) h9u (show xB S9 (mR S9 70) from by first | (exact xB_x (xC_o (W := 75) rx0).2)) (show aS 88 S9 = ab from by first | (exact rx1.trans hpre1)) (show (x = 2 ∧ ¬ (0 ≤ i.toInt ∧ i.toInt ≤ 15)) ∨ ((0 ≤ i.toInt ∧ i.toInt ≤ 15) ∧ x = 4 ∧ o ≠ -1 ∧ ¬ zRq ab o) from by first | (exact Or.inr ⟨⟨by omega, by omega⟩, ⟨rx2.1, rx2.2.1, rq_no rx2.2.2 hpre1⟩⟩))))
      have hI_S1 := zB_up_zI hI hL_S1
      have rp0_S1 : xB S1 (mR S 70) := by
        have z := rp0_S1
        (try rw [show mI S 65 = f 65 from funext (fun k => zG_z hI rfl)] at z)
        (try rw [show mI S 64 1 = f 64 1 from zG_z hI rfl] at z)
        exact z
      have rp1_S1 : aS 88 S1 = (aS 88 S) := by
        have z := rp1_S1
        (try rw [show mI S 65 = f 65 from funext (fun k => zG_z hI rfl)] at z)
        (try rw [show mI S 64 1 = f 64 1 from zG_z hI rfl] at z)
        exact z
      have rp2_S1 : v2 = zTa (mR S 70) o := by
        have z := rp2_S1
        (try rw [show mI S 65 = f 65 from funext (fun k => zG_z hI rfl)] at z)
        (try rw [show mI S 64 1 = f 64 1 from zG_z hI rfl] at z)
        exact z
      have rp3_S1 : o = -1 ∨ zRq (aS 75 S) o := by
        have z := rp3_S1
        (try rw [show mI S 65 = f 65 from funext (fun k => zG_z hI rfl)] at z)
        (try rw [show mI S 64 1 = f 64 1 from zG_z hI rfl] at z)
        exact z
      refine ⟨i_ix (by omega) (by omega), ?_⟩
      refine ⟨fun hc => ?_, fun c3 hc => ?_⟩
      · skip
        have rn_c3 : zTa (mR S 70) o = none := rp2_S1.symm.trans hc
        refine ⟨i_ix (by omega) (by omega), ?_⟩
        have hI11 : zB f r C Z N (ma_put S1 73 i.toNatClampNeg (.inl (-1 : Int32))) := zG_fa hI_S1 rfl (by decide) (by decide) (by decide) (show zB_x (mI S1) from zG_x hI_S1)
        have b12 := i_bd (mI S1 73 i.toNatClampNeg)
        exact K ((mI S1 73 i.toNatClampNeg)) _ hI11 trivial (show xB (ma_put S1 73 i.toNatClampNeg (.inl (-1 : Int32))) (mR (ma_put S1 73 i.toNatClampNeg (.inl (-1 : Int32))) 70) from by first | (exact xB_x (xC_p (c := 73) (k := i.toNatClampNeg) (x := (-1 : Int32)) (xC_o (W := 75) rp0_S1) 73 xW75 rfl rfl).2)) (show (0 ≤ i.toInt ∧ i.toInt ≤ 15) ∧ (o = -1 ∨ zRq ab o) ∧ aS 88 (ma_put S1 73 i.toNatClampNeg (.inl (-1 : Int32))) = ma_u ab 73 i.toNatClampNeg (aNm ab o) ∧ (mI S1 73 i.toNatClampNeg) = ab 73 i.toNatClampNeg from by first | (exfalso; omega) | (skip; have nn := (nm_n (W := 88) rp0_S1 rn_c3); rw [(rp1_S1.trans hpre1)] at nn; refine ⟨⟨by omega, by omega⟩, (rp3_S1.imp id (fun w => rq_up w hpre1)), (xC_p (c := 73) (k := i.toNatClampNeg) (x := (-1 : Int32)) (xC_o (W := 88) rp0_S1) 73 xW88 rfl rfl).1.trans ?_, ?_⟩; (rw [(rp1_S1.trans hpre1), nn]); (rw [← (rp1_S1.trans hpre1), (aS_I (W := 88) (S := S1) (c := 73) (c₉ := 73) (k := i.toNatClampNeg) rfl rfl)])))
      · skip
        have th_c3 := hq_v2 c3 hc
        have rg_c3 : zTa (mR S 70) o = some c3 := rp2_S1.symm.trans hc
        subst hc
        refine ⟨zG_n hI_S1 th_c3, ?_⟩
        refine ⟨i_ix (by omega) (by omega), ?_⟩
        have hI13 : zB f r C Z N (ma_put S1 73 i.toNatClampNeg (.inl (mI S1 c3 0))) := zG_fa hI_S1 rfl (by decide) (by decide) (by decide) (show zB_x (mI S1) from zG_x hI_S1)
        have b14 := i_bd (mI S1 73 i.toNatClampNeg)
        exact K ((mI S1 73 i.toNatClampNeg)) _ hI13 trivial (show xB (ma_put S1 73 i.toNatClampNeg (.inl (mI S1 c3 0))) (mR (ma_put S1 73 i.toNatClampNeg (.inl (mI S1 c3 0))) 70) from by first | (exact xB_x (xC_p (c := 73) (k := i.toNatClampNeg) (x := (mI S1 c3 0)) (xC_o (W := 75) rp0_S1) 73 xW75 rfl rfl).2)) (show (0 ≤ i.toInt ∧ i.toInt ≤ 15) ∧ (o = -1 ∨ zRq ab o) ∧ aS 88 (ma_put S1 73 i.toNatClampNeg (.inl (mI S1 c3 0))) = ma_u ab 73 i.toNatClampNeg (aNm ab o) ∧ (mI S1 73 i.toNatClampNeg) = ab 73 i.toNatClampNeg from by first | (exfalso; omega) | (have tn := (xB_th (W := 88) rp0_S1 rg_c3).2.2.1; have nn := (nm_y (W := 88) rp0_S1 rg_c3); rw [(rp1_S1.trans hpre1)] at nn; refine ⟨⟨by omega, by omega⟩, (rp3_S1.imp id (fun w => rq_up w hpre1)), (xC_p (c := 73) (k := i.toNatClampNeg) (x := (mI S1 c3 0)) (xC_o (W := 88) rp0_S1) 73 xW88 rfl rfl).1.trans ?_, ?_⟩; (rw [(rp1_S1.trans hpre1), nn]; rw [tn]); (rw [← (rp1_S1.trans hpre1), (aS_I (W := 88) (S := S1) (c := 73) (c₉ := 73) (k := i.toNatClampNeg) rfl rfl)])))

/-! from 95.g30 -/
/-! the heap by numbers, the class (written by wip/tools/gen18.py) -/
theorem g_157_64_s_p87_0 {X : Nat × (Nat → Int32)} {d w : Nat} {S : ma_S} {Q : Option ma_V ⊕ Nat → ma_S → Prop} (o : Int32) (hd : 7 ≤ d) (hw : 111 ≤ w) (hS : zT S) (h : mR S 64 11 = some 87 ∧ (mR S 64 11 = some 87 ∧ (ma_wp X (d - 1) (w - 22) 149 0 [(0, .inr (.inr (some 64))), (1, .inl o)] [] S (zo (fun v2 S1 => zT S1 ∧ ((∃ c3, v2 = some c3 ∧ ((126 ≤ c3 ∧ c3 < mN S1) ∧ (if (mI S1 c3 8) = 0 then ((126 ≤ c3 ∧ c3 < mN S1) ∧ (Q (.inl (some (.inl (1 : Int32)))) (ma_put S1 c3 8 (.inl (1 : Int32))))) else ((126 ≤ c3 ∧ c3 < mN S1) ∧ (Q (.inl (some (.inl (0 : Int32)))) (ma_put S1 c3 8 (.inl (1 : Int32)))))))))) (fun x S9 => Q (.inr x) S9))))) : ma_wp X d w 157 0 [(0, .inr (.inr (some 64))), (1, .inl o)] [] S Q := by
  refine zw_push hm_157 dX11_wish_0 (v := .inr (.inr (some 64))) rfl ?_
  refine zw_cv hm_157 dX11_wish_1 v_11_119_11 hm_144 [] [] rfl (zT_rt hS s_64 rfl) ⟨by omega, by omega⟩ rfl ?_
  show ma_wp X (d - 1) (w - 20) 144 0 [(0, .inr (.inr (some 64)))] [] S _
  refine zw_push hm_144 dX11_needCollector_0 (v := .inr (.inr (some 64))) rfl ?_
  obtain ⟨hg, h⟩ := h
  refine zw_gf hm_144 dX11_needCollector_1 (v := .inr (.inr (some 87))) (zT_is hS s_64) (zT_t hS s_64) rfl f_11_98_11 (congrArg (fun z => Sum.inr (Sum.inr z)) hg) ?_
  refine zw_ifnonnull hm_144 dX11_needCollector_4 (t := 15) rfl (fun z => by cases z) (fun _ _ => ?_)
  refine zw_push hm_144 dX11_needCollector_15 (v := .inr (.inr (some 64))) rfl ?_
  obtain ⟨hg, h⟩ := h
  refine zw_gf hm_144 dX11_needCollector_16 (v := .inr (.inr (some 87))) (zT_is hS s_64) (zT_t hS s_64) rfl f_11_98_11 (congrArg (fun z => Sum.inr (Sum.inr z)) hg) ?_
  refine zw_aret hm_144 dX11_needCollector_19 ?_
  show ma_wp X d w 157 4 [(0, .inr (.inr (some 64))), (1, .inl o)] [.inr (.inr (some 87))] S _
  refine zw_stk hm_157 dX11_wish_4 (st₉ := []) rfl rfl ?_
  refine zw_push hm_157 dX11_wish_5 (v := .inr (.inr (some 64))) rfl ?_
  refine zw_push hm_157 dX11_wish_6 (v := .inl o) rfl ?_
  refine zw_cv hm_157 dX11_wish_7 v_11_123_11 hm_149 [.inl o] [] rfl (zT_rt hS s_64 rfl) ⟨by omega, by omega⟩ rfl (zw_mono h (zo_go ?_ ?_))
  · intro v2 S1 hv
    obtain ⟨hS1, h⟩ := hv
    obtain ⟨c3, hc, h⟩ := h
    subst hc
    show ma_wp X d w 157 10 [(0, .inr (.inr (some 64))), (1, .inl o)] [.inr (.inr (some c3))] S1 _
    refine zw_sto hm_157 dX11_wish_10 [(2, .inr (.inr (some c3))), (0, .inr (.inr (some 64))), (1, .inl o)] rfl rfl rfl ?_
    refine zw_push hm_157 dX11_wish_11 (v := .inr (.inr (some c3))) rfl ?_
    obtain ⟨hg, h⟩ := h
    refine zw_gf hm_157 dX11_wish_12 (v := .inl (mI S1 c3 8)) (zT_tis hS1 hg) (zT_tt hS1 hg) rfl f_11_199_9 rfl ?_
    refine zw_if0 hm_157 dX11_wish_15 (t := 22) rfl zc0_eq ?_ ?_
    · intro hc
      rw [if_pos hc] at h
      refine zw_push hm_157 dX11_wish_22 (v := .inl (1 : Int32)) rfl ?_
      refine zw_sto hm_157 dX11_wish_23 [(3, .inl (1 : Int32)), (2, .inr (.inr (some c3))), (0, .inr (.inr (some 64))), (1, .inl o)] rfl rfl rfl ?_
      refine zw_push hm_157 dX11_wish_24 (v := .inr (.inr (some c3))) rfl ?_
      refine zw_push hm_157 dX11_wish_25 (v := .inl (1 : Int32)) rfl ?_
      obtain ⟨hg, h⟩ := h
      refine zw_pf hm_157 dX11_wish_26 (zT_tis hS1 hg) (zT_tt hS1 hg) p_11_199_9 (zk_bool (by decide)) ?_
      refine zw_push hm_157 dX11_wish_29 (v := .inl (1 : Int32)) rfl ?_
      exact zw_iret hm_157 dX11_wish_30 h
    · intro hc
      rw [if_neg hc] at h
      refine zw_push hm_157 dX11_wish_18 (v := .inl (0 : Int32)) rfl ?_
      refine zw_goto hm_157 dX11_wish_19 (t := 23) rfl ?_
      refine zw_sto hm_157 dX11_wish_23 [(3, .inl (0 : Int32)), (2, .inr (.inr (some c3))), (0, .inr (.inr (some 64))), (1, .inl o)] rfl rfl rfl ?_
      refine zw_push hm_157 dX11_wish_24 (v := .inr (.inr (some c3))) rfl ?_
      refine zw_push hm_157 dX11_wish_25 (v := .inl (1 : Int32)) rfl ?_
      obtain ⟨hg, h⟩ := h
      refine zw_pf hm_157 dX11_wish_26 (zT_tis hS1 hg) (zT_tt hS1 hg) p_11_199_9 (zk_bool (by decide)) ?_
      refine zw_push hm_157 dX11_wish_29 (v := .inl (0 : Int32)) rfl ?_
      exact zw_iret hm_157 dX11_wish_30 h
  · intro x S9 hx
    exact ⟨by decide, hx⟩
theorem sp_157_64_s_p87 {X : Nat × (Nat → Int32)} {d w : Nat} {f : Nat → Nat → Int32} {r : Nat → Nat → Option Nat} {C Z N : Nat} {Q : Option ma_V ⊕ Nat → ma_S → Prop} {ab : Nat→Nat→Int32} {S : ma_S} (o : Int32) (hd : 7 ≤ d) (hw : 111 ≤ w) (hI : zB f r C Z N S) (hr : r 64 11 = some 87) (hpre0 : xB S (mR S 70)) (hpre1 : aS 88 S = ab) (K : ∀ v S₉, zB f r C Z N S₉ → (True) → (xB S₉ (mR S₉ 70)) → (zRq ab o ∧ aS 88 S₉ = ma_u ab 134 o.toNatClampNeg 1 ∧ v = (if ab 134 o.toNatClampNeg = 0 then 1 else 0)) → Q (.inl (some (.inl v))) S₉) (KX : ∀ x S₉, (x = 4) → zB f r C Z N S₉ → (xB S₉ (mR S₉ 70)) → (aS 88 S₉ = ab) → (x = 4 ∧ ¬ zRq ab o) → Q (.inr x) (ma_bump S₉)) : ma_wp X d w 157 0 [(0, .inr (.inr (some 64))), (1, .inl o)] [] S Q := by
  refine g_157_64_s_p87_0 o (by omega) (by omega) (zG_T hI) ?_
  refine ⟨((zG_r hI (by decide)).trans hr), ?_⟩
  refine ⟨((zG_r hI (by decide)).trans hr), ?_⟩
  have b1 := i_bd o
  refine sp_149_64_s (R := (mR S 70)) (a7 := (aS 75 S)) (a8 := (aS 88 S)) (o) (by omega) (by omega) (zB_dn_zI hI) (show xB S (mR S 70) from by first | (exact (xC_o (W := 75) hpre0).2)) (show aS 75 S = (aS 75 S) from by first | (exact rfl)) (show aS 88 S = (aS 88 S) from by first | (exact rfl)) (fun v2 S1 hL_S1 hq_v2 rp0_S1 rp1_S1 rp2_S1 rp3_S1 => zo_n ⟨zG_T hL_S1, ?_⟩) (fun x S9 hx h9 rx0 rx1 rx2 => by have h9u := (zB_up_zI hI h9); exact zo_x (KX x S9 (by omega) h9u (show xB S9 (mR S9 70) from by first | (exact xB_x (xC_o (W := 75) rx0).2)) (show aS 88 S9 = ab from by first | (exact rx1.trans hpre1)) (show x = 4 ∧ ¬ zRq ab o from by first | (exact ⟨rx2.1, rq_no rx2.2 hpre1⟩))))
  have hI_S1 := zB_up_zI hI hL_S1
  have rp0_S1 : xB S1 (mR S 70) := by
    have z := rp0_S1
    (try rw [show mI S 65 = f 65 from funext (fun k => zG_z hI rfl)] at z)
    (try rw [show mI S 64 1 = f 64 1 from zG_z hI rfl] at z)
    exact z
  have rp1_S1 : aS 88 S1 = (aS 88 S) := by
    have z := rp1_S1
    (try rw [show mI S 65 = f 65 from funext (fun k => zG_z hI rfl)] at z)
    (try rw [show mI S 64 1 = f 64 1 from zG_z hI rfl] at z)
    exact z
  have rp2_S1 : v2 = zTa (mR S 70) o := by
    have z := rp2_S1
    (try rw [show mI S 65 = f 65 from funext (fun k => zG_z hI rfl)] at z)
    (try rw [show mI S 64 1 = f 64 1 from zG_z hI rfl] at z)
    exact z
  have rp3_S1 : zRq (aS 75 S) o := by
    have z := rp3_S1
    (try rw [show mI S 65 = f 65 from funext (fun k => zG_z hI rfl)] at z)
    (try rw [show mI S 64 1 = f 64 1 from zG_z hI rfl] at z)
    exact z
  obtain ⟨c3, hc, th_c3⟩ := hq_v2
  have rg_c3 : zTa (mR S 70) o = some c3 := rp2_S1.symm.trans hc
  refine ⟨c3, hc, ?_⟩
  refine ⟨zG_n hI_S1 th_c3, ?_⟩
  have b2 := i_bd (mI S1 c3 8)
  have li3 : (0 : Int32).toInt = 0 := rfl
  refine zd (fun h4 => ?_) (fun h4 => ?_)
  · skip
    have g5 := i_eq h4
    refine ⟨zG_n hI_S1 th_c3, ?_⟩
    have hI6 : zB f r C Z N (ma_put S1 c3 8 (.inl (1 : Int32))) := zG_tf hI_S1 th_c3.1 zB_t (by decide) (by decide) (zB_xt (S := S1) th_c3.1 (zG_x hI_S1)) (by decide) (by decide) (by decide)
    have li7 : (1 : Int32).toInt = 1 := rfl
    exact K ((1 : Int32)) _ hI6 trivial (show xB (ma_put S1 c3 8 (.inl (1 : Int32))) (mR (ma_put S1 c3 8 (.inl (1 : Int32))) 70) from by first | (exact xB_x (xC_t (k := 8) (x := (1 : Int32)) (xC_o (W := 75) rp0_S1) xW75 rg_c3 rfl).2)) (show zRq ab o ∧ aS 88 (ma_put S1 c3 8 (.inl (1 : Int32))) = ma_u ab 134 o.toNatClampNeg 1 ∧ (1 : Int32) = (if ab 134 o.toNatClampNeg = 0 then 1 else 0) from by first | (have ty := xB_th (W := 88) rp0_S1 rg_c3; have e8 := ty.2.2.2.2.2.2.2.1; rw [(rp1_S1.trans hpre1)] at e8; refine ⟨(rq_up rp3_S1 hpre1), (xC_t (k := 8) (x := (1 : Int32)) (xC_o (W := 88) rp0_S1) xW88 rg_c3 rfl).1.trans ?_, ?_⟩; (rw [(rp1_S1.trans hpre1)]); (rw [← e8]; exact (if_pos (by assumption)).symm)))
  · skip
    have g8 := i_ne h4
    refine ⟨zG_n hI_S1 th_c3, ?_⟩
    have hI9 : zB f r C Z N (ma_put S1 c3 8 (.inl (1 : Int32))) := zG_tf hI_S1 th_c3.1 zB_t (by decide) (by decide) (zB_xt (S := S1) th_c3.1 (zG_x hI_S1)) (by decide) (by decide) (by decide)
    exact K ((0 : Int32)) _ hI9 trivial (show xB (ma_put S1 c3 8 (.inl (1 : Int32))) (mR (ma_put S1 c3 8 (.inl (1 : Int32))) 70) from by first | (exact xB_x (xC_t (k := 8) (x := (1 : Int32)) (xC_o (W := 75) rp0_S1) xW75 rg_c3 rfl).2)) (show zRq ab o ∧ aS 88 (ma_put S1 c3 8 (.inl (1 : Int32))) = ma_u ab 134 o.toNatClampNeg 1 ∧ (0 : Int32) = (if ab 134 o.toNatClampNeg = 0 then 1 else 0) from by first | (have ty := xB_th (W := 88) rp0_S1 rg_c3; have e8 := ty.2.2.2.2.2.2.2.1; rw [(rp1_S1.trans hpre1)] at e8; refine ⟨(rq_up rp3_S1 hpre1), (xC_t (k := 8) (x := (1 : Int32)) (xC_o (W := 88) rp0_S1) xW88 rg_c3 rfl).1.trans ?_, ?_⟩; (rw [(rp1_S1.trans hpre1)]); (rw [← e8]; exact (if_neg (by assumption)).symm)))

/-! from 95.g31 -/
/-! the heap by numbers, the class (written by wip/tools/gen18.py) -/
theorem g_156_64_s_p87_0 {X : Nat × (Nat → Int32)} {d w : Nat} {S : ma_S} {Q : Option ma_V ⊕ Nat → ma_S → Prop} (o : Int32) (b : Int32) (hd : 7 ≤ d) (hw : 111 ≤ w) (hS : zT S) (h : mR S 64 11 = some 87 ∧ (mR S 64 11 = some 87 ∧ (ma_wp X (d - 1) (w - 22) 149 0 [(0, .inr (.inr (some 64))), (1, .inl o)] [] S (zo (fun v2 S1 => zT S1 ∧ ((∃ c3, v2 = some c3 ∧ (if b = 0 then ((126 ≤ c3 ∧ c3 < mN S1) ∧ (if (mI S1 c3 7) = 0 then (Q (.inr 6) (ma_bump S1)) else (if b = 0 then (ma_wp X (d - 1) (w - 22) 97 0 [(0, .inr (.inr (some 69))), (1, .inr (.inr (some c3))), (2, .inl (-1 : Int32))] [] S1 (zv (fun S8 => zT S8 ∧ ((126 ≤ c3 ∧ c3 < mN S8) ∧ (Q (.inl (some (.inl (mI S8 c3 7)))) S8))) (fun x S9 => Q (.inr x) S9))) else (ma_wp X (d - 1) (w - 22) 97 0 [(0, .inr (.inr (some 69))), (1, .inr (.inr (some c3))), (2, .inl (1 : Int32))] [] S1 (zv (fun S10 => zT S10 ∧ ((126 ≤ c3 ∧ c3 < mN S10) ∧ (Q (.inl (some (.inl (mI S10 c3 7)))) S10))) (fun x S9 => Q (.inr x) S9)))))) else (if b = 0 then (ma_wp X (d - 1) (w - 22) 97 0 [(0, .inr (.inr (some 69))), (1, .inr (.inr (some c3))), (2, .inl (-1 : Int32))] [] S1 (zv (fun S4 => zT S4 ∧ ((126 ≤ c3 ∧ c3 < mN S4) ∧ (Q (.inl (some (.inl (mI S4 c3 7)))) S4))) (fun x S9 => Q (.inr x) S9))) else (ma_wp X (d - 1) (w - 22) 97 0 [(0, .inr (.inr (some 69))), (1, .inr (.inr (some c3))), (2, .inl (1 : Int32))] [] S1 (zv (fun S6 => zT S6 ∧ ((126 ≤ c3 ∧ c3 < mN S6) ∧ (Q (.inl (some (.inl (mI S6 c3 7)))) S6))) (fun x S9 => Q (.inr x) S9)))))))) (fun x S9 => Q (.inr x) S9))))) : ma_wp X d w 156 0 [(0, .inr (.inr (some 64))), (1, .inl o), (2, .inl b)] [] S Q := by
  refine zw_push hm_156 dX11_hold_0 (v := .inr (.inr (some 64))) rfl ?_
  refine zw_cv hm_156 dX11_hold_1 v_11_119_11 hm_144 [] [] rfl (zT_rt hS s_64 rfl) ⟨by omega, by omega⟩ rfl ?_
  show ma_wp X (d - 1) (w - 20) 144 0 [(0, .inr (.inr (some 64)))] [] S _
  refine zw_push hm_144 dX11_needCollector_0 (v := .inr (.inr (some 64))) rfl ?_
  obtain ⟨hg, h⟩ := h
  refine zw_gf hm_144 dX11_needCollector_1 (v := .inr (.inr (some 87))) (zT_is hS s_64) (zT_t hS s_64) rfl f_11_98_11 (congrArg (fun z => Sum.inr (Sum.inr z)) hg) ?_
  refine zw_ifnonnull hm_144 dX11_needCollector_4 (t := 15) rfl (fun z => by cases z) (fun _ _ => ?_)
  refine zw_push hm_144 dX11_needCollector_15 (v := .inr (.inr (some 64))) rfl ?_
  obtain ⟨hg, h⟩ := h
  refine zw_gf hm_144 dX11_needCollector_16 (v := .inr (.inr (some 87))) (zT_is hS s_64) (zT_t hS s_64) rfl f_11_98_11 (congrArg (fun z => Sum.inr (Sum.inr z)) hg) ?_
  refine zw_aret hm_144 dX11_needCollector_19 ?_
  show ma_wp X d w 156 4 [(0, .inr (.inr (some 64))), (1, .inl o), (2, .inl b)] [.inr (.inr (some 87))] S _
  refine zw_sto hm_156 dX11_hold_4 [(3, .inr (.inr (some 87))), (0, .inr (.inr (some 64))), (1, .inl o), (2, .inl b)] rfl rfl rfl ?_
  refine zw_push hm_156 dX11_hold_5 (v := .inr (.inr (some 64))) rfl ?_
  refine zw_push hm_156 dX11_hold_6 (v := .inl o) rfl ?_
  refine zw_cv hm_156 dX11_hold_7 v_11_123_11 hm_149 [.inl o] [] rfl (zT_rt hS s_64 rfl) ⟨by omega, by omega⟩ rfl (zw_mono h (zo_go ?_ ?_))
  · intro v2 S1 hv
    obtain ⟨hS1, h⟩ := hv
    obtain ⟨c3, hc, h⟩ := h
    subst hc
    show ma_wp X d w 156 10 [(3, .inr (.inr (some 87))), (0, .inr (.inr (some 64))), (1, .inl o), (2, .inl b)] [.inr (.inr (some c3))] S1 _
    refine zw_sto hm_156 dX11_hold_10 [(4, .inr (.inr (some c3))), (3, .inr (.inr (some 87))), (0, .inr (.inr (some 64))), (1, .inl o), (2, .inl b)] rfl rfl rfl ?_
    refine zw_push hm_156 dX11_hold_12 (v := .inr (.inr (some 87))) rfl ?_
    refine zw_push hm_156 dX11_hold_13 (v := .inr (.inr (some c3))) rfl ?_
    refine zw_cv hm_156 dX11_hold_15 v_11_185_6 hm_269 [.inr (.inr (some c3))] [] rfl (zT_rt hS1 s_87 rfl) ⟨by omega, by omega⟩ rfl ?_
    show ma_wp X (d - 1) (w - 21) 269 0 [(0, .inr (.inr (some 87))), (1, .inr (.inr (some c3)))] [] S1 _
    refine zw_push hm_269 dX1_canHold_0 (v := .inl (1 : Int32)) rfl ?_
    refine zw_bret hm_269 dX1_canHold_1 (by decide) ?_
    show ma_wp X d w 156 18 [(4, .inr (.inr (some c3))), (3, .inr (.inr (some 87))), (0, .inr (.inr (some 64))), (1, .inl o), (2, .inl b)] [.inl (1 : Int32)] S1 _
    refine zw_if0 hm_156 dX11_hold_18 (t := 33) rfl zc0_eq (fun hc => absurd hc (by decide)) (fun _ => ?_)
    refine zw_push hm_156 dX11_hold_21 (v := .inl b) rfl ?_
    refine zw_if0 hm_156 dX11_hold_22 (t := 41) rfl zc0_ne ?_ ?_
    · intro hc
      rw [if_neg hc] at h
      refine zw_push hm_156 dX11_hold_41 (v := .inr (.inr (some 64))) rfl ?_
      refine zw_gf hm_156 dX11_hold_42 (v := .inr (.inr (some 69))) (zT_is hS1 s_64) (zT_t hS1 s_64) rfl f_11_26_11 (zT_f hS1 r_64_8) ?_
      refine zw_push hm_156 dX11_hold_45 (v := .inr (.inr (some c3))) rfl ?_
      refine zw_push hm_156 dX11_hold_47 (v := .inl b) rfl ?_
      refine zw_if0 hm_156 dX11_hold_48 (t := 55) rfl zc0_eq ?_ ?_
      · intro hc
        rw [if_pos hc] at h
        refine zw_push hm_156 dX11_hold_55 (v := .inl (-1 : Int32)) rfl ?_
        refine zw_cv hm_156 dX11_hold_56 v_11_195_7 hm_97 [.inl (-1 : Int32), .inr (.inr (some c3))] [] rfl (zT_rt hS1 s_69 rfl) ⟨by omega, by omega⟩ rfl (zw_mono h (zv_go ?_ ?_))
        · intro S4 hv
          obtain ⟨hS4, h⟩ := hv
          refine zw_push hm_156 dX11_hold_59 (v := .inr (.inr (some 87))) rfl ?_
          refine zw_push hm_156 dX11_hold_60 (v := .inr (.inr (some c3))) rfl ?_
          refine zw_cv hm_156 dX11_hold_62 v_11_157_6 hm_266 [.inr (.inr (some c3))] [] rfl (zT_rt hS4 s_87 rfl) ⟨by omega, by omega⟩ rfl ?_
          show ma_wp X (d - 1) (w - 21) 266 0 [(0, .inr (.inr (some 87))), (1, .inr (.inr (some c3)))] [] S4 _
          refine zw_vret hm_266 dX1_noteFewer_0 ?_
          show ma_wp X d w 156 65 [(4, .inr (.inr (some c3))), (3, .inr (.inr (some 87))), (0, .inr (.inr (some 64))), (1, .inl o), (2, .inl b)] [] S4 _
          refine zw_push hm_156 dX11_hold_65 (v := .inr (.inr (some c3))) rfl ?_
          obtain ⟨hg, h⟩ := h
          refine zw_gf hm_156 dX11_hold_67 (v := .inl (mI S4 c3 7)) (zT_tis hS4 hg) (zT_tt hS4 hg) rfl f_11_189_9 rfl ?_
          exact zw_iret hm_156 dX11_hold_70 h
        · intro x S9 hx
          exact ⟨by decide, hx⟩
      · intro hc
        rw [if_neg hc] at h
        refine zw_push hm_156 dX11_hold_51 (v := .inl (1 : Int32)) rfl ?_
        refine zw_goto hm_156 dX11_hold_52 (t := 56) rfl ?_
        refine zw_cv hm_156 dX11_hold_56 v_11_195_7 hm_97 [.inl (1 : Int32), .inr (.inr (some c3))] [] rfl (zT_rt hS1 s_69 rfl) ⟨by omega, by omega⟩ rfl (zw_mono h (zv_go ?_ ?_))
        · intro S6 hv
          obtain ⟨hS6, h⟩ := hv
          refine zw_push hm_156 dX11_hold_59 (v := .inr (.inr (some 87))) rfl ?_
          refine zw_push hm_156 dX11_hold_60 (v := .inr (.inr (some c3))) rfl ?_
          refine zw_cv hm_156 dX11_hold_62 v_11_157_6 hm_266 [.inr (.inr (some c3))] [] rfl (zT_rt hS6 s_87 rfl) ⟨by omega, by omega⟩ rfl ?_
          show ma_wp X (d - 1) (w - 21) 266 0 [(0, .inr (.inr (some 87))), (1, .inr (.inr (some c3)))] [] S6 _
          refine zw_vret hm_266 dX1_noteFewer_0 ?_
          show ma_wp X d w 156 65 [(4, .inr (.inr (some c3))), (3, .inr (.inr (some 87))), (0, .inr (.inr (some 64))), (1, .inl o), (2, .inl b)] [] S6 _
          refine zw_push hm_156 dX11_hold_65 (v := .inr (.inr (some c3))) rfl ?_
          obtain ⟨hg, h⟩ := h
          refine zw_gf hm_156 dX11_hold_67 (v := .inl (mI S6 c3 7)) (zT_tis hS6 hg) (zT_tt hS6 hg) rfl f_11_189_9 rfl ?_
          exact zw_iret hm_156 dX11_hold_70 h
        · intro x S9 hx
          exact ⟨by decide, hx⟩
    · intro hc
      rw [if_pos (Classical.not_not.mp hc)] at h
      refine zw_push hm_156 dX11_hold_25 (v := .inr (.inr (some c3))) rfl ?_
      obtain ⟨hg, h⟩ := h
      refine zw_gf hm_156 dX11_hold_27 (v := .inl (mI S1 c3 7)) (zT_tis hS1 hg) (zT_tt hS1 hg) rfl f_11_189_9 rfl ?_
      refine zw_if0 hm_156 dX11_hold_30 (t := 41) rfl zc0_ne ?_ ?_
      · intro hc
        rw [if_neg hc] at h
        refine zw_push hm_156 dX11_hold_41 (v := .inr (.inr (some 64))) rfl ?_
        refine zw_gf hm_156 dX11_hold_42 (v := .inr (.inr (some 69))) (zT_is hS1 s_64) (zT_t hS1 s_64) rfl f_11_26_11 (zT_f hS1 r_64_8) ?_
        refine zw_push hm_156 dX11_hold_45 (v := .inr (.inr (some c3))) rfl ?_
        refine zw_push hm_156 dX11_hold_47 (v := .inl b) rfl ?_
        refine zw_if0 hm_156 dX11_hold_48 (t := 55) rfl zc0_eq ?_ ?_
        · intro hc
          rw [if_pos hc] at h
          refine zw_push hm_156 dX11_hold_55 (v := .inl (-1 : Int32)) rfl ?_
          refine zw_cv hm_156 dX11_hold_56 v_11_195_7 hm_97 [.inl (-1 : Int32), .inr (.inr (some c3))] [] rfl (zT_rt hS1 s_69 rfl) ⟨by omega, by omega⟩ rfl (zw_mono h (zv_go ?_ ?_))
          · intro S8 hv
            obtain ⟨hS8, h⟩ := hv
            refine zw_push hm_156 dX11_hold_59 (v := .inr (.inr (some 87))) rfl ?_
            refine zw_push hm_156 dX11_hold_60 (v := .inr (.inr (some c3))) rfl ?_
            refine zw_cv hm_156 dX11_hold_62 v_11_157_6 hm_266 [.inr (.inr (some c3))] [] rfl (zT_rt hS8 s_87 rfl) ⟨by omega, by omega⟩ rfl ?_
            show ma_wp X (d - 1) (w - 21) 266 0 [(0, .inr (.inr (some 87))), (1, .inr (.inr (some c3)))] [] S8 _
            refine zw_vret hm_266 dX1_noteFewer_0 ?_
            show ma_wp X d w 156 65 [(4, .inr (.inr (some c3))), (3, .inr (.inr (some 87))), (0, .inr (.inr (some 64))), (1, .inl o), (2, .inl b)] [] S8 _
            refine zw_push hm_156 dX11_hold_65 (v := .inr (.inr (some c3))) rfl ?_
            obtain ⟨hg, h⟩ := h
            refine zw_gf hm_156 dX11_hold_67 (v := .inl (mI S8 c3 7)) (zT_tis hS8 hg) (zT_tt hS8 hg) rfl f_11_189_9 rfl ?_
            exact zw_iret hm_156 dX11_hold_70 h
          · intro x S9 hx
            exact ⟨by decide, hx⟩
        · intro hc
          rw [if_neg hc] at h
          refine zw_push hm_156 dX11_hold_51 (v := .inl (1 : Int32)) rfl ?_
          refine zw_goto hm_156 dX11_hold_52 (t := 56) rfl ?_
          refine zw_cv hm_156 dX11_hold_56 v_11_195_7 hm_97 [.inl (1 : Int32), .inr (.inr (some c3))] [] rfl (zT_rt hS1 s_69 rfl) ⟨by omega, by omega⟩ rfl (zw_mono h (zv_go ?_ ?_))
          · intro S10 hv
            obtain ⟨hS10, h⟩ := hv
            refine zw_push hm_156 dX11_hold_59 (v := .inr (.inr (some 87))) rfl ?_
            refine zw_push hm_156 dX11_hold_60 (v := .inr (.inr (some c3))) rfl ?_
            refine zw_cv hm_156 dX11_hold_62 v_11_157_6 hm_266 [.inr (.inr (some c3))] [] rfl (zT_rt hS10 s_87 rfl) ⟨by omega, by omega⟩ rfl ?_
            show ma_wp X (d - 1) (w - 21) 266 0 [(0, .inr (.inr (some 87))), (1, .inr (.inr (some c3)))] [] S10 _
            refine zw_vret hm_266 dX1_noteFewer_0 ?_
            show ma_wp X d w 156 65 [(4, .inr (.inr (some c3))), (3, .inr (.inr (some 87))), (0, .inr (.inr (some 64))), (1, .inl o), (2, .inl b)] [] S10 _
            refine zw_push hm_156 dX11_hold_65 (v := .inr (.inr (some c3))) rfl ?_
            obtain ⟨hg, h⟩ := h
            refine zw_gf hm_156 dX11_hold_67 (v := .inl (mI S10 c3 7)) (zT_tis hS10 hg) (zT_tt hS10 hg) rfl f_11_189_9 rfl ?_
            exact zw_iret hm_156 dX11_hold_70 h
          · intro x S9 hx
            exact ⟨by decide, hx⟩
      · intro hc
        rw [if_pos (Classical.not_not.mp hc)] at h
        exact zw_thr hm_156 dX11_hold_33 dX11_hold_36 dX11_hold_37 dX11_hold_40 x_11_192_194 n_11_192 (by omega) (by show 0 + 81 ≤ w; omega) h
  · intro x S9 hx
    exact ⟨by decide, hx⟩
theorem sp_156_64_s_p87 {X : Nat × (Nat → Int32)} {d w : Nat} {f : Nat → Nat → Int32} {r : Nat → Nat → Option Nat} {C Z N : Nat} {Q : Option ma_V ⊕ Nat → ma_S → Prop} {ab : Nat→Nat→Int32} {S : ma_S} (o : Int32) (b : Int32) (hd : 7 ≤ d) (hw : 111 ≤ w) (hI : zB f r C Z N S) (hr : r 64 11 = some 87) (hpre0 : xB S (mR S 70)) (hpre1 : aS 88 S = ab) (hpre2 : 0 ≤ b.toInt) (hpre3 : b.toInt ≤ 1) (K : ∀ v S₉, zB f r C Z N S₉ → (True) → (xB S₉ (mR S₉ 70)) → (zRq ab o ∧ (¬ b = 0 ∨ ¬ ab 133 o.toNatClampNeg = 0) ∧ aS 88 S₉ = ma_u ab 133 o.toNatClampNeg (ab 133 o.toNatClampNeg + (if b = 0 then -1 else 1)) ∧ v = ab 133 o.toNatClampNeg + (if b = 0 then -1 else 1)) → Q (.inl (some (.inl v))) S₉) (KX : ∀ x S₉, (x = 4 ∨ x = 6) → zB f r C Z N S₉ → (xB S₉ (mR S₉ 70)) → (aS 88 S₉ = ab) → ((x = 4 ∧ ¬ zRq ab o) ∨ (x = 6 ∧ zRq ab o ∧ b = 0 ∧ ab 133 o.toNatClampNeg = 0)) → Q (.inr x) (ma_bump S₉)) : ma_wp X d w 156 0 [(0, .inr (.inr (some 64))), (1, .inl o), (2, .inl b)] [] S Q := by
  refine g_156_64_s_p87_0 o b (by omega) (by omega) (zG_T hI) ?_
  refine ⟨((zG_r hI (by decide)).trans hr), ?_⟩
  refine ⟨((zG_r hI (by decide)).trans hr), ?_⟩
  have b1 := i_bd o
  refine sp_149_64_s (R := (mR S 70)) (a7 := (aS 75 S)) (a8 := (aS 88 S)) (o) (by omega) (by omega) (zB_dn_zI hI) (show xB S (mR S 70) from by first | (exact (xC_o (W := 75) hpre0).2)) (show aS 75 S = (aS 75 S) from by first | (exact rfl)) (show aS 88 S = (aS 88 S) from by first | (exact rfl)) (fun v2 S1 hL_S1 hq_v2 rp0_S1 rp1_S1 rp2_S1 rp3_S1 => zo_n ⟨zG_T hL_S1, ?_⟩) (fun x S9 hx h9 rx0 rx1 rx2 => by have h9u := (zB_up_zI hI h9); exact zo_x (KX x S9 (by omega) h9u (show xB S9 (mR S9 70) from by first | (exact xB_x (xC_o (W := 75) rx0).2)) (show aS 88 S9 = ab from by first | (exact rx1.trans hpre1)) (show (x = 4 ∧ ¬ zRq ab o) ∨ (x = 6 ∧ zRq ab o ∧ b = 0 ∧ ab 133 o.toNatClampNeg = 0) from by first | (exact Or.inl ⟨rx2.1, rq_no rx2.2 hpre1⟩))))
  have hI_S1 := zB_up_zI hI hL_S1
  have rp0_S1 : xB S1 (mR S 70) := by
    have z := rp0_S1
    (try rw [show mI S 65 = f 65 from funext (fun k => zG_z hI rfl)] at z)
    (try rw [show mI S 64 1 = f 64 1 from zG_z hI rfl] at z)
    exact z
  have rp1_S1 : aS 88 S1 = (aS 88 S) := by
    have z := rp1_S1
    (try rw [show mI S 65 = f 65 from funext (fun k => zG_z hI rfl)] at z)
    (try rw [show mI S 64 1 = f 64 1 from zG_z hI rfl] at z)
    exact z
  have rp2_S1 : v2 = zTa (mR S 70) o := by
    have z := rp2_S1
    (try rw [show mI S 65 = f 65 from funext (fun k => zG_z hI rfl)] at z)
    (try rw [show mI S 64 1 = f 64 1 from zG_z hI rfl] at z)
    exact z
  have rp3_S1 : zRq (aS 75 S) o := by
    have z := rp3_S1
    (try rw [show mI S 65 = f 65 from funext (fun k => zG_z hI rfl)] at z)
    (try rw [show mI S 64 1 = f 64 1 from zG_z hI rfl] at z)
    exact z
  obtain ⟨c3, hc, th_c3⟩ := hq_v2
  have rg_c3 : zTa (mR S 70) o = some c3 := rp2_S1.symm.trans hc
  refine ⟨c3, hc, ?_⟩
  have b2 := i_bd b
  have li3 : (0 : Int32).toInt = 0 := rfl
  refine zd (fun h4 => ?_) (fun h4 => ?_)
  · skip
    have g5 := i_eq h4
    refine ⟨zG_n hI_S1 th_c3, ?_⟩
    have b6 := i_bd (mI S1 c3 7)
    refine zd (fun h7 => ?_) (fun h7 => ?_)
    · skip
      have g8 := i_eq h7
      exact KX 6 _ (by decide) hI_S1 (show xB S1 (mR S1 70) from by first | (exact xB_x (xC_o (W := 75) rp0_S1).2)) (show aS 88 S1 = ab from by first | (exact (xC_o (W := 88) rp0_S1).1.trans (rp1_S1.trans hpre1))) (show (6 = 4 ∧ ¬ zRq ab o) ∨ (6 = 6 ∧ zRq ab o ∧ b = 0 ∧ ab 133 o.toNatClampNeg = 0) from by first | (have ty := xB_th (W := 88) rp0_S1 rg_c3; have e7 := ty.2.2.2.2.2.2.1; rw [(rp1_S1.trans hpre1)] at e7; exact Or.inr ⟨rfl, (rq_up rp3_S1 hpre1), by assumption, by rw [← e7]; assumption⟩))
    · skip
      have g9 := i_ne h7
      refine zd (fun h10 => ?_) (fun h10 => ?_)
      · skip
        have g11 := i_eq h10
        have li12 : (-1 : Int32).toInt = -1 := rfl
        refine sp_97_69_s (ab := (aS 88 S1)) (R := (mR S 70)) (W := 88) (y := (o)) c3 ((-1 : Int32)) (by omega) (by omega) (zB_dn_zI hI_S1) th_c3 (show xB S1 (mR S 70) from by first | (exact (xC_o (W := 75) rp0_S1).2)) (show aS 88 S1 = (aS 88 S1) from by first | (exact rfl)) (show xW 88 from by first | (exact xW88)) (show zTa (mR S 70) (o) = some c3 from by first | (exact rg_c3)) (fun S8 hL_S8 rp0_S8 rp1_S8 => zv_n ⟨zG_T hL_S8, ?_⟩)
        have hI_S8 := zB_up_zI hI_S1 hL_S8
        have rp0_S8 : xB S8 (mR S 70) := by
          have z := rp0_S8
          (try rw [show mI S1 65 = f 65 from funext (fun k => zG_z hI_S1 rfl)] at z)
          (try rw [show mI S1 64 1 = f 64 1 from zG_z hI_S1 rfl] at z)
          exact z
        have rp1_S8 : aS 88 S8 = ma_u (aS 88 S1) 133 (o).toNatClampNeg ((aS 88 S1) 133 (o).toNatClampNeg + (-1 : Int32)) := by
          have z := rp1_S8
          (try rw [show mI S1 65 = f 65 from funext (fun k => zG_z hI_S1 rfl)] at z)
          (try rw [show mI S1 64 1 = f 64 1 from zG_z hI_S1 rfl] at z)
          exact z
        refine ⟨zG_n hI_S8 th_c3, ?_⟩
        have b13 := i_bd (mI S8 c3 7)
        exact K ((mI S8 c3 7)) _ hI_S8 trivial (show xB S8 (mR S8 70) from by first | (exact xB_x (xC_o (W := 75) rp0_S8).2)) (show zRq ab o ∧ (¬ b = 0 ∨ ¬ ab 133 o.toNatClampNeg = 0) ∧ aS 88 S8 = ma_u ab 133 o.toNatClampNeg (ab 133 o.toNatClampNeg + (if b = 0 then -1 else 1)) ∧ (mI S8 c3 7) = ab 133 o.toNatClampNeg + (if b = 0 then -1 else 1) from by first | (exfalso; omega) | (have ty := xB_th (W := 88) rp0_S1 rg_c3; have e7 := ty.2.2.2.2.2.2.1; rw [(rp1_S1.trans hpre1)] at e7; have t2 := xB_th (W := 88) rp0_S8 rg_c3; have f7 := t2.2.2.2.2.2.2.1; have hl := rp1_S8; rw [(rp1_S1.trans hpre1)] at hl; rw [hl, xu_s] at f7; refine ⟨(rq_up rp3_S1 hpre1), Or.inl (by assumption), ?_, ?_⟩; (rw [hl, if_neg (by assumption)]); (rw [if_neg (by assumption)]; exact f7)) | (have ty := xB_th (W := 88) rp0_S1 rg_c3; have e7 := ty.2.2.2.2.2.2.1; rw [(rp1_S1.trans hpre1)] at e7; have t2 := xB_th (W := 88) rp0_S8 rg_c3; have f7 := t2.2.2.2.2.2.2.1; have hl := rp1_S8; rw [(rp1_S1.trans hpre1)] at hl; rw [hl, xu_s] at f7; refine ⟨(rq_up rp3_S1 hpre1), Or.inr (by rw [← e7]; assumption), ?_, ?_⟩; (rw [hl, if_pos (by assumption)]); (rw [if_pos (by assumption)]; exact f7)))
      · skip
        have g14 := i_ne h10
        have li15 : (1 : Int32).toInt = 1 := rfl
        refine sp_97_69_s (ab := (aS 88 S1)) (R := (mR S 70)) (W := 88) (y := (o)) c3 ((1 : Int32)) (by omega) (by omega) (zB_dn_zI hI_S1) th_c3 (show xB S1 (mR S 70) from by first | (exact (xC_o (W := 75) rp0_S1).2)) (show aS 88 S1 = (aS 88 S1) from by first | (exact rfl)) (show xW 88 from by first | (exact xW88)) (show zTa (mR S 70) (o) = some c3 from by first | (exact rg_c3)) (fun S10 hL_S10 rp0_S10 rp1_S10 => zv_n ⟨zG_T hL_S10, ?_⟩)
        have hI_S10 := zB_up_zI hI_S1 hL_S10
        have rp0_S10 : xB S10 (mR S 70) := by
          have z := rp0_S10
          (try rw [show mI S1 65 = f 65 from funext (fun k => zG_z hI_S1 rfl)] at z)
          (try rw [show mI S1 64 1 = f 64 1 from zG_z hI_S1 rfl] at z)
          exact z
        have rp1_S10 : aS 88 S10 = ma_u (aS 88 S1) 133 (o).toNatClampNeg ((aS 88 S1) 133 (o).toNatClampNeg + (1 : Int32)) := by
          have z := rp1_S10
          (try rw [show mI S1 65 = f 65 from funext (fun k => zG_z hI_S1 rfl)] at z)
          (try rw [show mI S1 64 1 = f 64 1 from zG_z hI_S1 rfl] at z)
          exact z
        refine ⟨zG_n hI_S10 th_c3, ?_⟩
        have b16 := i_bd (mI S10 c3 7)
        exact K ((mI S10 c3 7)) _ hI_S10 trivial (show xB S10 (mR S10 70) from by first | (exact xB_x (xC_o (W := 75) rp0_S10).2)) (show zRq ab o ∧ (¬ b = 0 ∨ ¬ ab 133 o.toNatClampNeg = 0) ∧ aS 88 S10 = ma_u ab 133 o.toNatClampNeg (ab 133 o.toNatClampNeg + (if b = 0 then -1 else 1)) ∧ (mI S10 c3 7) = ab 133 o.toNatClampNeg + (if b = 0 then -1 else 1) from by first | (exfalso; omega) | (have ty := xB_th (W := 88) rp0_S1 rg_c3; have e7 := ty.2.2.2.2.2.2.1; rw [(rp1_S1.trans hpre1)] at e7; have t2 := xB_th (W := 88) rp0_S10 rg_c3; have f7 := t2.2.2.2.2.2.2.1; have hl := rp1_S10; rw [(rp1_S1.trans hpre1)] at hl; rw [hl, xu_s] at f7; refine ⟨(rq_up rp3_S1 hpre1), Or.inl (by assumption), ?_, ?_⟩; (rw [hl, if_neg (by assumption)]); (rw [if_neg (by assumption)]; exact f7)) | (have ty := xB_th (W := 88) rp0_S1 rg_c3; have e7 := ty.2.2.2.2.2.2.1; rw [(rp1_S1.trans hpre1)] at e7; have t2 := xB_th (W := 88) rp0_S10 rg_c3; have f7 := t2.2.2.2.2.2.2.1; have hl := rp1_S10; rw [(rp1_S1.trans hpre1)] at hl; rw [hl, xu_s] at f7; refine ⟨(rq_up rp3_S1 hpre1), Or.inr (by rw [← e7]; assumption), ?_, ?_⟩; (rw [hl, if_pos (by assumption)]); (rw [if_pos (by assumption)]; exact f7)))
  · skip
    have g17 := i_ne h4
    refine zd (fun h18 => ?_) (fun h18 => ?_)
    · skip
      have g19 := i_eq h18
      have li20 : (-1 : Int32).toInt = -1 := rfl
      refine sp_97_69_s (ab := (aS 88 S1)) (R := (mR S 70)) (W := 88) (y := (o)) c3 ((-1 : Int32)) (by omega) (by omega) (zB_dn_zI hI_S1) th_c3 (show xB S1 (mR S 70) from by first | (exact (xC_o (W := 75) rp0_S1).2)) (show aS 88 S1 = (aS 88 S1) from by first | (exact rfl)) (show xW 88 from by first | (exact xW88)) (show zTa (mR S 70) (o) = some c3 from by first | (exact rg_c3)) (fun S4 hL_S4 rp0_S4 rp1_S4 => zv_n ⟨zG_T hL_S4, ?_⟩)
      have hI_S4 := zB_up_zI hI_S1 hL_S4
      have rp0_S4 : xB S4 (mR S 70) := by
        have z := rp0_S4
        (try rw [show mI S1 65 = f 65 from funext (fun k => zG_z hI_S1 rfl)] at z)
        (try rw [show mI S1 64 1 = f 64 1 from zG_z hI_S1 rfl] at z)
        exact z
      have rp1_S4 : aS 88 S4 = ma_u (aS 88 S1) 133 (o).toNatClampNeg ((aS 88 S1) 133 (o).toNatClampNeg + (-1 : Int32)) := by
        have z := rp1_S4
        (try rw [show mI S1 65 = f 65 from funext (fun k => zG_z hI_S1 rfl)] at z)
        (try rw [show mI S1 64 1 = f 64 1 from zG_z hI_S1 rfl] at z)
        exact z
      refine ⟨zG_n hI_S4 th_c3, ?_⟩
      have b21 := i_bd (mI S4 c3 7)
      exact K ((mI S4 c3 7)) _ hI_S4 trivial (show xB S4 (mR S4 70) from by first | (exact xB_x (xC_o (W := 75) rp0_S4).2)) (show zRq ab o ∧ (¬ b = 0 ∨ ¬ ab 133 o.toNatClampNeg = 0) ∧ aS 88 S4 = ma_u ab 133 o.toNatClampNeg (ab 133 o.toNatClampNeg + (if b = 0 then -1 else 1)) ∧ (mI S4 c3 7) = ab 133 o.toNatClampNeg + (if b = 0 then -1 else 1) from by first | (exfalso; omega) | (have ty := xB_th (W := 88) rp0_S1 rg_c3; have e7 := ty.2.2.2.2.2.2.1; rw [(rp1_S1.trans hpre1)] at e7; have t2 := xB_th (W := 88) rp0_S4 rg_c3; have f7 := t2.2.2.2.2.2.2.1; have hl := rp1_S4; rw [(rp1_S1.trans hpre1)] at hl; rw [hl, xu_s] at f7; refine ⟨(rq_up rp3_S1 hpre1), Or.inl (by assumption), ?_, ?_⟩; (rw [hl, if_neg (by assumption)]); (rw [if_neg (by assumption)]; exact f7)) | (have ty := xB_th (W := 88) rp0_S1 rg_c3; have e7 := ty.2.2.2.2.2.2.1; rw [(rp1_S1.trans hpre1)] at e7; have t2 := xB_th (W := 88) rp0_S4 rg_c3; have f7 := t2.2.2.2.2.2.2.1; have hl := rp1_S4; rw [(rp1_S1.trans hpre1)] at hl; rw [hl, xu_s] at f7; refine ⟨(rq_up rp3_S1 hpre1), Or.inr (by rw [← e7]; assumption), ?_, ?_⟩; (rw [hl, if_pos (by assumption)]); (rw [if_pos (by assumption)]; exact f7)))
    · skip
      have g22 := i_ne h18
      have li23 : (1 : Int32).toInt = 1 := rfl
      refine sp_97_69_s (ab := (aS 88 S1)) (R := (mR S 70)) (W := 88) (y := (o)) c3 ((1 : Int32)) (by omega) (by omega) (zB_dn_zI hI_S1) th_c3 (show xB S1 (mR S 70) from by first | (exact (xC_o (W := 75) rp0_S1).2)) (show aS 88 S1 = (aS 88 S1) from by first | (exact rfl)) (show xW 88 from by first | (exact xW88)) (show zTa (mR S 70) (o) = some c3 from by first | (exact rg_c3)) (fun S6 hL_S6 rp0_S6 rp1_S6 => zv_n ⟨zG_T hL_S6, ?_⟩)
      have hI_S6 := zB_up_zI hI_S1 hL_S6
      have rp0_S6 : xB S6 (mR S 70) := by
        have z := rp0_S6
        (try rw [show mI S1 65 = f 65 from funext (fun k => zG_z hI_S1 rfl)] at z)
        (try rw [show mI S1 64 1 = f 64 1 from zG_z hI_S1 rfl] at z)
        exact z
      have rp1_S6 : aS 88 S6 = ma_u (aS 88 S1) 133 (o).toNatClampNeg ((aS 88 S1) 133 (o).toNatClampNeg + (1 : Int32)) := by
        have z := rp1_S6
        (try rw [show mI S1 65 = f 65 from funext (fun k => zG_z hI_S1 rfl)] at z)
        (try rw [show mI S1 64 1 = f 64 1 from zG_z hI_S1 rfl] at z)
        exact z
      refine ⟨zG_n hI_S6 th_c3, ?_⟩
      have b24 := i_bd (mI S6 c3 7)
      exact K ((mI S6 c3 7)) _ hI_S6 trivial (show xB S6 (mR S6 70) from by first | (exact xB_x (xC_o (W := 75) rp0_S6).2)) (show zRq ab o ∧ (¬ b = 0 ∨ ¬ ab 133 o.toNatClampNeg = 0) ∧ aS 88 S6 = ma_u ab 133 o.toNatClampNeg (ab 133 o.toNatClampNeg + (if b = 0 then -1 else 1)) ∧ (mI S6 c3 7) = ab 133 o.toNatClampNeg + (if b = 0 then -1 else 1) from by first | (exfalso; omega) | (have ty := xB_th (W := 88) rp0_S1 rg_c3; have e7 := ty.2.2.2.2.2.2.1; rw [(rp1_S1.trans hpre1)] at e7; have t2 := xB_th (W := 88) rp0_S6 rg_c3; have f7 := t2.2.2.2.2.2.2.1; have hl := rp1_S6; rw [(rp1_S1.trans hpre1)] at hl; rw [hl, xu_s] at f7; refine ⟨(rq_up rp3_S1 hpre1), Or.inl (by assumption), ?_, ?_⟩; (rw [hl, if_neg (by assumption)]); (rw [if_neg (by assumption)]; exact f7)) | (have ty := xB_th (W := 88) rp0_S1 rg_c3; have e7 := ty.2.2.2.2.2.2.1; rw [(rp1_S1.trans hpre1)] at e7; have t2 := xB_th (W := 88) rp0_S6 rg_c3; have f7 := t2.2.2.2.2.2.2.1; have hl := rp1_S6; rw [(rp1_S1.trans hpre1)] at hl; rw [hl, xu_s] at f7; refine ⟨(rq_up rp3_S1 hpre1), Or.inr (by rw [← e7]; assumption), ?_, ?_⟩; (rw [hl, if_pos (by assumption)]); (rw [if_pos (by assumption)]; exact f7)))

/-! from 95.g32 -/
/-! the heap by numbers, the class (written by wip/tools/gen18.py) -/
theorem g_153_64_s_p87_0 {X : Nat × (Nat → Int32)} {d w : Nat} {S : ma_S} {Q : Option ma_V ⊕ Nat → ma_S → Prop} (i : Int32) (o : Int32) (hd : 8 ≤ d) (hw : 134 ≤ w) (hS : zT S) (h : if i < 0 then (Q (.inr 2) (ma_bump S)) else (if (16 : Int32) ≤ i then (Q (.inr 2) (ma_bump S)) else (mR S 64 11 = some 87 ∧ (mR S 64 11 = some 87 ∧ (ma_wp X (d - 1) (w - 21) 151 0 [(0, .inr (.inr (some 64))), (1, .inl o)] [] S (zo (fun v2 S1 => zT S1 ∧ (ma_wp X (d - 1) (w - 24) 145 0 [(0, .inr (.inr (some 64))), (1, .inr (.inr (some 87))), (2, .inl i), (3, .inr (.inr v2))] [] S1 (zo (fun v4 S3 => zT S3 ∧ ((v4 = none → Q (.inl (some (.inl (-1 : Int32)))) S3) ∧ (∀ c5, v4 = some c5 → (126 ≤ c5 ∧ c5 < mN S3) ∧ (Q (.inl (some (.inl (mI S3 c5 0)))) S3)))) (fun x S9 => Q (.inr x) S9)))) (fun x S9 => Q (.inr x) S9))))))) : ma_wp X d w 153 0 [(0, .inr (.inr (some 64))), (1, .inl i), (2, .inl o)] [] S Q := by
  refine zw_push hm_153 dX11_root_0 (v := .inl i) rfl ?_
  refine zw_cs hm_153 dX11_root_1 pn_11_109 sl_11_109 hm_142 [.inl i] [] rfl ⟨by omega, by omega⟩ rfl ?_
  show ma_wp X (d - 1) (w - 20) 142 0 [(0, .inl i)] [] S _
  refine zw_push hm_142 dX11_isSlot_0 (v := .inl i) rfl ?_
  refine zw_if0 hm_142 dX11_isSlot_1 (t := 14) rfl zc0_lt ?_ ?_
  · intro hc
    rw [if_pos hc] at h
    refine zw_push hm_142 dX11_isSlot_14 (v := .inl (0 : Int32)) rfl ?_
    refine zw_bret hm_142 dX11_isSlot_15 (by decide) ?_
    show ma_wp X d w 153 4 [(0, .inr (.inr (some 64))), (1, .inl i), (2, .inl o)] [.inl (0 : Int32)] S _
    refine zw_if0 hm_153 dX11_root_4 (t := 15) rfl zc0_ne (fun hc => absurd hc (by decide)) (fun _ => ?_)
    exact zw_thr hm_153 dX11_root_7 dX11_root_10 dX11_root_11 dX11_root_14 x_11_79_81 n_11_79 (by omega) (by show 0 + 81 ≤ w; omega) h
  · intro hc
    rw [if_neg hc] at h
    refine zw_push hm_142 dX11_isSlot_4 (v := .inl i) rfl ?_
    refine zw_push hm_142 dX11_isSlot_5 (v := .inl (16 : Int32)) rfl ?_
    refine zw_if2 hm_142 dX11_isSlot_7 (t := 14) rfl zc2_ge ?_ ?_
    · intro hc
      rw [if_pos hc] at h
      refine zw_push hm_142 dX11_isSlot_14 (v := .inl (0 : Int32)) rfl ?_
      refine zw_bret hm_142 dX11_isSlot_15 (by decide) ?_
      show ma_wp X d w 153 4 [(0, .inr (.inr (some 64))), (1, .inl i), (2, .inl o)] [.inl (0 : Int32)] S _
      refine zw_if0 hm_153 dX11_root_4 (t := 15) rfl zc0_ne (fun hc => absurd hc (by decide)) (fun _ => ?_)
      exact zw_thr hm_153 dX11_root_7 dX11_root_10 dX11_root_11 dX11_root_14 x_11_79_81 n_11_79 (by omega) (by show 0 + 81 ≤ w; omega) h
    · intro hc
      rw [if_neg hc] at h
      refine zw_push hm_142 dX11_isSlot_10 (v := .inl (1 : Int32)) rfl ?_
      refine zw_goto hm_142 dX11_isSlot_11 (t := 15) rfl ?_
      refine zw_bret hm_142 dX11_isSlot_15 (by decide) ?_
      show ma_wp X d w 153 4 [(0, .inr (.inr (some 64))), (1, .inl i), (2, .inl o)] [.inl (1 : Int32)] S _
      refine zw_if0 hm_153 dX11_root_4 (t := 15) rfl zc0_ne (fun _ => ?_) (fun hc => absurd (by decide) hc)
      refine zw_push hm_153 dX11_root_15 (v := .inr (.inr (some 64))) rfl ?_
      refine zw_cv hm_153 dX11_root_16 v_11_119_11 hm_144 [] [] rfl (zT_rt hS s_64 rfl) ⟨by omega, by omega⟩ rfl ?_
      show ma_wp X (d - 1) (w - 20) 144 0 [(0, .inr (.inr (some 64)))] [] S _
      refine zw_push hm_144 dX11_needCollector_0 (v := .inr (.inr (some 64))) rfl ?_
      obtain ⟨hg, h⟩ := h
      refine zw_gf hm_144 dX11_needCollector_1 (v := .inr (.inr (some 87))) (zT_is hS s_64) (zT_t hS s_64) rfl f_11_98_11 (congrArg (fun z => Sum.inr (Sum.inr z)) hg) ?_
      refine zw_ifnonnull hm_144 dX11_needCollector_4 (t := 15) rfl (fun z => by cases z) (fun _ _ => ?_)
      refine zw_push hm_144 dX11_needCollector_15 (v := .inr (.inr (some 64))) rfl ?_
      obtain ⟨hg, h⟩ := h
      refine zw_gf hm_144 dX11_needCollector_16 (v := .inr (.inr (some 87))) (zT_is hS s_64) (zT_t hS s_64) rfl f_11_98_11 (congrArg (fun z => Sum.inr (Sum.inr z)) hg) ?_
      refine zw_aret hm_144 dX11_needCollector_19 ?_
      show ma_wp X d w 153 19 [(0, .inr (.inr (some 64))), (1, .inl i), (2, .inl o)] [.inr (.inr (some 87))] S _
      refine zw_sto hm_153 dX11_root_19 [(3, .inr (.inr (some 87))), (0, .inr (.inr (some 64))), (1, .inl i), (2, .inl o)] rfl rfl rfl ?_
      refine zw_push hm_153 dX11_root_20 (v := .inr (.inr (some 64))) rfl ?_
      refine zw_push hm_153 dX11_root_21 (v := .inl o) rfl ?_
      refine zw_cv hm_153 dX11_root_22 v_11_142_11 hm_151 [.inl o] [] rfl (zT_rt hS s_64 rfl) ⟨by omega, by omega⟩ rfl (zw_mono h (zo_go ?_ ?_))
      · intro v2 S1 hv
        obtain ⟨hS1, h⟩ := hv
        refine zw_sto hm_153 dX11_root_25 [(4, .inr (.inr v2)), (3, .inr (.inr (some 87))), (0, .inr (.inr (some 64))), (1, .inl i), (2, .inl o)] rfl rfl rfl ?_
        refine zw_push hm_153 dX11_root_27 (v := .inr (.inr (some 64))) rfl ?_
        refine zw_push hm_153 dX11_root_28 (v := .inr (.inr (some 87))) rfl ?_
        refine zw_push hm_153 dX11_root_29 (v := .inl i) rfl ?_
        refine zw_push hm_153 dX11_root_30 (v := .inr (.inr v2)) rfl ?_
        refine zw_cv hm_153 dX11_root_32 v_11_169_11 hm_145 [.inr (.inr v2), .inl i, .inr (.inr (some 87))] [] rfl (zT_rt hS1 s_64 rfl) ⟨by omega, by omega⟩ rfl (zw_mono h (zo_go ?_ ?_))
        · intro v4 S3 hv
          obtain ⟨hS3, h⟩ := hv
          refine zw_cs hm_153 dX11_root_35 pn_11_161 sl_11_161 hm_146 [.inr (.inr v4)] [] rfl ⟨by omega, by omega⟩ rfl ?_
          show ma_wp X (d - 1) (w - 20) 146 0 [(0, .inr (.inr v4))] [] S3 _
          refine zw_push hm_146 dX11_numberOf_0 (v := .inr (.inr v4)) rfl ?_
          refine zw_ifnonnull hm_146 dX11_numberOf_1 (t := 8) rfl ?_ ?_
          · intro hc
            have h := h.1 hc
            (try rw [hc])
            show ma_wp X (d - 1) (w - 20) 146 4 [(0, .inr (.inr none))] [] S3 _
            refine zw_push hm_146 dX11_numberOf_4 (v := .inl (-1 : Int32)) rfl ?_
            refine zw_goto hm_146 dX11_numberOf_5 (t := 12) rfl ?_
            refine zw_iret hm_146 dX11_numberOf_12 ?_
            show ma_wp X d w 153 38 [(4, .inr (.inr v2)), (3, .inr (.inr (some 87))), (0, .inr (.inr (some 64))), (1, .inl i), (2, .inl o)] [.inl (-1 : Int32)] S3 _
            exact zw_iret hm_153 dX11_root_38 h
          · intro c5 hc
            have h := h.2 c5 hc
            (try rw [hc])
            show ma_wp X (d - 1) (w - 20) 146 8 [(0, .inr (.inr (some c5)))] [] S3 _
            refine zw_push hm_146 dX11_numberOf_8 (v := .inr (.inr (some c5))) rfl ?_
            obtain ⟨hg, h⟩ := h
            refine zw_gf hm_146 dX11_numberOf_9 (v := .inl (mI S3 c5 0)) (zT_tis hS3 hg) (zT_tt hS3 hg) rfl f_11_182_9 rfl ?_
            refine zw_iret hm_146 dX11_numberOf_12 ?_
            show ma_wp X d w 153 38 [(4, .inr (.inr v2)), (3, .inr (.inr (some 87))), (0, .inr (.inr (some 64))), (1, .inl i), (2, .inl o)] [.inl (mI S3 c5 0)] S3 _
            exact zw_iret hm_153 dX11_root_38 h
        · intro x S9 hx
          exact ⟨by decide, hx⟩
      · intro x S9 hx
        exact ⟨by decide, hx⟩
theorem sp_153_64_s_p87 {X : Nat × (Nat → Int32)} {d w : Nat} {f : Nat → Nat → Int32} {r : Nat → Nat → Option Nat} {C Z N : Nat} {Q : Option ma_V ⊕ Nat → ma_S → Prop} {ab : Nat→Nat→Int32} {S : ma_S} (i : Int32) (o : Int32) (hd : 8 ≤ d) (hw : 134 ≤ w) (hI : zB f r C Z N S) (hr : r 64 11 = some 87) (hpre0 : xB S (mR S 70)) (hpre1 : aS 88 S = ab) (K : ∀ v S₉, zB f r C Z N S₉ → (True) → (xB S₉ (mR S₉ 70)) → ((0 ≤ i.toInt ∧ i.toInt ≤ 15) ∧ (o = -1 ∨ zRq ab o) ∧ aS 88 S₉ = aRt ab i o ∧ v = aNm ab (ab 72 i.toNatClampNeg)) → Q (.inl (some (.inl v))) S₉) (KX : ∀ x S₉, (x = 2 ∨ x = 4) → zB f r C Z N S₉ → (xB S₉ (mR S₉ 70)) → (aS 88 S₉ = ab) → ((x = 2 ∧ ¬ (0 ≤ i.toInt ∧ i.toInt ≤ 15)) ∨ ((0 ≤ i.toInt ∧ i.toInt ≤ 15) ∧ x = 4 ∧ o ≠ -1 ∧ ¬ zRq ab o)) → Q (.inr x) (ma_bump S₉)) : ma_wp X d w 153 0 [(0, .inr (.inr (some 64))), (1, .inl i), (2, .inl o)] [] S Q := by
  refine g_153_64_s_p87_0 i o (by omega) (by omega) (zG_T hI) ?_
  have b1 := i_bd i
  have li2 : (0 : Int32).toInt = 0 := rfl
  refine zd (fun h3 => ?_) (fun h3 => ?_)
  · skip
    have g4 := i_lt h3
    exact KX 2 _ (by decide) hI (show xB S (mR S 70) from by first | (exact xB_x (xC_o (W := 75) hpre0).2)) (show aS 88 S = ab from by first | (exact (xC_o (W := 88) hpre0).1.trans hpre1)) (show (2 = 2 ∧ ¬ (0 ≤ i.toInt ∧ i.toInt ≤ 15)) ∨ ((0 ≤ i.toInt ∧ i.toInt ≤ 15) ∧ 2 = 4 ∧ o ≠ -1 ∧ ¬ zRq ab o) from by first | (exact Or.inl ⟨rfl, by omega⟩))
  · skip
    have g5 := i_nlt h3
    have li6 : (16 : Int32).toInt = 16 := rfl
    refine zd (fun h7 => ?_) (fun h7 => ?_)
    · skip
      have g8 := i_le h7
      exact KX 2 _ (by decide) hI (show xB S (mR S 70) from by first | (exact xB_x (xC_o (W := 75) hpre0).2)) (show aS 88 S = ab from by first | (exact (xC_o (W := 88) hpre0).1.trans hpre1)) (show (2 = 2 ∧ ¬ (0 ≤ i.toInt ∧ i.toInt ≤ 15)) ∨ ((0 ≤ i.toInt ∧ i.toInt ≤ 15) ∧ 2 = 4 ∧ o ≠ -1 ∧ ¬ zRq ab o) from by first | (exact Or.inl ⟨rfl, by omega⟩))
    · skip
      have g9 := i_nle h7
      refine ⟨((zG_r hI (by decide)).trans hr), ?_⟩
      refine ⟨((zG_r hI (by decide)).trans hr), ?_⟩
      have b10 := i_bd o
      refine sp_151_64_s (R := (mR S 70)) (a7 := (aS 75 S)) (a8 := (aS 88 S)) (o) (by omega) (by omega) (zB_dn_zI hI) (show xB S (mR S 70) from by first | (exact (xC_o (W := 75) hpre0).2)) (show aS 75 S = (aS 75 S) from by first | (exact rfl)) (show aS 88 S = (aS 88 S) from by first | (exact rfl)) (fun v2 S1 hL_S1 hq_v2 rp0_S1 rp1_S1 rp2_S1 rp3_S1 => zo_n ⟨zG_T hL_S1, ?_⟩) (fun x S9 hx h9 rx0 rx1 rx2 => by have h9u := (zB_up_zI hI h9); exact zo_x (KX x S9 (by omega) h9u (show xB S9 (mR S9 70) from by first | (exact xB_x (xC_o (W := 75) rx0).2)) (show aS 88 S9 = ab from by first | (exact rx1.trans hpre1)) (show (x = 2 ∧ ¬ (0 ≤ i.toInt ∧ i.toInt ≤ 15)) ∨ ((0 ≤ i.toInt ∧ i.toInt ≤ 15) ∧ x = 4 ∧ o ≠ -1 ∧ ¬ zRq ab o) from by first | (exact Or.inr ⟨⟨by omega, by omega⟩, ⟨rx2.1, rx2.2.1, rq_no rx2.2.2 hpre1⟩⟩))))
      have hI_S1 := zB_up_zI hI hL_S1
      have rp0_S1 : xB S1 (mR S 70) := by
        have z := rp0_S1
        (try rw [show mI S 65 = f 65 from funext (fun k => zG_z hI rfl)] at z)
        (try rw [show mI S 64 1 = f 64 1 from zG_z hI rfl] at z)
        exact z
      have rp1_S1 : aS 88 S1 = (aS 88 S) := by
        have z := rp1_S1
        (try rw [show mI S 65 = f 65 from funext (fun k => zG_z hI rfl)] at z)
        (try rw [show mI S 64 1 = f 64 1 from zG_z hI rfl] at z)
        exact z
      have rp2_S1 : v2 = zTa (mR S 70) o := by
        have z := rp2_S1
        (try rw [show mI S 65 = f 65 from funext (fun k => zG_z hI rfl)] at z)
        (try rw [show mI S 64 1 = f 64 1 from zG_z hI rfl] at z)
        exact z
      have rp3_S1 : o = -1 ∨ zRq (aS 75 S) o := by
        have z := rp3_S1
        (try rw [show mI S 65 = f 65 from funext (fun k => zG_z hI rfl)] at z)
        (try rw [show mI S 64 1 = f 64 1 from zG_z hI rfl] at z)
        exact z
      refine sp_145_64_87_s (ab := (aS 88 S1)) (R := (mR S 70)) (y := (o)) (i) (v2) (by omega) (by omega) (zB_dn_zJ87 hI_S1) hq_v2 (show xB S1 (mR S 70) from by first | (exact (xC_o (W := 75) rp0_S1).2)) (show aS 88 S1 = (aS 88 S1) from by first | (exact rfl)) (show v2 = zTa (mR S 70) (o) from by first | (exact rp2_S1)) (by omega) (by omega) (fun v4 S3 hL_S3 hq_v4 rp0_S3 rp1_S3 rp2_S3 => zo_n ⟨zG_T hL_S3, ?_⟩)
      have hI_S3 := zB_up_zJ87 hI_S1 hL_S3
      have rp0_S3 : xB S3 (mR S 70) := by
        have z := rp0_S3
        (try rw [show mI S1 65 = f 65 from funext (fun k => zG_z hI_S1 rfl)] at z)
        (try rw [show mI S1 64 1 = f 64 1 from zG_z hI_S1 rfl] at z)
        exact z
      have rp1_S3 : aS 88 S3 = aRt (aS 88 S1) i (o) := by
        have z := rp1_S3
        (try rw [show mI S1 65 = f 65 from funext (fun k => zG_z hI_S1 rfl)] at z)
        (try rw [show mI S1 64 1 = f 64 1 from zG_z hI_S1 rfl] at z)
        exact z
      have rp2_S3 : v4 = zTa (mR S 70) ((aS 88 S1) 72 i.toNatClampNeg) := by
        have z := rp2_S3
        (try rw [show mI S1 65 = f 65 from funext (fun k => zG_z hI_S1 rfl)] at z)
        (try rw [show mI S1 64 1 = f 64 1 from zG_z hI_S1 rfl] at z)
        exact z
      refine ⟨fun hc => ?_, fun c5 hc => ?_⟩
      · skip
        have rn_c5 : zTa (mR S 70) ((aS 88 S1) 72 i.toNatClampNeg) = none := rp2_S3.symm.trans hc
        have li11 : (-1 : Int32).toInt = -1 := rfl
        exact K ((-1 : Int32)) _ hI_S3 trivial (show xB S3 (mR S3 70) from by first | (exact xB_x (xC_o (W := 75) rp0_S3).2)) (show (0 ≤ i.toInt ∧ i.toInt ≤ 15) ∧ (o = -1 ∨ zRq ab o) ∧ aS 88 S3 = aRt ab i o ∧ (-1 : Int32) = aNm ab (ab 72 i.toNatClampNeg) from by first | (exfalso; omega) | (have rt := rp1_S3; rw [(rp1_S1.trans hpre1)] at rt; have nn := nm_n (W := 88) hpre0 rn_c5; rw [hpre1] at nn; rw [(rp1_S1.trans hpre1)] at nn; refine ⟨⟨by omega, by omega⟩, (rp3_S1.imp id (fun w => rq_up w hpre1)), rt, ?_⟩; exact nn.symm) | (have rt := rp1_S3; rw [(rp1_S1.trans hpre1)] at rt; have nn := nm_n (W := 88) hpre0 rn_c5; rw [hpre1, (rp1_S1.trans hpre1)] at nn; refine ⟨⟨by omega, by omega⟩, (rp3_S1.imp id (fun w => rq_up w hpre1)), rt, ?_⟩; (try rw [(rp1_S1.trans hpre1)]); exact nn.symm))
      · skip
        have th_c5 := hq_v4 c5 hc
        have rg_c5 : zTa (mR S 70) ((aS 88 S1) 72 i.toNatClampNeg) = some c5 := rp2_S3.symm.trans hc
        subst hc
        refine ⟨zG_n hI_S3 th_c5, ?_⟩
        have f12 := zG_th hI_S3 th_c5
        exact K ((mI S3 c5 0)) _ hI_S3 trivial (show xB S3 (mR S3 70) from by first | (exact xB_x (xC_o (W := 75) rp0_S3).2)) (show (0 ≤ i.toInt ∧ i.toInt ≤ 15) ∧ (o = -1 ∨ zRq ab o) ∧ aS 88 S3 = aRt ab i o ∧ (mI S3 c5 0) = aNm ab (ab 72 i.toNatClampNeg) from by first | (exfalso; omega) | (have rt := rp1_S3; rw [(rp1_S1.trans hpre1)] at rt; have nn := nm_y (W := 88) hpre0 rg_c5; have tn := (xB_th (W := 88) rp0_S3 rg_c5).2.2.1; rw [hpre1] at nn; rw [(rp1_S1.trans hpre1)] at nn; refine ⟨⟨by omega, by omega⟩, (rp3_S1.imp id (fun w => rq_up w hpre1)), rt, ?_⟩; rw [tn]; exact nn.symm) | (have rt := rp1_S3; rw [(rp1_S1.trans hpre1)] at rt; have nn := nm_y (W := 88) hpre0 rg_c5; have tn := (xB_th (W := 88) rp0_S3 rg_c5).2.2.1; rw [hpre1, (rp1_S1.trans hpre1)] at nn; refine ⟨⟨by omega, by omega⟩, (rp3_S1.imp id (fun w => rq_up w hpre1)), rt, ?_⟩; (try rw [(rp1_S1.trans hpre1)]); (rw [tn]; (try rw [(rp1_S1.trans hpre1)])); exact nn.symm))
theorem g_159_64_s_p87_0 {X : Nat × (Nat → Int32)} {d w : Nat} {S : ma_S} {Q : Option ma_V ⊕ Nat → ma_S → Prop}  (hd : 7 ≤ d) (hw : 179 ≤ w) (hS : zT S) (h : mR S 64 11 = some 87 ∧ (mR S 64 11 = some 87 ∧ (ma_wp X (d - 1) (w - 21) 67 0 [(0, .inr (.inr (some 87)))] [] S (zi (fun v2 S1 => zT S1 ∧ (Q (.inl (some (.inl v2))) S1)) (fun _ _ => False))))) : ma_wp X d w 159 0 [(0, .inr (.inr (some 64)))] [] S Q := by
  refine zw_push hm_159 dX11_clean_0 (v := .inr (.inr (some 64))) rfl ?_
  refine zw_cv hm_159 dX11_clean_1 v_11_119_11 hm_144 [] [] rfl (zT_rt hS s_64 rfl) ⟨by omega, by omega⟩ rfl ?_
  show ma_wp X (d - 1) (w - 20) 144 0 [(0, .inr (.inr (some 64)))] [] S _
  refine zw_push hm_144 dX11_needCollector_0 (v := .inr (.inr (some 64))) rfl ?_
  obtain ⟨hg, h⟩ := h
  refine zw_gf hm_144 dX11_needCollector_1 (v := .inr (.inr (some 87))) (zT_is hS s_64) (zT_t hS s_64) rfl f_11_98_11 (congrArg (fun z => Sum.inr (Sum.inr z)) hg) ?_
  refine zw_ifnonnull hm_144 dX11_needCollector_4 (t := 15) rfl (fun z => by cases z) (fun _ _ => ?_)
  refine zw_push hm_144 dX11_needCollector_15 (v := .inr (.inr (some 64))) rfl ?_
  obtain ⟨hg, h⟩ := h
  refine zw_gf hm_144 dX11_needCollector_16 (v := .inr (.inr (some 87))) (zT_is hS s_64) (zT_t hS s_64) rfl f_11_98_11 (congrArg (fun z => Sum.inr (Sum.inr z)) hg) ?_
  refine zw_aret hm_144 dX11_needCollector_19 ?_
  show ma_wp X d w 159 4 [(0, .inr (.inr (some 64)))] [.inr (.inr (some 87))] S _
  refine zw_cv hm_159 dX11_clean_4 v_11_207_6 hm_67 [] [] rfl (zT_rt hS s_87 rfl) ⟨by omega, by omega⟩ rfl (zw_mono h (zi_go ?_ ?_))
  · intro v2 S1 hv
    obtain ⟨hS1, h⟩ := hv
    exact zw_iret hm_159 dX11_clean_7 h
  · intro x S9 hx
    exact hx.elim
theorem sp_159_64_s_p87 {X : Nat × (Nat → Int32)} {d w : Nat} {f : Nat → Nat → Int32} {r : Nat → Nat → Option Nat} {C Z N : Nat} {Q : Option ma_V ⊕ Nat → ma_S → Prop} {ab : Nat→Nat→Int32} {S : ma_S}  (hd : 7 ≤ d) (hw : 179 ≤ w) (hI : zB f r C Z N S) (hr : r 64 11 = some 87) (hpre0 : xB S (mR S 70)) (hpre1 : aS 88 S = ab) (K : ∀ v S₉, zB f r C Z N S₉ → (True) → (xB S₉ (mR S₉ 70)) → (aS 88 S₉ = aCl ab ∧ v = aFv (aC1 ab)) → Q (.inl (some (.inl v))) S₉) : ma_wp X d w 159 0 [(0, .inr (.inr (some 64)))] [] S Q := by
  refine g_159_64_s_p87_0  (by omega) (by omega) (zG_T hI) ?_
  refine ⟨((zG_r hI (by decide)).trans hr), ?_⟩
  refine ⟨((zG_r hI (by decide)).trans hr), ?_⟩
  refine sp_67_87_s (ab := (aS 88 S)) (by omega) (by omega) (zB_dn_zJ87 hI) (show xB S (mR S 70) from by first | (exact xB_x (xC_o (W := 75) hpre0).2)) (show aS 88 S = (aS 88 S) from by first | (exact rfl)) (fun v2 S1 hL_S1 hp_v2 rp0_S1 rp1_S1 => zi_n ⟨zG_T hL_S1, ?_⟩)
  have hI_S1 := zB_up_zJ87 hI hL_S1
  have rp0_S1 : xB S1 (mR S1 70) := by
    have z := rp0_S1
    (try rw [show mI S 65 = f 65 from funext (fun k => zG_z hI rfl)] at z)
    (try rw [show mI S 64 1 = f 64 1 from zG_z hI rfl] at z)
    exact z
  have rp1_S1 : aS 88 S1 = aCl (aS 88 S) ∧ v2 = aFv (aC1 (aS 88 S)) := by
    have z := rp1_S1
    (try rw [show mI S 65 = f 65 from funext (fun k => zG_z hI rfl)] at z)
    (try rw [show mI S 64 1 = f 64 1 from zG_z hI rfl] at z)
    exact z
  have b1 := i_bd v2
  exact K (v2) _ hI_S1 trivial (show xB S1 (mR S1 70) from by first | (exact xB_x (xC_o (W := 75) rp0_S1).2)) (show aS 88 S1 = aCl ab ∧ v2 = aFv (aC1 ab) from by first | (rw [← hpre1]; exact rp1_S1))
theorem g_160_64_s_p87_0 {X : Nat × (Nat → Int32)} {d w : Nat} {S : ma_S} {Q : Option ma_V ⊕ Nat → ma_S → Prop} (n : Int32) (hd : 7 ≤ d) (hw : 114 ≤ w) (hS : zT S) (h : if n < 0 then (Q (.inr 2) (ma_bump S)) else (if n ≤ (1000 : Int32) then (mR S 64 11 = some 87 ∧ (mR S 64 11 = some 87 ∧ (ma_wp X (d - 1) (w - 22) 72 0 [(0, .inr (.inr (some 87))), (1, .inl n)] [] S (zi (fun v2 S1 => zT S1 ∧ (Q (.inl (some (.inl v2))) S1)) (fun x S9 => Q (.inr x) S9))))) else (Q (.inr 2) (ma_bump S)))) : ma_wp X d w 160 0 [(0, .inr (.inr (some 64))), (1, .inl n)] [] S Q := by
  refine zw_push hm_160 dX11_step_0 (v := .inl n) rfl ?_
  refine zw_if0 hm_160 dX11_step_1 (t := 11) rfl zc0_lt ?_ ?_
  · intro hc
    rw [if_pos hc] at h
    exact zw_thr hm_160 dX11_step_11 dX11_step_14 dX11_step_15 dX11_step_18 x_11_79_81 n_11_79 (by omega) (by show 0 + 81 ≤ w; omega) h
  · intro hc
    rw [if_neg hc] at h
    refine zw_push hm_160 dX11_step_4 (v := .inl n) rfl ?_
    refine zw_push hm_160 dX11_step_5 (v := .inl (1000 : Int32)) rfl ?_
    refine zw_if2 hm_160 dX11_step_8 (t := 19) rfl zc2_le ?_ ?_
    · intro hc
      rw [if_pos hc] at h
      refine zw_push hm_160 dX11_step_19 (v := .inr (.inr (some 64))) rfl ?_
      refine zw_cv hm_160 dX11_step_20 v_11_119_11 hm_144 [] [] rfl (zT_rt hS s_64 rfl) ⟨by omega, by omega⟩ rfl ?_
      show ma_wp X (d - 1) (w - 20) 144 0 [(0, .inr (.inr (some 64)))] [] S _
      refine zw_push hm_144 dX11_needCollector_0 (v := .inr (.inr (some 64))) rfl ?_
      obtain ⟨hg, h⟩ := h
      refine zw_gf hm_144 dX11_needCollector_1 (v := .inr (.inr (some 87))) (zT_is hS s_64) (zT_t hS s_64) rfl f_11_98_11 (congrArg (fun z => Sum.inr (Sum.inr z)) hg) ?_
      refine zw_ifnonnull hm_144 dX11_needCollector_4 (t := 15) rfl (fun z => by cases z) (fun _ _ => ?_)
      refine zw_push hm_144 dX11_needCollector_15 (v := .inr (.inr (some 64))) rfl ?_
      obtain ⟨hg, h⟩ := h
      refine zw_gf hm_144 dX11_needCollector_16 (v := .inr (.inr (some 87))) (zT_is hS s_64) (zT_t hS s_64) rfl f_11_98_11 (congrArg (fun z => Sum.inr (Sum.inr z)) hg) ?_
      refine zw_aret hm_144 dX11_needCollector_19 ?_
      show ma_wp X d w 160 23 [(0, .inr (.inr (some 64))), (1, .inl n)] [.inr (.inr (some 87))] S _
      refine zw_sto hm_160 dX11_step_23 [(3, .inr (.inr (some 87))), (0, .inr (.inr (some 64))), (1, .inl n)] rfl rfl rfl ?_
      refine zw_push hm_160 dX11_step_24 (v := .inr (.inr (some 87))) rfl ?_
      refine zw_iof hm_160 dX11_step_25 (zT_is hS s_87) (zT_t hS s_87) rfl ct_11_58_6 (v := (1 : Int32)) rfl ?_
      refine zw_if0 hm_160 dX11_step_28 (t := 42) rfl zc0_eq (fun hc => absurd hc (by decide)) (fun _ => ?_)
      refine zw_push hm_160 dX11_step_31 (v := .inr (.inr (some 87))) rfl ?_
      refine zw_cast hm_160 dX11_step_32 (zT_is hS s_87) (zT_t hS s_87) rfl ct_11_58_6 ?_
      refine zw_sto hm_160 dX11_step_35 [(2, .inr (.inr (some 87))), (3, .inr (.inr (some 87))), (0, .inr (.inr (some 64))), (1, .inl n)] rfl rfl rfl ?_
      refine zw_push hm_160 dX11_step_36 (v := .inr (.inr (some 87))) rfl ?_
      refine zw_push hm_160 dX11_step_37 (v := .inl n) rfl ?_
      refine zw_cv hm_160 dX11_step_38 v_11_210_6 hm_72 [.inl n] [] rfl (zT_rt hS s_87 rfl) ⟨by omega, by omega⟩ rfl (zw_mono h (zi_go ?_ ?_))
      · intro v2 S1 hv
        obtain ⟨hS1, h⟩ := hv
        exact zw_iret hm_160 dX11_step_41 h
      · intro x S9 hx
        exact ⟨by decide, hx⟩
    · intro hc
      rw [if_neg hc] at h
      exact zw_thr hm_160 dX11_step_11 dX11_step_14 dX11_step_15 dX11_step_18 x_11_79_81 n_11_79 (by omega) (by show 0 + 81 ≤ w; omega) h
theorem sp_160_64_s_p87 {X : Nat × (Nat → Int32)} {d w : Nat} {f : Nat → Nat → Int32} {r : Nat → Nat → Option Nat} {C Z N : Nat} {Q : Option ma_V ⊕ Nat → ma_S → Prop} {ab : Nat→Nat→Int32} {S : ma_S} (n : Int32) (hd : 7 ≤ d) (hw : 114 ≤ w) (hI : zB f r C Z N S) (hr : r 64 11 = some 87) (hpre0 : xB S (mR S 70)) (hpre1 : aS 88 S = ab) (K : ∀ v S₉, zB f r C Z N S₉ → (True) → (xB S₉ (mR S₉ 70)) → ((0 ≤ n.toInt ∧ n.toInt ≤ 1000) ∧ aS 88 S₉ = aGo ab n.toInt.toNat ∧ v.toInt = aGv ab n.toInt.toNat) → Q (.inl (some (.inl v))) S₉) (KX : ∀ x S₉, (x = 2) → zB f r C Z N S₉ → (xB S₉ (mR S₉ 70)) → (aS 88 S₉ = ab) → (x = 2 ∧ ¬ (0 ≤ n.toInt ∧ n.toInt ≤ 1000)) → Q (.inr x) (ma_bump S₉)) : ma_wp X d w 160 0 [(0, .inr (.inr (some 64))), (1, .inl n)] [] S Q := by
  refine g_160_64_s_p87_0 n (by omega) (by omega) (zG_T hI) ?_
  have b1 := i_bd n
  have li2 : (0 : Int32).toInt = 0 := rfl
  refine zd (fun h3 => ?_) (fun h3 => ?_)
  · skip
    have g4 := i_lt h3
    exact KX 2 _ (by decide) hI (show xB S (mR S 70) from by first | (exact xB_x (xC_o (W := 75) hpre0).2)) (show aS 88 S = ab from by first | (exact (xC_o (W := 88) hpre0).1.trans hpre1)) (show 2 = 2 ∧ ¬ (0 ≤ n.toInt ∧ n.toInt ≤ 1000) from by first | (exact ⟨rfl, by omega⟩))
  · skip
    have g5 := i_nlt h3
    have li6 : (1000 : Int32).toInt = 1000 := rfl
    refine zd (fun h7 => ?_) (fun h7 => ?_)
    · skip
      have g8 := i_le h7
      refine ⟨((zG_r hI (by decide)).trans hr), ?_⟩
      refine ⟨((zG_r hI (by decide)).trans hr), ?_⟩
      refine sp_72_87_s (ab := (aS 88 S)) (n) (by omega) (by omega) (zB_dn_zJ87 hI) (show xB S (mR S 70) from by first | (exact xB_x (xC_o (W := 75) hpre0).2)) (show aS 88 S = (aS 88 S) from by first | (exact rfl)) (show 0 ≤ n.toInt from by first | (omega)) (fun v2 S1 hL_S1 hp_v2 rp0_S1 rp1_S1 => zi_n ⟨zG_T hL_S1, ?_⟩)
      have hI_S1 := zB_up_zJ87 hI hL_S1
      have rp0_S1 : xB S1 (mR S1 70) := by
        have z := rp0_S1
        (try rw [show mI S 65 = f 65 from funext (fun k => zG_z hI rfl)] at z)
        (try rw [show mI S 64 1 = f 64 1 from zG_z hI rfl] at z)
        exact z
      have rp1_S1 : aS 88 S1 = aGo (aS 88 S) n.toInt.toNat ∧ v2.toInt = aGv (aS 88 S) n.toInt.toNat := by
        have z := rp1_S1
        (try rw [show mI S 65 = f 65 from funext (fun k => zG_z hI rfl)] at z)
        (try rw [show mI S 64 1 = f 64 1 from zG_z hI rfl] at z)
        exact z
      have b9 := i_bd v2
      exact K (v2) _ hI_S1 trivial (show xB S1 (mR S1 70) from by first | (exact xB_x (xC_o (W := 75) rp0_S1).2)) (show (0 ≤ n.toInt ∧ n.toInt ≤ 1000) ∧ aS 88 S1 = aGo ab n.toInt.toNat ∧ v2.toInt = aGv ab n.toInt.toNat from by first | (refine ⟨⟨by omega, by omega⟩, ?_⟩; rw [← hpre1]; exact rp1_S1))
    · skip
      have g10 := i_nle h7
      exact KX 2 _ (by decide) hI (show xB S (mR S 70) from by first | (exact xB_x (xC_o (W := 75) hpre0).2)) (show aS 88 S = ab from by first | (exact (xC_o (W := 88) hpre0).1.trans hpre1)) (show 2 = 2 ∧ ¬ (0 ≤ n.toInt ∧ n.toInt ≤ 1000) from by first | (exact ⟨rfl, by omega⟩))

/-! from 95.g33 -/
/-! the heap by numbers, the class (written by wip/tools/gen18.py) -/
theorem g_150_64_s_p87_0 {X : Nat × (Nat → Int32)} {d w : Nat} {S : ma_S} {Q : Option ma_V ⊕ Nat → ma_S → Prop} (o : Int32) (i : Int32) (t : Int32) (hd : 8 ≤ d) (hw : 132 ≤ w) (hS : zT S) (h : mR S 64 11 = some 87 ∧ (mR S 64 11 = some 87 ∧ (ma_wp X (d - 1) (w - 22) 149 0 [(0, .inr (.inr (some 64))), (1, .inl o)] [] S (zo (fun v2 S1 => zT S1 ∧ ((∃ c3, v2 = some c3 ∧ (ma_wp X (d - 1) (w - 21) 151 0 [(0, .inr (.inr (some 64))), (1, .inl t)] [] S1 (zo (fun v5 S4 => zT S4 ∧ ((126 ≤ c3 ∧ c3 < mN S4) ∧ (if i < 0 then (Q (.inr 1) (ma_bump S4)) else ((126 ≤ c3 ∧ c3 < mN S4) ∧ (if ((mI S4 c3 2) - (1 : Int32)) ≤ i then (Q (.inr 1) (ma_bump S4)) else ((126 ≤ c3 ∧ c3 < mN S4) ∧ ((126 ≤ c3 ∧ c3 < mN S4) ∧ (if i < 0 then (Q (.inr 5) (ma_bump S4)) else ((126 ≤ c3 ∧ c3 < mN S4) ∧ (if ((mI S4 c3 2) - (1 : Int32)) ≤ i then (Q (.inr 5) (ma_bump S4)) else ((126 ≤ c3 ∧ c3 < mN S4) ∧ (if (lg_cmp ((((mL S4 c3 3).toUInt64 >>> (i.toInt64.toUInt64 &&& Int64.toUInt64 63)).toInt64) &&& (1 : Int64)) (0 : Int64)) = 0 then (Q (.inr 5) (ma_bump S4)) else (ma_wp X (d - 1) (w - 24) 94 0 [(0, .inr (.inr (some 69))), (1, .inr (.inr (some c3))), (2, .inl i), (3, .inr (.inr v5))] [] S4 (zo (fun v7 S6 => zT S6 ∧ (ma_wp X (d - 1) (w - 22) 74 0 [(0, .inr (.inr (some 87))), (1, .inr (.inr v7)), (2, .inr (.inr v5))] [] S6 (zv (fun S8 => zT S8 ∧ ((v7 = none → Q (.inl (some (.inl (-1 : Int32)))) S8) ∧ (∀ c10, v7 = some c10 → (126 ≤ c10 ∧ c10 < mN S8) ∧ (Q (.inl (some (.inl (mI S8 c10 0)))) S8)))) (fun _ _ => False)))) (fun x S9 => Q (.inr x) S9))))))))))))))) (fun x S9 => Q (.inr x) S9)))))) (fun x S9 => Q (.inr x) S9))))) : ma_wp X d w 150 0 [(0, .inr (.inr (some 64))), (1, .inl o), (2, .inl i), (3, .inl t)] [] S Q := by
  refine zw_push hm_150 dX11_link_0 (v := .inr (.inr (some 64))) rfl ?_
  refine zw_cv hm_150 dX11_link_1 v_11_119_11 hm_144 [] [] rfl (zT_rt hS s_64 rfl) ⟨by omega, by omega⟩ rfl ?_
  show ma_wp X (d - 1) (w - 20) 144 0 [(0, .inr (.inr (some 64)))] [] S _
  refine zw_push hm_144 dX11_needCollector_0 (v := .inr (.inr (some 64))) rfl ?_
  obtain ⟨hg, h⟩ := h
  refine zw_gf hm_144 dX11_needCollector_1 (v := .inr (.inr (some 87))) (zT_is hS s_64) (zT_t hS s_64) rfl f_11_98_11 (congrArg (fun z => Sum.inr (Sum.inr z)) hg) ?_
  refine zw_ifnonnull hm_144 dX11_needCollector_4 (t := 15) rfl (fun z => by cases z) (fun _ _ => ?_)
  refine zw_push hm_144 dX11_needCollector_15 (v := .inr (.inr (some 64))) rfl ?_
  obtain ⟨hg, h⟩ := h
  refine zw_gf hm_144 dX11_needCollector_16 (v := .inr (.inr (some 87))) (zT_is hS s_64) (zT_t hS s_64) rfl f_11_98_11 (congrArg (fun z => Sum.inr (Sum.inr z)) hg) ?_
  refine zw_aret hm_144 dX11_needCollector_19 ?_
  show ma_wp X d w 150 4 [(0, .inr (.inr (some 64))), (1, .inl o), (2, .inl i), (3, .inl t)] [.inr (.inr (some 87))] S _
  refine zw_sto hm_150 dX11_link_4 [(4, .inr (.inr (some 87))), (0, .inr (.inr (some 64))), (1, .inl o), (2, .inl i), (3, .inl t)] rfl rfl rfl ?_
  refine zw_push hm_150 dX11_link_6 (v := .inr (.inr (some 64))) rfl ?_
  refine zw_push hm_150 dX11_link_7 (v := .inl o) rfl ?_
  refine zw_cv hm_150 dX11_link_8 v_11_123_11 hm_149 [.inl o] [] rfl (zT_rt hS s_64 rfl) ⟨by omega, by omega⟩ rfl (zw_mono h (zo_go ?_ ?_))
  · intro v2 S1 hv
    obtain ⟨hS1, h⟩ := hv
    obtain ⟨c3, hc, h⟩ := h
    subst hc
    show ma_wp X d w 150 11 [(4, .inr (.inr (some 87))), (0, .inr (.inr (some 64))), (1, .inl o), (2, .inl i), (3, .inl t)] [.inr (.inr (some c3))] S1 _
    refine zw_sto hm_150 dX11_link_11 [(5, .inr (.inr (some c3))), (4, .inr (.inr (some 87))), (0, .inr (.inr (some 64))), (1, .inl o), (2, .inl i), (3, .inl t)] rfl rfl rfl ?_
    refine zw_push hm_150 dX11_link_13 (v := .inr (.inr (some 64))) rfl ?_
    refine zw_push hm_150 dX11_link_14 (v := .inl t) rfl ?_
    refine zw_cv hm_150 dX11_link_15 v_11_142_11 hm_151 [.inl t] [] rfl (zT_rt hS1 s_64 rfl) ⟨by omega, by omega⟩ rfl (zw_mono h (zo_go ?_ ?_))
    · intro v5 S4 hv
      obtain ⟨hS4, h⟩ := hv
      refine zw_sto hm_150 dX11_link_18 [(6, .inr (.inr v5)), (5, .inr (.inr (some c3))), (4, .inr (.inr (some 87))), (0, .inr (.inr (some 64))), (1, .inl o), (2, .inl i), (3, .inl t)] rfl rfl rfl ?_
      refine zw_push hm_150 dX11_link_20 (v := .inr (.inr (some c3))) rfl ?_
      refine zw_push hm_150 dX11_link_22 (v := .inl i) rfl ?_
      obtain ⟨hg, h⟩ := h
      refine zw_cv hm_150 dX11_link_23 v_11_127_9 hm_114 [.inl i] [] rfl (zT_trt hS4 hg) ⟨by omega, by omega⟩ rfl ?_
      show ma_wp X (d - 1) (w - 21) 114 0 [(0, .inr (.inr (some c3))), (1, .inl i)] [] S4 _
      refine zw_push hm_114 dX9_hasWord_0 (v := .inl i) rfl ?_
      refine zw_if0 hm_114 dX9_hasWord_1 (t := 18) rfl zc0_lt ?_ ?_
      · intro hc
        rw [if_pos hc] at h
        refine zw_push hm_114 dX9_hasWord_18 (v := .inl (0 : Int32)) rfl ?_
        refine zw_bret hm_114 dX9_hasWord_19 (by decide) ?_
        show ma_wp X d w 150 26 [(6, .inr (.inr v5)), (5, .inr (.inr (some c3))), (4, .inr (.inr (some 87))), (0, .inr (.inr (some 64))), (1, .inl o), (2, .inl i), (3, .inl t)] [.inl (0 : Int32)] S4 _
        refine zw_if0 hm_150 dX11_link_26 (t := 37) rfl zc0_ne (fun hc => absurd hc (by decide)) (fun _ => ?_)
        exact zw_thr hm_150 dX11_link_29 dX11_link_32 dX11_link_33 dX11_link_36 x_11_72_74 n_11_72 (by omega) (by show 0 + 81 ≤ w; omega) h
      · intro hc
        rw [if_neg hc] at h
        refine zw_push hm_114 dX9_hasWord_4 (v := .inl i) rfl ?_
        refine zw_push hm_114 dX9_hasWord_5 (v := .inr (.inr (some c3))) rfl ?_
        obtain ⟨hg, h⟩ := h
        refine zw_gf hm_114 dX9_hasWord_6 (v := .inl (mI S4 c3 2)) (zT_tis hS4 hg) (zT_tt hS4 hg) rfl f_9_16_9 rfl ?_
        refine zw_push hm_114 dX9_hasWord_9 (v := .inl (1 : Int32)) rfl ?_
        refine zw_stk hm_114 dX9_hasWord_10 (st₉ := [.inl ((mI S4 c3 2) - (1 : Int32)), .inl i]) rfl rfl ?_
        refine zw_if2 hm_114 dX9_hasWord_11 (t := 18) rfl zc2_ge ?_ ?_
        · intro hc
          rw [if_pos hc] at h
          refine zw_push hm_114 dX9_hasWord_18 (v := .inl (0 : Int32)) rfl ?_
          refine zw_bret hm_114 dX9_hasWord_19 (by decide) ?_
          show ma_wp X d w 150 26 [(6, .inr (.inr v5)), (5, .inr (.inr (some c3))), (4, .inr (.inr (some 87))), (0, .inr (.inr (some 64))), (1, .inl o), (2, .inl i), (3, .inl t)] [.inl (0 : Int32)] S4 _
          refine zw_if0 hm_150 dX11_link_26 (t := 37) rfl zc0_ne (fun hc => absurd hc (by decide)) (fun _ => ?_)
          exact zw_thr hm_150 dX11_link_29 dX11_link_32 dX11_link_33 dX11_link_36 x_11_72_74 n_11_72 (by omega) (by show 0 + 81 ≤ w; omega) h
        · intro hc
          rw [if_neg hc] at h
          refine zw_push hm_114 dX9_hasWord_14 (v := .inl (1 : Int32)) rfl ?_
          refine zw_goto hm_114 dX9_hasWord_15 (t := 19) rfl ?_
          refine zw_bret hm_114 dX9_hasWord_19 (by decide) ?_
          show ma_wp X d w 150 26 [(6, .inr (.inr v5)), (5, .inr (.inr (some c3))), (4, .inr (.inr (some 87))), (0, .inr (.inr (some 64))), (1, .inl o), (2, .inl i), (3, .inl t)] [.inl (1 : Int32)] S4 _
          refine zw_if0 hm_150 dX11_link_26 (t := 37) rfl zc0_ne (fun _ => ?_) (fun hc => absurd (by decide) hc)
          refine zw_push hm_150 dX11_link_37 (v := .inr (.inr (some c3))) rfl ?_
          refine zw_push hm_150 dX11_link_39 (v := .inl i) rfl ?_
          obtain ⟨hg, h⟩ := h
          refine zw_cv hm_150 dX11_link_40 v_11_132_9 hm_113 [.inl i] [] rfl (zT_trt hS4 hg) ⟨by omega, by omega⟩ rfl ?_
          show ma_wp X (d - 1) (w - 21) 113 0 [(0, .inr (.inr (some c3))), (1, .inl i)] [] S4 _
          refine zw_push hm_113 dX9_isReference_0 (v := .inr (.inr (some c3))) rfl ?_
          refine zw_push hm_113 dX9_isReference_1 (v := .inl i) rfl ?_
          obtain ⟨hg, h⟩ := h
          refine zw_cv hm_113 dX9_isReference_2 v_9_26_9 hm_114 [.inl i] [] rfl (zT_trt hS4 hg) ⟨by omega, by omega⟩ rfl ?_
          show ma_wp X ((d - 1) - 1) ((w - 21) - 21) 114 0 [(0, .inr (.inr (some c3))), (1, .inl i)] [] S4 _
          refine zw_push hm_114 dX9_hasWord_0 (v := .inl i) rfl ?_
          refine zw_if0 hm_114 dX9_hasWord_1 (t := 18) rfl zc0_lt ?_ ?_
          · intro hc
            rw [if_pos hc] at h
            refine zw_push hm_114 dX9_hasWord_18 (v := .inl (0 : Int32)) rfl ?_
            refine zw_bret hm_114 dX9_hasWord_19 (by decide) ?_
            show ma_wp X (d - 1) (w - 21) 113 5 [(0, .inr (.inr (some c3))), (1, .inl i)] [.inl (0 : Int32)] S4 _
            refine zw_if0 hm_113 dX9_isReference_5 (t := 25) rfl zc0_eq (fun _ => ?_) (fun hc => absurd (by decide) hc)
            refine zw_push hm_113 dX9_isReference_25 (v := .inl (0 : Int32)) rfl ?_
            refine zw_bret hm_113 dX9_isReference_26 (by decide) ?_
            show ma_wp X d w 150 43 [(6, .inr (.inr v5)), (5, .inr (.inr (some c3))), (4, .inr (.inr (some 87))), (0, .inr (.inr (some 64))), (1, .inl o), (2, .inl i), (3, .inl t)] [.inl (0 : Int32)] S4 _
            refine zw_if0 hm_150 dX11_link_43 (t := 54) rfl zc0_ne (fun hc => absurd hc (by decide)) (fun _ => ?_)
            exact zw_thr hm_150 dX11_link_46 dX11_link_49 dX11_link_50 dX11_link_53 x_11_135_137 n_11_135 (by omega) (by show 0 + 81 ≤ w; omega) h
          · intro hc
            rw [if_neg hc] at h
            refine zw_push hm_114 dX9_hasWord_4 (v := .inl i) rfl ?_
            refine zw_push hm_114 dX9_hasWord_5 (v := .inr (.inr (some c3))) rfl ?_
            obtain ⟨hg, h⟩ := h
            refine zw_gf hm_114 dX9_hasWord_6 (v := .inl (mI S4 c3 2)) (zT_tis hS4 hg) (zT_tt hS4 hg) rfl f_9_16_9 rfl ?_
            refine zw_push hm_114 dX9_hasWord_9 (v := .inl (1 : Int32)) rfl ?_
            refine zw_stk hm_114 dX9_hasWord_10 (st₉ := [.inl ((mI S4 c3 2) - (1 : Int32)), .inl i]) rfl rfl ?_
            refine zw_if2 hm_114 dX9_hasWord_11 (t := 18) rfl zc2_ge ?_ ?_
            · intro hc
              rw [if_pos hc] at h
              refine zw_push hm_114 dX9_hasWord_18 (v := .inl (0 : Int32)) rfl ?_
              refine zw_bret hm_114 dX9_hasWord_19 (by decide) ?_
              show ma_wp X (d - 1) (w - 21) 113 5 [(0, .inr (.inr (some c3))), (1, .inl i)] [.inl (0 : Int32)] S4 _
              refine zw_if0 hm_113 dX9_isReference_5 (t := 25) rfl zc0_eq (fun _ => ?_) (fun hc => absurd (by decide) hc)
              refine zw_push hm_113 dX9_isReference_25 (v := .inl (0 : Int32)) rfl ?_
              refine zw_bret hm_113 dX9_isReference_26 (by decide) ?_
              show ma_wp X d w 150 43 [(6, .inr (.inr v5)), (5, .inr (.inr (some c3))), (4, .inr (.inr (some 87))), (0, .inr (.inr (some 64))), (1, .inl o), (2, .inl i), (3, .inl t)] [.inl (0 : Int32)] S4 _
              refine zw_if0 hm_150 dX11_link_43 (t := 54) rfl zc0_ne (fun hc => absurd hc (by decide)) (fun _ => ?_)
              exact zw_thr hm_150 dX11_link_46 dX11_link_49 dX11_link_50 dX11_link_53 x_11_135_137 n_11_135 (by omega) (by show 0 + 81 ≤ w; omega) h
            · intro hc
              rw [if_neg hc] at h
              refine zw_push hm_114 dX9_hasWord_14 (v := .inl (1 : Int32)) rfl ?_
              refine zw_goto hm_114 dX9_hasWord_15 (t := 19) rfl ?_
              refine zw_bret hm_114 dX9_hasWord_19 (by decide) ?_
              show ma_wp X (d - 1) (w - 21) 113 5 [(0, .inr (.inr (some c3))), (1, .inl i)] [.inl (1 : Int32)] S4 _
              refine zw_if0 hm_113 dX9_isReference_5 (t := 25) rfl zc0_eq (fun hc => absurd hc (by decide)) (fun _ => ?_)
              refine zw_push hm_113 dX9_isReference_8 (v := .inr (.inr (some c3))) rfl ?_
              obtain ⟨hg, h⟩ := h
              refine zw_gf hm_113 dX9_isReference_9 (v := .inr (.inl (mL S4 c3 3))) (zT_tis hS4 hg) (zT_tt hS4 hg) rfl f_9_19_9 rfl ?_
              refine zw_push hm_113 dX9_isReference_12 (v := .inl i) rfl ?_
              refine zw_stk hm_113 dX9_isReference_13 (st₉ := [.inr (.inl (((mL S4 c3 3).toUInt64 >>> (i.toInt64.toUInt64 &&& Int64.toUInt64 63)).toInt64))]) rfl rfl ?_
              refine zw_push hm_113 dX9_isReference_14 (v := .inr (.inl (1 : Int64))) rfl ?_
              refine zw_stk hm_113 dX9_isReference_15 (st₉ := [.inr (.inl ((((mL S4 c3 3).toUInt64 >>> (i.toInt64.toUInt64 &&& Int64.toUInt64 63)).toInt64) &&& (1 : Int64)))]) rfl rfl ?_
              refine zw_push hm_113 dX9_isReference_16 (v := .inr (.inl (0 : Int64))) rfl ?_
              refine zw_stk hm_113 dX9_isReference_17 (st₉ := [.inl (lg_cmp ((((mL S4 c3 3).toUInt64 >>> (i.toInt64.toUInt64 &&& Int64.toUInt64 63)).toInt64) &&& (1 : Int64)) (0 : Int64))]) rfl rfl ?_
              refine zw_if0 hm_113 dX9_isReference_18 (t := 25) rfl zc0_eq ?_ ?_
              · intro hc
                rw [if_pos hc] at h
                refine zw_push hm_113 dX9_isReference_25 (v := .inl (0 : Int32)) rfl ?_
                refine zw_bret hm_113 dX9_isReference_26 (by decide) ?_
                show ma_wp X d w 150 43 [(6, .inr (.inr v5)), (5, .inr (.inr (some c3))), (4, .inr (.inr (some 87))), (0, .inr (.inr (some 64))), (1, .inl o), (2, .inl i), (3, .inl t)] [.inl (0 : Int32)] S4 _
                refine zw_if0 hm_150 dX11_link_43 (t := 54) rfl zc0_ne (fun hc => absurd hc (by decide)) (fun _ => ?_)
                exact zw_thr hm_150 dX11_link_46 dX11_link_49 dX11_link_50 dX11_link_53 x_11_135_137 n_11_135 (by omega) (by show 0 + 81 ≤ w; omega) h
              · intro hc
                rw [if_neg hc] at h
                refine zw_push hm_113 dX9_isReference_21 (v := .inl (1 : Int32)) rfl ?_
                refine zw_goto hm_113 dX9_isReference_22 (t := 26) rfl ?_
                refine zw_bret hm_113 dX9_isReference_26 (by decide) ?_
                show ma_wp X d w 150 43 [(6, .inr (.inr v5)), (5, .inr (.inr (some c3))), (4, .inr (.inr (some 87))), (0, .inr (.inr (some 64))), (1, .inl o), (2, .inl i), (3, .inl t)] [.inl (1 : Int32)] S4 _
                refine zw_if0 hm_150 dX11_link_43 (t := 54) rfl zc0_ne (fun _ => ?_) (fun hc => absurd (by decide) hc)
                refine zw_push hm_150 dX11_link_54 (v := .inr (.inr (some 64))) rfl ?_
                refine zw_gf hm_150 dX11_link_55 (v := .inr (.inr (some 69))) (zT_is hS4 s_64) (zT_t hS4 s_64) rfl f_11_26_11 (zT_f hS4 r_64_8) ?_
                refine zw_push hm_150 dX11_link_58 (v := .inr (.inr (some c3))) rfl ?_
                refine zw_push hm_150 dX11_link_60 (v := .inl i) rfl ?_
                refine zw_push hm_150 dX11_link_61 (v := .inr (.inr v5)) rfl ?_
                refine zw_cv hm_150 dX11_link_63 v_11_145_7 hm_94 [.inr (.inr v5), .inl i, .inr (.inr (some c3))] [] rfl (zT_rt hS4 s_69 rfl) ⟨by omega, by omega⟩ rfl (zw_mono h (zo_go ?_ ?_))
                · intro v7 S6 hv
                  obtain ⟨hS6, h⟩ := hv
                  refine zw_sto hm_150 dX11_link_66 [(7, .inr (.inr v7)), (6, .inr (.inr v5)), (5, .inr (.inr (some c3))), (4, .inr (.inr (some 87))), (0, .inr (.inr (some 64))), (1, .inl o), (2, .inl i), (3, .inl t)] rfl rfl rfl ?_
                  refine zw_push hm_150 dX11_link_68 (v := .inr (.inr (some 87))) rfl ?_
                  refine zw_push hm_150 dX11_link_70 (v := .inr (.inr (some c3))) rfl ?_
                  refine zw_push hm_150 dX11_link_72 (v := .inl i) rfl ?_
                  refine zw_push hm_150 dX11_link_73 (v := .inr (.inr v5)) rfl ?_
                  refine zw_cv hm_150 dX11_link_75 v_11_149_6 hm_267 [.inr (.inr v5), .inl i, .inr (.inr (some c3))] [] rfl (zT_rt hS6 s_87 rfl) ⟨by omega, by omega⟩ rfl ?_
                  show ma_wp X (d - 1) (w - 23) 267 0 [(0, .inr (.inr (some 87))), (1, .inr (.inr (some c3))), (2, .inl i), (3, .inr (.inr v5))] [] S6 _
                  refine zw_vret hm_267 dX1_noteReference_0 ?_
                  show ma_wp X d w 150 78 [(7, .inr (.inr v7)), (6, .inr (.inr v5)), (5, .inr (.inr (some c3))), (4, .inr (.inr (some 87))), (0, .inr (.inr (some 64))), (1, .inl o), (2, .inl i), (3, .inl t)] [] S6 _
                  refine zw_push hm_150 dX11_link_78 (v := .inr (.inr (some 87))) rfl ?_
                  refine zw_push hm_150 dX11_link_80 (v := .inr (.inr v7)) rfl ?_
                  refine zw_push hm_150 dX11_link_82 (v := .inr (.inr v5)) rfl ?_
                  refine zw_cv hm_150 dX11_link_84 v_11_153_6 hm_74 [.inr (.inr v5), .inr (.inr v7)] [] rfl (zT_rt hS6 s_87 rfl) ⟨by omega, by omega⟩ rfl (zw_mono h (zv_go ?_ ?_))
                  · intro S8 hv
                    obtain ⟨hS8, h⟩ := hv
                    refine zw_push hm_150 dX11_link_87 (v := .inr (.inr (some 87))) rfl ?_
                    refine zw_push hm_150 dX11_link_89 (v := .inr (.inr v7)) rfl ?_
                    refine zw_cv hm_150 dX11_link_91 v_11_157_6 hm_266 [.inr (.inr v7)] [] rfl (zT_rt hS8 s_87 rfl) ⟨by omega, by omega⟩ rfl ?_
                    show ma_wp X (d - 1) (w - 21) 266 0 [(0, .inr (.inr (some 87))), (1, .inr (.inr v7))] [] S8 _
                    refine zw_vret hm_266 dX1_noteFewer_0 ?_
                    show ma_wp X d w 150 94 [(7, .inr (.inr v7)), (6, .inr (.inr v5)), (5, .inr (.inr (some c3))), (4, .inr (.inr (some 87))), (0, .inr (.inr (some 64))), (1, .inl o), (2, .inl i), (3, .inl t)] [] S8 _
                    refine zw_push hm_150 dX11_link_94 (v := .inr (.inr v7)) rfl ?_
                    refine zw_cs hm_150 dX11_link_96 pn_11_161 sl_11_161 hm_146 [.inr (.inr v7)] [] rfl ⟨by omega, by omega⟩ rfl ?_
                    show ma_wp X (d - 1) (w - 20) 146 0 [(0, .inr (.inr v7))] [] S8 _
                    refine zw_push hm_146 dX11_numberOf_0 (v := .inr (.inr v7)) rfl ?_
                    refine zw_ifnonnull hm_146 dX11_numberOf_1 (t := 8) rfl ?_ ?_
                    · intro hc
                      have h := h.1 hc
                      (try rw [hc])
                      show ma_wp X (d - 1) (w - 20) 146 4 [(0, .inr (.inr none))] [] S8 _
                      refine zw_push hm_146 dX11_numberOf_4 (v := .inl (-1 : Int32)) rfl ?_
                      refine zw_goto hm_146 dX11_numberOf_5 (t := 12) rfl ?_
                      refine zw_iret hm_146 dX11_numberOf_12 ?_
                      show ma_wp X d w 150 99 [(7, .inr (.inr none)), (6, .inr (.inr v5)), (5, .inr (.inr (some c3))), (4, .inr (.inr (some 87))), (0, .inr (.inr (some 64))), (1, .inl o), (2, .inl i), (3, .inl t)] [.inl (-1 : Int32)] S8 _
                      exact zw_iret hm_150 dX11_link_99 h
                    · intro c10 hc
                      have h := h.2 c10 hc
                      (try rw [hc])
                      show ma_wp X (d - 1) (w - 20) 146 8 [(0, .inr (.inr (some c10)))] [] S8 _
                      refine zw_push hm_146 dX11_numberOf_8 (v := .inr (.inr (some c10))) rfl ?_
                      obtain ⟨hg, h⟩ := h
                      refine zw_gf hm_146 dX11_numberOf_9 (v := .inl (mI S8 c10 0)) (zT_tis hS8 hg) (zT_tt hS8 hg) rfl f_11_182_9 rfl ?_
                      refine zw_iret hm_146 dX11_numberOf_12 ?_
                      show ma_wp X d w 150 99 [(7, .inr (.inr (some c10))), (6, .inr (.inr v5)), (5, .inr (.inr (some c3))), (4, .inr (.inr (some 87))), (0, .inr (.inr (some 64))), (1, .inl o), (2, .inl i), (3, .inl t)] [.inl (mI S8 c10 0)] S8 _
                      exact zw_iret hm_150 dX11_link_99 h
                  · intro x S9 hx
                    exact hx.elim
                · intro x S9 hx
                  exact ⟨by decide, hx⟩
    · intro x S9 hx
      exact ⟨by decide, hx⟩
  · intro x S9 hx
    exact ⟨by decide, hx⟩
theorem sp_150_64_s_p87 {X : Nat × (Nat → Int32)} {d w : Nat} {f : Nat → Nat → Int32} {r : Nat → Nat → Option Nat} {C Z N : Nat} {Q : Option ma_V ⊕ Nat → ma_S → Prop} {ab : Nat→Nat→Int32} {S : ma_S} (o : Int32) (i : Int32) (t : Int32) (hd : 8 ≤ d) (hw : 132 ≤ w) (hI : zB f r C Z N S) (hr : r 64 11 = some 87) (hpre0 : xB S (mR S 70)) (hpre1 : aS 88 S = ab) (K : ∀ v S₉, zB f r C Z N S₉ → (True) → (xB S₉ (mR S₉ 70)) → (zRq ab o ∧ (t = -1 ∨ zRq ab t) ∧ zHw ab o i ∧ zIr ab o i ∧ aS 88 S₉ = aLn ab o.toNatClampNeg i t ∧ v = aNm ab (aRef ab o.toNatClampNeg i)) → Q (.inl (some (.inl v))) S₉) (KX : ∀ x S₉, (x = 1 ∨ x = 4 ∨ x = 5) → zB f r C Z N S₉ → (xB S₉ (mR S₉ 70)) → (aS 88 S₉ = ab) → ((x = 4 ∧ (¬ zRq ab o ∨ (zRq ab o ∧ t ≠ -1 ∧ ¬ zRq ab t))) ∨ (x = 1 ∧ zRq ab o ∧ (t = -1 ∨ zRq ab t) ∧ ¬ zHw ab o i) ∨ (x = 5 ∧ zRq ab o ∧ (t = -1 ∨ zRq ab t) ∧ zHw ab o i ∧ ¬ zIr ab o i)) → Q (.inr x) (ma_bump S₉)) : ma_wp X d w 150 0 [(0, .inr (.inr (some 64))), (1, .inl o), (2, .inl i), (3, .inl t)] [] S Q := by
  refine g_150_64_s_p87_0 o i t (by omega) (by omega) (zG_T hI) ?_
  refine ⟨((zG_r hI (by decide)).trans hr), ?_⟩
  refine ⟨((zG_r hI (by decide)).trans hr), ?_⟩
  have b1 := i_bd o
  refine sp_149_64_s (R := (mR S 70)) (a7 := (aS 75 S)) (a8 := (aS 88 S)) (o) (by omega) (by omega) (zB_dn_zI hI) (show xB S (mR S 70) from by first | (exact (xC_o (W := 75) hpre0).2)) (show aS 75 S = (aS 75 S) from by first | (exact rfl)) (show aS 88 S = (aS 88 S) from by first | (exact rfl)) (fun v2 S1 hL_S1 hq_v2 rp0_S1 rp1_S1 rp2_S1 rp3_S1 => zo_n ⟨zG_T hL_S1, ?_⟩) (fun x S9 hx h9 rx0 rx1 rx2 => by have h9u := (zB_up_zI hI h9); exact zo_x (KX x S9 (by omega) h9u (show xB S9 (mR S9 70) from by first | (exact xB_x (xC_o (W := 75) rx0).2)) (show aS 88 S9 = ab from by first | (exact rx1.trans hpre1)) (show (x = 4 ∧ (¬ zRq ab o ∨ (zRq ab o ∧ t ≠ -1 ∧ ¬ zRq ab t))) ∨ (x = 1 ∧ zRq ab o ∧ (t = -1 ∨ zRq ab t) ∧ ¬ zHw ab o i) ∨ (x = 5 ∧ zRq ab o ∧ (t = -1 ∨ zRq ab t) ∧ zHw ab o i ∧ ¬ zIr ab o i) from by first | (exact Or.inl ⟨rx2.1, Or.inl (rq_no rx2.2 hpre1)⟩))))
  have hI_S1 := zB_up_zI hI hL_S1
  have rp0_S1 : xB S1 (mR S 70) := by
    have z := rp0_S1
    (try rw [show mI S 65 = f 65 from funext (fun k => zG_z hI rfl)] at z)
    (try rw [show mI S 64 1 = f 64 1 from zG_z hI rfl] at z)
    exact z
  have rp1_S1 : aS 88 S1 = (aS 88 S) := by
    have z := rp1_S1
    (try rw [show mI S 65 = f 65 from funext (fun k => zG_z hI rfl)] at z)
    (try rw [show mI S 64 1 = f 64 1 from zG_z hI rfl] at z)
    exact z
  have rp2_S1 : v2 = zTa (mR S 70) o := by
    have z := rp2_S1
    (try rw [show mI S 65 = f 65 from funext (fun k => zG_z hI rfl)] at z)
    (try rw [show mI S 64 1 = f 64 1 from zG_z hI rfl] at z)
    exact z
  have rp3_S1 : zRq (aS 75 S) o := by
    have z := rp3_S1
    (try rw [show mI S 65 = f 65 from funext (fun k => zG_z hI rfl)] at z)
    (try rw [show mI S 64 1 = f 64 1 from zG_z hI rfl] at z)
    exact z
  obtain ⟨c3, hc, th_c3⟩ := hq_v2
  have rg_c3 : zTa (mR S 70) o = some c3 := rp2_S1.symm.trans hc
  refine ⟨c3, hc, ?_⟩
  have b2 := i_bd t
  refine sp_151_64_s (R := (mR S 70)) (a7 := (aS 75 S1)) (a8 := (aS 88 S1)) (t) (by omega) (by omega) (zB_dn_zI hI_S1) (show xB S1 (mR S 70) from by first | (exact (xC_o (W := 75) rp0_S1).2)) (show aS 75 S1 = (aS 75 S1) from by first | (exact rfl)) (show aS 88 S1 = (aS 88 S1) from by first | (exact rfl) | (exact (xC_o (W := 88) rp0_S1).1.trans rp1_S1)) (fun v5 S4 hL_S4 hq_v5 rp0_S4 rp1_S4 rp2_S4 rp3_S4 => zo_n ⟨zG_T hL_S4, ?_⟩) (fun x S9 hx h9 rx0 rx1 rx2 => by have h9u := (zB_up_zI hI_S1 h9); exact zo_x (KX x S9 (by omega) h9u (show xB S9 (mR S9 70) from by first | (exact xB_x (xC_o (W := 75) rx0).2)) (show aS 88 S9 = ab from by first | (exact rx1.trans (rp1_S1.trans hpre1))) (show (x = 4 ∧ (¬ zRq ab o ∨ (zRq ab o ∧ t ≠ -1 ∧ ¬ zRq ab t))) ∨ (x = 1 ∧ zRq ab o ∧ (t = -1 ∨ zRq ab t) ∧ ¬ zHw ab o i) ∨ (x = 5 ∧ zRq ab o ∧ (t = -1 ∨ zRq ab t) ∧ zHw ab o i ∧ ¬ zIr ab o i) from by first | (exact Or.inl ⟨rx2.1, Or.inr ⟨(rq_up rp3_S1 hpre1), rx2.2.1, rq_no rx2.2.2 (rp1_S1.trans hpre1)⟩⟩))))
  have hI_S4 := zB_up_zI hI_S1 hL_S4
  have rp0_S4 : xB S4 (mR S 70) := by
    have z := rp0_S4
    (try rw [show mI S1 65 = f 65 from funext (fun k => zG_z hI_S1 rfl)] at z)
    (try rw [show mI S1 64 1 = f 64 1 from zG_z hI_S1 rfl] at z)
    exact z
  have rp1_S4 : aS 88 S4 = (aS 88 S1) := by
    have z := rp1_S4
    (try rw [show mI S1 65 = f 65 from funext (fun k => zG_z hI_S1 rfl)] at z)
    (try rw [show mI S1 64 1 = f 64 1 from zG_z hI_S1 rfl] at z)
    exact z
  have rp2_S4 : v5 = zTa (mR S 70) t := by
    have z := rp2_S4
    (try rw [show mI S1 65 = f 65 from funext (fun k => zG_z hI_S1 rfl)] at z)
    (try rw [show mI S1 64 1 = f 64 1 from zG_z hI_S1 rfl] at z)
    exact z
  have rp3_S4 : t = -1 ∨ zRq (aS 75 S1) t := by
    have z := rp3_S4
    (try rw [show mI S1 65 = f 65 from funext (fun k => zG_z hI_S1 rfl)] at z)
    (try rw [show mI S1 64 1 = f 64 1 from zG_z hI_S1 rfl] at z)
    exact z
  refine ⟨zG_n hI_S4 th_c3, ?_⟩
  have b3 := i_bd i
  have li4 : (0 : Int32).toInt = 0 := rfl
  refine zd (fun h5 => ?_) (fun h5 => ?_)
  · skip
    have g6 := i_lt h5
    exact KX 1 _ (by decide) hI_S4 (show xB S4 (mR S4 70) from by first | (exact xB_x (xC_o (W := 75) rp0_S4).2)) (show aS 88 S4 = ab from by first | (exact (xC_o (W := 88) rp0_S4).1.trans (rp1_S4.trans (rp1_S1.trans hpre1)))) (show (1 = 4 ∧ (¬ zRq ab o ∨ (zRq ab o ∧ t ≠ -1 ∧ ¬ zRq ab t))) ∨ (1 = 1 ∧ zRq ab o ∧ (t = -1 ∨ zRq ab t) ∧ ¬ zHw ab o i) ∨ (1 = 5 ∧ zRq ab o ∧ (t = -1 ∨ zRq ab t) ∧ zHw ab o i ∧ ¬ zIr ab o i) from by first | (have ty := xB_th (W := 88) rp0_S4 rg_c3; have z2 := congrArg Int32.toInt ty.2.2.2.2.1; rw [(rp1_S4.trans (rp1_S1.trans hpre1))] at z2; exact Or.inr (Or.inl ⟨rfl, (rq_up rp3_S1 hpre1), (rp3_S4.imp id (fun w => rq_up w (rp1_S1.trans hpre1))), fun w => by have w1 := w.1; have w2 := w.2; omega⟩)))
  · skip
    have g7 := i_nlt h5
    refine ⟨zG_n hI_S4 th_c3, ?_⟩
    have f8 := zG_th hI_S4 th_c3
    first | have e9 : ((mI S4 c3 2) - (1 : Int32)).toInt = (mI S4 c3 2).toInt - (1) := i_subk rfl (by omega) (by omega) | have b10 := i_bd ((mI S4 c3 2) - (1 : Int32))
    refine zd (fun h11 => ?_) (fun h11 => ?_)
    · skip
      have g12 := i_le h11
      exact KX 1 _ (by decide) hI_S4 (show xB S4 (mR S4 70) from by first | (exact xB_x (xC_o (W := 75) rp0_S4).2)) (show aS 88 S4 = ab from by first | (exact (xC_o (W := 88) rp0_S4).1.trans (rp1_S4.trans (rp1_S1.trans hpre1)))) (show (1 = 4 ∧ (¬ zRq ab o ∨ (zRq ab o ∧ t ≠ -1 ∧ ¬ zRq ab t))) ∨ (1 = 1 ∧ zRq ab o ∧ (t = -1 ∨ zRq ab t) ∧ ¬ zHw ab o i) ∨ (1 = 5 ∧ zRq ab o ∧ (t = -1 ∨ zRq ab t) ∧ zHw ab o i ∧ ¬ zIr ab o i) from by first | (have ty := xB_th (W := 88) rp0_S4 rg_c3; have z2 := congrArg Int32.toInt ty.2.2.2.2.1; rw [(rp1_S4.trans (rp1_S1.trans hpre1))] at z2; exact Or.inr (Or.inl ⟨rfl, (rq_up rp3_S1 hpre1), (rp3_S4.imp id (fun w => rq_up w (rp1_S1.trans hpre1))), fun w => by have w1 := w.1; have w2 := w.2; omega⟩)))
    · skip
      have g13 := i_nle h11
      refine ⟨zG_n hI_S4 th_c3, ?_⟩
      refine ⟨zG_n hI_S4 th_c3, ?_⟩
      refine zd (fun h14 => ?_) (fun h14 => ?_)
      · skip
        have g15 := i_lt h14
        exact KX 5 _ (by decide) hI_S4 (show xB S4 (mR S4 70) from by first | (exact xB_x (xC_o (W := 75) rp0_S4).2)) (show aS 88 S4 = ab from by first | (exact (xC_o (W := 88) rp0_S4).1.trans (rp1_S4.trans (rp1_S1.trans hpre1)))) (show (5 = 4 ∧ (¬ zRq ab o ∨ (zRq ab o ∧ t ≠ -1 ∧ ¬ zRq ab t))) ∨ (5 = 1 ∧ zRq ab o ∧ (t = -1 ∨ zRq ab t) ∧ ¬ zHw ab o i) ∨ (5 = 5 ∧ zRq ab o ∧ (t = -1 ∨ zRq ab t) ∧ zHw ab o i ∧ ¬ zIr ab o i) from by first | (exfalso; omega) | (have ty := xB_th (W := 88) rp0_S4 rg_c3; have z2 := congrArg Int32.toInt ty.2.2.2.2.1; rw [(rp1_S4.trans (rp1_S1.trans hpre1))] at z2; exact Or.inr (Or.inr ⟨rfl, (rq_up rp3_S1 hpre1), (rp3_S4.imp id (fun w => rq_up w (rp1_S1.trans hpre1))), ⟨by omega, by omega⟩, ir_n rp0_S4 rg_c3 (rp1_S4.trans (rp1_S1.trans hpre1)) (by omega) (by assumption)⟩)))
      · skip
        have g16 := i_nlt h14
        refine ⟨zG_n hI_S4 th_c3, ?_⟩
        refine zd (fun h17 => ?_) (fun h17 => ?_)
        · skip
          have g18 := i_le h17
          exact KX 5 _ (by decide) hI_S4 (show xB S4 (mR S4 70) from by first | (exact xB_x (xC_o (W := 75) rp0_S4).2)) (show aS 88 S4 = ab from by first | (exact (xC_o (W := 88) rp0_S4).1.trans (rp1_S4.trans (rp1_S1.trans hpre1)))) (show (5 = 4 ∧ (¬ zRq ab o ∨ (zRq ab o ∧ t ≠ -1 ∧ ¬ zRq ab t))) ∨ (5 = 1 ∧ zRq ab o ∧ (t = -1 ∨ zRq ab t) ∧ ¬ zHw ab o i) ∨ (5 = 5 ∧ zRq ab o ∧ (t = -1 ∨ zRq ab t) ∧ zHw ab o i ∧ ¬ zIr ab o i) from by first | (exfalso; omega) | (have ty := xB_th (W := 88) rp0_S4 rg_c3; have z2 := congrArg Int32.toInt ty.2.2.2.2.1; rw [(rp1_S4.trans (rp1_S1.trans hpre1))] at z2; exact Or.inr (Or.inr ⟨rfl, (rq_up rp3_S1 hpre1), (rp3_S4.imp id (fun w => rq_up w (rp1_S1.trans hpre1))), ⟨by omega, by omega⟩, ir_n rp0_S4 rg_c3 (rp1_S4.trans (rp1_S1.trans hpre1)) (by omega) (by assumption)⟩)))
        · skip
          have g19 := i_nle h17
          refine ⟨zG_n hI_S4 th_c3, ?_⟩
          have b20 := i_bd (lg_cmp ((((mL S4 c3 3).toUInt64 >>> (i.toInt64.toUInt64 &&& Int64.toUInt64 63)).toInt64) &&& (1 : Int64)) (0 : Int64))
          refine zd (fun h21 => ?_) (fun h21 => ?_)
          · skip
            have g22 := i_eq h21
            exact KX 5 _ (by decide) hI_S4 (show xB S4 (mR S4 70) from by first | (exact xB_x (xC_o (W := 75) rp0_S4).2)) (show aS 88 S4 = ab from by first | (exact (xC_o (W := 88) rp0_S4).1.trans (rp1_S4.trans (rp1_S1.trans hpre1)))) (show (5 = 4 ∧ (¬ zRq ab o ∨ (zRq ab o ∧ t ≠ -1 ∧ ¬ zRq ab t))) ∨ (5 = 1 ∧ zRq ab o ∧ (t = -1 ∨ zRq ab t) ∧ ¬ zHw ab o i) ∨ (5 = 5 ∧ zRq ab o ∧ (t = -1 ∨ zRq ab t) ∧ zHw ab o i ∧ ¬ zIr ab o i) from by first | (exfalso; omega) | (have ty := xB_th (W := 88) rp0_S4 rg_c3; have z2 := congrArg Int32.toInt ty.2.2.2.2.1; rw [(rp1_S4.trans (rp1_S1.trans hpre1))] at z2; exact Or.inr (Or.inr ⟨rfl, (rq_up rp3_S1 hpre1), (rp3_S4.imp id (fun w => rq_up w (rp1_S1.trans hpre1))), ⟨by omega, by omega⟩, ir_n rp0_S4 rg_c3 (rp1_S4.trans (rp1_S1.trans hpre1)) (by omega) (by assumption)⟩)))
          · skip
            have g23 := i_ne h21
            refine sp_94_69_s (ab := (aS 88 S4)) (R := (mR S 70)) (W := 88) (y := (t)) (yt := (o)) c3 (i) (v5) (by omega) (by omega) (zB_dn_zI hI_S4) th_c3 hq_v5 (show xB S4 (mR S 70) from by first | (exact (xC_o (W := 75) rp0_S4).2)) (show aS 88 S4 = (aS 88 S4) from by first | (exact rfl)) (show xW 88 from by first | (exact xW88)) (show zTa (mR S 70) (o) = some c3 from by first | (exact rg_c3)) (show v5 = zTa (mR S 70) (t) from by first | (exact rp2_S4)) (by omega) (fun v7 S6 hL_S6 hq_v7 rp0_S6 rp1_S6 rp2_S6 => zo_n ⟨zG_T hL_S6, ?_⟩)
            have hI_S6 := zB_up_zI hI_S4 hL_S6
            have rp0_S6 : xB S6 (mR S 70) := by
              have z := rp0_S6
              (try rw [show mI S4 65 = f 65 from funext (fun k => zG_z hI_S4 rfl)] at z)
              (try rw [show mI S4 64 1 = f 64 1 from zG_z hI_S4 rfl] at z)
              exact z
            have rp1_S6 : aS 88 S6 = aCi (aS 88 S4) (o).toNatClampNeg i (aNm (aS 88 S4) (t)) := by
              have z := rp1_S6
              (try rw [show mI S4 65 = f 65 from funext (fun k => zG_z hI_S4 rfl)] at z)
              (try rw [show mI S4 64 1 = f 64 1 from zG_z hI_S4 rfl] at z)
              exact z
            have rp2_S6 : v7 = zTa (mR S 70) (aRef (aS 88 S4) (o).toNatClampNeg i) := by
              have z := rp2_S6
              (try rw [show mI S4 65 = f 65 from funext (fun k => zG_z hI_S4 rfl)] at z)
              (try rw [show mI S4 64 1 = f 64 1 from zG_z hI_S4 rfl] at z)
              exact z
            refine sp_74_87_s (ab := (aS 88 S6)) (R := (mR S 70)) (y1 := ((aRef (aS 88 S4) (o).toNatClampNeg i))) (y2 := (t)) (v7) (v5) (by omega) (by omega) (zB_dn_zJ87 hI_S6) hq_v7 hq_v5 (show xB S6 (mR S 70) from by first | (exact (xC_o (W := 75) rp0_S6).2)) (show aS 88 S6 = (aS 88 S6) from by first | (exact rfl)) (show v7 = zTa (mR S 70) ((aRef (aS 88 S4) (o).toNatClampNeg i)) from by first | (exact rp2_S6)) (show v5 = zTa (mR S 70) (t) from by first | (exact rp2_S4)) (fun S8 hL_S8 rp0_S8 rp1_S8 => zv_n ⟨zG_T hL_S8, ?_⟩)
            have hI_S8 := zB_up_zJ87 hI_S6 hL_S8
            have rp0_S8 : xB S8 (mR S 70) := by
              have z := rp0_S8
              (try rw [show mI S6 65 = f 65 from funext (fun k => zG_z hI_S6 rfl)] at z)
              (try rw [show mI S6 64 1 = f 64 1 from zG_z hI_S6 rfl] at z)
              exact z
            have rp1_S8 : aS 88 S8 = aNc (aS 88 S6) ((aRef (aS 88 S4) (o).toNatClampNeg i)) (t) := by
              have z := rp1_S8
              (try rw [show mI S6 65 = f 65 from funext (fun k => zG_z hI_S6 rfl)] at z)
              (try rw [show mI S6 64 1 = f 64 1 from zG_z hI_S6 rfl] at z)
              exact z
            refine ⟨fun hc => ?_, fun c10 hc => ?_⟩
            · skip
              have rn_c10 : zTa (mR S 70) (aRef (aS 88 S4) (o).toNatClampNeg i) = none := rp2_S6.symm.trans hc
              have li24 : (-1 : Int32).toInt = -1 := rfl
              exact K ((-1 : Int32)) _ hI_S8 trivial (show xB S8 (mR S8 70) from by first | (exact xB_x (xC_o (W := 75) rp0_S8).2)) (show zRq ab o ∧ (t = -1 ∨ zRq ab t) ∧ zHw ab o i ∧ zIr ab o i ∧ aS 88 S8 = aLn ab o.toNatClampNeg i t ∧ (-1 : Int32) = aNm ab (aRef ab o.toNatClampNeg i) from by first | (exfalso; omega) | (have ty := xB_th (W := 88) rp0_S4 rg_c3; have z2 := congrArg Int32.toInt ty.2.2.2.2.1; rw [(rp1_S4.trans (rp1_S1.trans hpre1))] at z2; have cs := rp1_S6; rw [(rp1_S4.trans (rp1_S1.trans hpre1))] at cs; have ns := rp1_S8; rw [cs, (rp1_S4.trans (rp1_S1.trans hpre1))] at ns; have nn := nm_n (W := 88) rp0_S4 rn_c10; rw [(rp1_S4.trans (rp1_S1.trans hpre1))] at nn; exact ⟨(rq_up rp3_S1 hpre1), (rp3_S4.imp id (fun w => rq_up w (rp1_S1.trans hpre1))), ⟨by omega, by omega⟩, ir_y rp0_S4 rg_c3 (rp1_S4.trans (rp1_S1.trans hpre1)) (by omega) (by assumption), ns, (by exact nn.symm)⟩))
            · skip
              have th_c10 := hq_v7 c10 hc
              have rg_c10 : zTa (mR S 70) (aRef (aS 88 S4) (o).toNatClampNeg i) = some c10 := rp2_S6.symm.trans hc
              subst hc
              refine ⟨zG_n hI_S8 th_c10, ?_⟩
              have f25 := zG_th hI_S8 th_c10
              exact K ((mI S8 c10 0)) _ hI_S8 trivial (show xB S8 (mR S8 70) from by first | (exact xB_x (xC_o (W := 75) rp0_S8).2)) (show zRq ab o ∧ (t = -1 ∨ zRq ab t) ∧ zHw ab o i ∧ zIr ab o i ∧ aS 88 S8 = aLn ab o.toNatClampNeg i t ∧ (mI S8 c10 0) = aNm ab (aRef ab o.toNatClampNeg i) from by first | (exfalso; omega) | (have ty := xB_th (W := 88) rp0_S4 rg_c3; have z2 := congrArg Int32.toInt ty.2.2.2.2.1; rw [(rp1_S4.trans (rp1_S1.trans hpre1))] at z2; have cs := rp1_S6; rw [(rp1_S4.trans (rp1_S1.trans hpre1))] at cs; have ns := rp1_S8; rw [cs, (rp1_S4.trans (rp1_S1.trans hpre1))] at ns; have nn := nm_y (W := 88) rp0_S4 rg_c10; have tn := (xB_th (W := 88) rp0_S8 rg_c10).2.2.1; rw [(rp1_S4.trans (rp1_S1.trans hpre1))] at nn; exact ⟨(rq_up rp3_S1 hpre1), (rp3_S4.imp id (fun w => rq_up w (rp1_S1.trans hpre1))), ⟨by omega, by omega⟩, ir_y rp0_S4 rg_c3 (rp1_S4.trans (rp1_S1.trans hpre1)) (by omega) (by assumption), ns, (by rw [tn]; (try rw [(rp1_S4.trans (rp1_S1.trans hpre1))]); exact nn.symm)⟩))

/-! from 95.g34 -/
/-! the heap by numbers, the class (written by wip/tools/gen18.py) -/
theorem g_155_64_s_p87_0 {X : Nat × (Nat → Int32)} {d w : Nat} {S : ma_S} {Q : Option ma_V ⊕ Nat → ma_S → Prop} (i : Int32) (rt : Int32) (hd : 7 ≤ d) (hw : 134 ≤ w) (hS : zT S) (h : if i < 0 then (Q (.inr 2) (ma_bump S)) else (if (16 : Int32) ≤ i then (Q (.inr 2) (ma_bump S)) else (if rt < 0 then (Q (.inr 2) (ma_bump S)) else (if (16 : Int32) ≤ rt then (Q (.inr 2) (ma_bump S)) else (mR S 64 11 = some 87 ∧ (mR S 64 11 = some 87 ∧ ((0 ≤ i ∧ i.toNatClampNeg < 16) ∧ (if (mI S 73 i.toNatClampNeg) < 0 then (Q (.inl (some (.inl (-1 : Int32)))) S) else (if (512 : Int32) ≤ (mI S 73 i.toNatClampNeg) then (Q (.inl (some (.inl (-1 : Int32)))) S) else ((0 ≤ (mI S 73 i.toNatClampNeg) ∧ (mI S 73 i.toNatClampNeg).toNatClampNeg < 512) ∧ (((mR S 70 (mI S 73 i.toNatClampNeg).toNatClampNeg) = none → Q (.inl (some (.inl (-1 : Int32)))) S) ∧ (∀ c1, (mR S 70 (mI S 73 i.toNatClampNeg).toNatClampNeg) = some c1 → ma_wp X (d - 1) (w - 24) 145 0 [(0, .inr (.inr (some 64))), (1, .inr (.inr (some 87))), (2, .inl rt), (3, .inr (.inr (some c1)))] [] S (zo (fun v3 S2 => zT S2 ∧ (ma_wp X (d - 1) (w - 21) 75 0 [(0, .inr (.inr (some 87))), (1, .inr (.inr (some c1)))] [] S2 (zv (fun S4 => zT S4 ∧ ((126 ≤ c1 ∧ c1 < mN S4) ∧ (Q (.inl (some (.inl (mI S4 c1 0)))) S4))) (fun _ _ => False)))) (fun x S9 => Q (.inr x) S9)))))))))))))) : ma_wp X d w 155 0 [(0, .inr (.inr (some 64))), (1, .inl i), (2, .inl rt)] [] S Q := by
  refine zw_push hm_155 dX11_strong_0 (v := .inl i) rfl ?_
  refine zw_cs hm_155 dX11_strong_1 pn_11_109 sl_11_109 hm_142 [.inl i] [] rfl ⟨by omega, by omega⟩ rfl ?_
  show ma_wp X (d - 1) (w - 20) 142 0 [(0, .inl i)] [] S _
  refine zw_push hm_142 dX11_isSlot_0 (v := .inl i) rfl ?_
  refine zw_if0 hm_142 dX11_isSlot_1 (t := 14) rfl zc0_lt ?_ ?_
  · intro hc
    rw [if_pos hc] at h
    refine zw_push hm_142 dX11_isSlot_14 (v := .inl (0 : Int32)) rfl ?_
    refine zw_bret hm_142 dX11_isSlot_15 (by decide) ?_
    show ma_wp X d w 155 4 [(0, .inr (.inr (some 64))), (1, .inl i), (2, .inl rt)] [.inl (0 : Int32)] S _
    refine zw_if0 hm_155 dX11_strong_4 (t := 14) rfl zc0_eq (fun _ => ?_) (fun hc => absurd (by decide) hc)
    exact zw_thr hm_155 dX11_strong_14 dX11_strong_17 dX11_strong_18 dX11_strong_21 x_11_79_81 n_11_79 (by omega) (by show 0 + 81 ≤ w; omega) h
  · intro hc
    rw [if_neg hc] at h
    refine zw_push hm_142 dX11_isSlot_4 (v := .inl i) rfl ?_
    refine zw_push hm_142 dX11_isSlot_5 (v := .inl (16 : Int32)) rfl ?_
    refine zw_if2 hm_142 dX11_isSlot_7 (t := 14) rfl zc2_ge ?_ ?_
    · intro hc
      rw [if_pos hc] at h
      refine zw_push hm_142 dX11_isSlot_14 (v := .inl (0 : Int32)) rfl ?_
      refine zw_bret hm_142 dX11_isSlot_15 (by decide) ?_
      show ma_wp X d w 155 4 [(0, .inr (.inr (some 64))), (1, .inl i), (2, .inl rt)] [.inl (0 : Int32)] S _
      refine zw_if0 hm_155 dX11_strong_4 (t := 14) rfl zc0_eq (fun _ => ?_) (fun hc => absurd (by decide) hc)
      exact zw_thr hm_155 dX11_strong_14 dX11_strong_17 dX11_strong_18 dX11_strong_21 x_11_79_81 n_11_79 (by omega) (by show 0 + 81 ≤ w; omega) h
    · intro hc
      rw [if_neg hc] at h
      refine zw_push hm_142 dX11_isSlot_10 (v := .inl (1 : Int32)) rfl ?_
      refine zw_goto hm_142 dX11_isSlot_11 (t := 15) rfl ?_
      refine zw_bret hm_142 dX11_isSlot_15 (by decide) ?_
      show ma_wp X d w 155 4 [(0, .inr (.inr (some 64))), (1, .inl i), (2, .inl rt)] [.inl (1 : Int32)] S _
      refine zw_if0 hm_155 dX11_strong_4 (t := 14) rfl zc0_eq (fun hc => absurd hc (by decide)) (fun _ => ?_)
      refine zw_push hm_155 dX11_strong_7 (v := .inl rt) rfl ?_
      refine zw_cs hm_155 dX11_strong_8 pn_11_109 sl_11_109 hm_142 [.inl rt] [] rfl ⟨by omega, by omega⟩ rfl ?_
      show ma_wp X (d - 1) (w - 20) 142 0 [(0, .inl rt)] [] S _
      refine zw_push hm_142 dX11_isSlot_0 (v := .inl rt) rfl ?_
      refine zw_if0 hm_142 dX11_isSlot_1 (t := 14) rfl zc0_lt ?_ ?_
      · intro hc
        rw [if_pos hc] at h
        refine zw_push hm_142 dX11_isSlot_14 (v := .inl (0 : Int32)) rfl ?_
        refine zw_bret hm_142 dX11_isSlot_15 (by decide) ?_
        show ma_wp X d w 155 11 [(0, .inr (.inr (some 64))), (1, .inl i), (2, .inl rt)] [.inl (0 : Int32)] S _
        refine zw_if0 hm_155 dX11_strong_11 (t := 22) rfl zc0_ne (fun hc => absurd hc (by decide)) (fun _ => ?_)
        exact zw_thr hm_155 dX11_strong_14 dX11_strong_17 dX11_strong_18 dX11_strong_21 x_11_79_81 n_11_79 (by omega) (by show 0 + 81 ≤ w; omega) h
      · intro hc
        rw [if_neg hc] at h
        refine zw_push hm_142 dX11_isSlot_4 (v := .inl rt) rfl ?_
        refine zw_push hm_142 dX11_isSlot_5 (v := .inl (16 : Int32)) rfl ?_
        refine zw_if2 hm_142 dX11_isSlot_7 (t := 14) rfl zc2_ge ?_ ?_
        · intro hc
          rw [if_pos hc] at h
          refine zw_push hm_142 dX11_isSlot_14 (v := .inl (0 : Int32)) rfl ?_
          refine zw_bret hm_142 dX11_isSlot_15 (by decide) ?_
          show ma_wp X d w 155 11 [(0, .inr (.inr (some 64))), (1, .inl i), (2, .inl rt)] [.inl (0 : Int32)] S _
          refine zw_if0 hm_155 dX11_strong_11 (t := 22) rfl zc0_ne (fun hc => absurd hc (by decide)) (fun _ => ?_)
          exact zw_thr hm_155 dX11_strong_14 dX11_strong_17 dX11_strong_18 dX11_strong_21 x_11_79_81 n_11_79 (by omega) (by show 0 + 81 ≤ w; omega) h
        · intro hc
          rw [if_neg hc] at h
          refine zw_push hm_142 dX11_isSlot_10 (v := .inl (1 : Int32)) rfl ?_
          refine zw_goto hm_142 dX11_isSlot_11 (t := 15) rfl ?_
          refine zw_bret hm_142 dX11_isSlot_15 (by decide) ?_
          show ma_wp X d w 155 11 [(0, .inr (.inr (some 64))), (1, .inl i), (2, .inl rt)] [.inl (1 : Int32)] S _
          refine zw_if0 hm_155 dX11_strong_11 (t := 22) rfl zc0_ne (fun _ => ?_) (fun hc => absurd (by decide) hc)
          refine zw_push hm_155 dX11_strong_22 (v := .inr (.inr (some 64))) rfl ?_
          refine zw_cv hm_155 dX11_strong_23 v_11_119_11 hm_144 [] [] rfl (zT_rt hS s_64 rfl) ⟨by omega, by omega⟩ rfl ?_
          show ma_wp X (d - 1) (w - 20) 144 0 [(0, .inr (.inr (some 64)))] [] S _
          refine zw_push hm_144 dX11_needCollector_0 (v := .inr (.inr (some 64))) rfl ?_
          obtain ⟨hg, h⟩ := h
          refine zw_gf hm_144 dX11_needCollector_1 (v := .inr (.inr (some 87))) (zT_is hS s_64) (zT_t hS s_64) rfl f_11_98_11 (congrArg (fun z => Sum.inr (Sum.inr z)) hg) ?_
          refine zw_ifnonnull hm_144 dX11_needCollector_4 (t := 15) rfl (fun z => by cases z) (fun _ _ => ?_)
          refine zw_push hm_144 dX11_needCollector_15 (v := .inr (.inr (some 64))) rfl ?_
          obtain ⟨hg, h⟩ := h
          refine zw_gf hm_144 dX11_needCollector_16 (v := .inr (.inr (some 87))) (zT_is hS s_64) (zT_t hS s_64) rfl f_11_98_11 (congrArg (fun z => Sum.inr (Sum.inr z)) hg) ?_
          refine zw_aret hm_144 dX11_needCollector_19 ?_
          show ma_wp X d w 155 26 [(0, .inr (.inr (some 64))), (1, .inl i), (2, .inl rt)] [.inr (.inr (some 87))] S _
          refine zw_sto hm_155 dX11_strong_26 [(3, .inr (.inr (some 87))), (0, .inr (.inr (some 64))), (1, .inl i), (2, .inl rt)] rfl rfl rfl ?_
          refine zw_push hm_155 dX11_strong_27 (v := .inr (.inr (some 64))) rfl ?_
          refine zw_gf hm_155 dX11_strong_28 (v := .inr (.inr (some 69))) (zT_is hS s_64) (zT_t hS s_64) rfl f_11_26_11 (zT_f hS r_64_8) ?_
          refine zw_push hm_155 dX11_strong_31 (v := .inr (.inr (some 64))) rfl ?_
          refine zw_gf hm_155 dX11_strong_32 (v := .inr (.inr (some 69))) (zT_is hS s_64) (zT_t hS s_64) rfl f_11_26_11 (zT_f hS r_64_8) ?_
          refine zw_gf hm_155 dX11_strong_35 (v := .inr (.inr (some 73))) (zT_is hS s_69) (zT_t hS s_69) rfl f_11_173_7 (zT_f hS r_69_3) ?_
          refine zw_push hm_155 dX11_strong_38 (v := .inl i) rfl ?_
          obtain ⟨hg, h⟩ := h
          refine zw_ia hm_155 dX11_strong_39 (zT_is hS s_73) (zT_h hS s_73) rfl hg ?_
          show ma_wp X d w 155 40 [(3, .inr (.inr (some 87))), (0, .inr (.inr (some 64))), (1, .inl i), (2, .inl rt)] [.inl (mI S 73 i.toNatClampNeg), .inr (.inr (some 69))] S _
          refine zw_cv hm_155 dX11_strong_40 v_11_176_7 hm_81 [.inl (mI S 73 i.toNatClampNeg)] [] rfl (zT_rt hS s_69 rfl) ⟨by omega, by omega⟩ rfl ?_
          show ma_wp X (d - 1) (w - 21) 81 0 [(0, .inr (.inr (some 69))), (1, .inl (mI S 73 i.toNatClampNeg))] [] S _
          refine zw_push hm_81 dX7_thingAt_0 (v := .inl (mI S 73 i.toNatClampNeg)) rfl ?_
          refine zw_if0 hm_81 dX7_thingAt_1 (t := 20) rfl zc0_lt ?_ ?_
          · intro hc
            rw [if_pos hc] at h
            refine zw_push hm_81 dX7_thingAt_20 (v := .inr (.inr none)) rfl ?_
            refine zw_aret hm_81 dX7_thingAt_21 ?_
            show ma_wp X d w 155 43 [(3, .inr (.inr (some 87))), (0, .inr (.inr (some 64))), (1, .inl i), (2, .inl rt)] [.inr (.inr none)] S _
            refine zw_sto hm_155 dX11_strong_43 [(4, .inr (.inr none)), (3, .inr (.inr (some 87))), (0, .inr (.inr (some 64))), (1, .inl i), (2, .inl rt)] rfl rfl rfl ?_
            refine zw_push hm_155 dX11_strong_45 (v := .inr (.inr none)) rfl ?_
            refine zw_ifnonnull hm_155 dX11_strong_47 (t := 52) rfl (fun _ => ?_) (fun _ z => by cases z)
            refine zw_push hm_155 dX11_strong_50 (v := .inl (-1 : Int32)) rfl ?_
            exact zw_iret hm_155 dX11_strong_51 h
          · intro hc
            rw [if_neg hc] at h
            refine zw_push hm_81 dX7_thingAt_4 (v := .inl (mI S 73 i.toNatClampNeg)) rfl ?_
            refine zw_push hm_81 dX7_thingAt_5 (v := .inl (512 : Int32)) rfl ?_
            refine zw_if2 hm_81 dX7_thingAt_8 (t := 20) rfl zc2_ge ?_ ?_
            · intro hc
              rw [if_pos hc] at h
              refine zw_push hm_81 dX7_thingAt_20 (v := .inr (.inr none)) rfl ?_
              refine zw_aret hm_81 dX7_thingAt_21 ?_
              show ma_wp X d w 155 43 [(3, .inr (.inr (some 87))), (0, .inr (.inr (some 64))), (1, .inl i), (2, .inl rt)] [.inr (.inr none)] S _
              refine zw_sto hm_155 dX11_strong_43 [(4, .inr (.inr none)), (3, .inr (.inr (some 87))), (0, .inr (.inr (some 64))), (1, .inl i), (2, .inl rt)] rfl rfl rfl ?_
              refine zw_push hm_155 dX11_strong_45 (v := .inr (.inr none)) rfl ?_
              refine zw_ifnonnull hm_155 dX11_strong_47 (t := 52) rfl (fun _ => ?_) (fun _ z => by cases z)
              refine zw_push hm_155 dX11_strong_50 (v := .inl (-1 : Int32)) rfl ?_
              exact zw_iret hm_155 dX11_strong_51 h
            · intro hc
              rw [if_neg hc] at h
              refine zw_push hm_81 dX7_thingAt_11 (v := .inr (.inr (some 69))) rfl ?_
              refine zw_gf hm_81 dX7_thingAt_12 (v := .inr (.inr (some 70))) (zT_is hS s_69) (zT_t hS s_69) rfl f_7_11_7 (zT_f hS r_69_0) ?_
              refine zw_push hm_81 dX7_thingAt_15 (v := .inl (mI S 73 i.toNatClampNeg)) rfl ?_
              obtain ⟨hg, h⟩ := h
              refine zw_aa hm_81 dX7_thingAt_16 (zT_is hS s_70) (zT_h hS s_70) rfl rfl hg rfl ?_
              show ma_wp X (d - 1) (w - 21) 81 17 [(0, .inr (.inr (some 69))), (1, .inl (mI S 73 i.toNatClampNeg))] [.inr (.inr (mR S 70 (mI S 73 i.toNatClampNeg).toNatClampNeg))] S _
              refine zw_goto hm_81 dX7_thingAt_17 (t := 21) rfl ?_
              refine zw_aret hm_81 dX7_thingAt_21 ?_
              show ma_wp X d w 155 43 [(3, .inr (.inr (some 87))), (0, .inr (.inr (some 64))), (1, .inl i), (2, .inl rt)] [.inr (.inr (mR S 70 (mI S 73 i.toNatClampNeg).toNatClampNeg))] S _
              refine zw_sto hm_155 dX11_strong_43 [(4, .inr (.inr (mR S 70 (mI S 73 i.toNatClampNeg).toNatClampNeg))), (3, .inr (.inr (some 87))), (0, .inr (.inr (some 64))), (1, .inl i), (2, .inl rt)] rfl rfl rfl ?_
              refine zw_push hm_155 dX11_strong_45 (v := .inr (.inr (mR S 70 (mI S 73 i.toNatClampNeg).toNatClampNeg))) rfl ?_
              refine zw_ifnonnull hm_155 dX11_strong_47 (t := 52) rfl ?_ ?_
              · intro hc
                have h := h.1 hc
                (try rw [hc])
                show ma_wp X d w 155 50 [(4, .inr (.inr none)), (3, .inr (.inr (some 87))), (0, .inr (.inr (some 64))), (1, .inl i), (2, .inl rt)] [] S _
                refine zw_push hm_155 dX11_strong_50 (v := .inl (-1 : Int32)) rfl ?_
                exact zw_iret hm_155 dX11_strong_51 h
              · intro c1 hc
                have h := h.2 c1 hc
                (try rw [hc])
                show ma_wp X d w 155 52 [(4, .inr (.inr (some c1))), (3, .inr (.inr (some 87))), (0, .inr (.inr (some 64))), (1, .inl i), (2, .inl rt)] [] S _
                refine zw_push hm_155 dX11_strong_52 (v := .inr (.inr (some 64))) rfl ?_
                refine zw_push hm_155 dX11_strong_53 (v := .inr (.inr (some 87))) rfl ?_
                refine zw_push hm_155 dX11_strong_54 (v := .inl rt) rfl ?_
                refine zw_push hm_155 dX11_strong_55 (v := .inr (.inr (some c1))) rfl ?_
                refine zw_cv hm_155 dX11_strong_57 v_11_169_11 hm_145 [.inr (.inr (some c1)), .inl rt, .inr (.inr (some 87))] [] rfl (zT_rt hS s_64 rfl) ⟨by omega, by omega⟩ rfl (zw_mono h (zo_go ?_ ?_))
                · intro v3 S2 hv
                  obtain ⟨hS2, h⟩ := hv
                  refine zw_stk hm_155 dX11_strong_60 (st₉ := []) rfl rfl ?_
                  refine zw_push hm_155 dX11_strong_61 (v := .inr (.inr (some 87))) rfl ?_
                  refine zw_push hm_155 dX11_strong_62 (v := .inr (.inr (some c1))) rfl ?_
                  refine zw_cv hm_155 dX11_strong_64 v_11_179_6 hm_75 [.inr (.inr (some c1))] [] rfl (zT_rt hS2 s_87 rfl) ⟨by omega, by omega⟩ rfl (zw_mono h (zv_go ?_ ?_))
                  · intro S4 hv
                    obtain ⟨hS4, h⟩ := hv
                    refine zw_push hm_155 dX11_strong_67 (v := .inr (.inr (some c1))) rfl ?_
                    obtain ⟨hg, h⟩ := h
                    refine zw_gf hm_155 dX11_strong_69 (v := .inl (mI S4 c1 0)) (zT_tis hS4 hg) (zT_tt hS4 hg) rfl f_11_182_9 rfl ?_
                    exact zw_iret hm_155 dX11_strong_72 h
                  · intro x S9 hx
                    exact hx.elim
                · intro x S9 hx
                  exact ⟨by decide, hx⟩
theorem sp_155_64_s_p87 {X : Nat × (Nat → Int32)} {d w : Nat} {f : Nat → Nat → Int32} {r : Nat → Nat → Option Nat} {C Z N : Nat} {Q : Option ma_V ⊕ Nat → ma_S → Prop} {ab : Nat→Nat→Int32} {S : ma_S} (i : Int32) (rt : Int32) (hd : 7 ≤ d) (hw : 134 ≤ w) (hI : zB f r C Z N S) (hr : r 64 11 = some 87) (hpre0 : xB S (mR S 70)) (hpre1 : aS 88 S = ab) (K : ∀ v S₉, zB f r C Z N S₉ → (True) → (xB S₉ (mR S₉ 70)) → ((0 ≤ i.toInt ∧ i.toInt ≤ 15) ∧ (0 ≤ rt.toInt ∧ rt.toInt ≤ 15) ∧ ((aNm ab (ab 73 i.toNatClampNeg) = -1 ∧ aS 88 S₉ = ab ∧ v = -1) ∨ (aNm ab (ab 73 i.toNatClampNeg) = ab 73 i.toNatClampNeg ∧ 0 ≤ (ab 73 i.toNatClampNeg).toInt ∧ aS 88 S₉ = aSt (aRt ab rt (ab 73 i.toNatClampNeg)) (ab 73 i.toNatClampNeg) ∧ v = ab 73 i.toNatClampNeg))) → Q (.inl (some (.inl v))) S₉) (KX : ∀ x S₉, (x = 2) → zB f r C Z N S₉ → (xB S₉ (mR S₉ 70)) → (aS 88 S₉ = ab) → (x = 2 ∧ ¬ ((0 ≤ i.toInt ∧ i.toInt ≤ 15) ∧ (0 ≤ rt.toInt ∧ rt.toInt ≤ 15))) → Q (.inr x) (ma_bump S₉)) : ma_wp X d w 155 0 [(0, .inr (.inr (some 64))), (1, .inl i), (2, .inl rt)] [] S Q := by
  refine g_155_64_s_p87_0 i rt (by omega) (by omega) (zG_T hI) ?_
  have b1 := i_bd i
  have li2 : (0 : Int32).toInt = 0 := rfl
  refine zd (fun h3 => ?_) (fun h3 => ?_)
  · skip
    have g4 := i_lt h3
    exact KX 2 _ (by decide) hI (show xB S (mR S 70) from by first | (exact xB_x (xC_o (W := 75) hpre0).2)) (show aS 88 S = ab from by first | (exact (xC_o (W := 88) hpre0).1.trans hpre1)) (show 2 = 2 ∧ ¬ ((0 ≤ i.toInt ∧ i.toInt ≤ 15) ∧ (0 ≤ rt.toInt ∧ rt.toInt ≤ 15)) from by first | (exact ⟨rfl, by omega⟩))
  · skip
    have g5 := i_nlt h3
    have li6 : (16 : Int32).toInt = 16 := rfl
    refine zd (fun h7 => ?_) (fun h7 => ?_)
    · skip
      have g8 := i_le h7
      exact KX 2 _ (by decide) hI (show xB S (mR S 70) from by first | (exact xB_x (xC_o (W := 75) hpre0).2)) (show aS 88 S = ab from by first | (exact (xC_o (W := 88) hpre0).1.trans hpre1)) (show 2 = 2 ∧ ¬ ((0 ≤ i.toInt ∧ i.toInt ≤ 15) ∧ (0 ≤ rt.toInt ∧ rt.toInt ≤ 15)) from by first | (exact ⟨rfl, by omega⟩))
    · skip
      have g9 := i_nle h7
      have b10 := i_bd rt
      refine zd (fun h11 => ?_) (fun h11 => ?_)
      · skip
        have g12 := i_lt h11
        exact KX 2 _ (by decide) hI (show xB S (mR S 70) from by first | (exact xB_x (xC_o (W := 75) hpre0).2)) (show aS 88 S = ab from by first | (exact (xC_o (W := 88) hpre0).1.trans hpre1)) (show 2 = 2 ∧ ¬ ((0 ≤ i.toInt ∧ i.toInt ≤ 15) ∧ (0 ≤ rt.toInt ∧ rt.toInt ≤ 15)) from by first | (exact ⟨rfl, by omega⟩))
      · skip
        have g13 := i_nlt h11
        refine zd (fun h14 => ?_) (fun h14 => ?_)
        · skip
          have g15 := i_le h14
          exact KX 2 _ (by decide) hI (show xB S (mR S 70) from by first | (exact xB_x (xC_o (W := 75) hpre0).2)) (show aS 88 S = ab from by first | (exact (xC_o (W := 88) hpre0).1.trans hpre1)) (show 2 = 2 ∧ ¬ ((0 ≤ i.toInt ∧ i.toInt ≤ 15) ∧ (0 ≤ rt.toInt ∧ rt.toInt ≤ 15)) from by first | (exact ⟨rfl, by omega⟩))
        · skip
          have g16 := i_nle h14
          refine ⟨((zG_r hI (by decide)).trans hr), ?_⟩
          refine ⟨((zG_r hI (by decide)).trans hr), ?_⟩
          refine ⟨i_ix (by omega) (by omega), ?_⟩
          have b17 := i_bd (mI S 73 i.toNatClampNeg)
          refine zd (fun h18 => ?_) (fun h18 => ?_)
          · skip
            have g19 := i_lt h18
            have li20 : (-1 : Int32).toInt = -1 := rfl
            exact K ((-1 : Int32)) _ hI trivial (show xB S (mR S 70) from by first | (exact xB_x (xC_o (W := 75) hpre0).2)) (show (0 ≤ i.toInt ∧ i.toInt ≤ 15) ∧ (0 ≤ rt.toInt ∧ rt.toInt ≤ 15) ∧ ((aNm ab (ab 73 i.toNatClampNeg) = -1 ∧ aS 88 S = ab ∧ (-1 : Int32) = -1) ∨ (aNm ab (ab 73 i.toNatClampNeg) = ab 73 i.toNatClampNeg ∧ 0 ≤ (ab 73 i.toNatClampNeg).toInt ∧ aS 88 S = aSt (aRt ab rt (ab 73 i.toNatClampNeg)) (ab 73 i.toNatClampNeg) ∧ (-1 : Int32) = ab 73 i.toNatClampNeg)) from by first | (exfalso; omega) | (have we : mI S 73 i.toNatClampNeg = ab 73 i.toNatClampNeg := (aS_I (W := 88) (S := S) (c := 73) (c₉ := 73) (k := i.toNatClampNeg) rfl rfl).symm.trans (congrFun (congrFun hpre1 73) i.toNatClampNeg); have wi := congrArg Int32.toInt we; refine ⟨⟨by omega, by omega⟩, ⟨by omega, by omega⟩, ?_⟩; exact Or.inl ⟨if_neg (fun q => by omega), hpre1, rfl⟩))
          · skip
            have g21 := i_nlt h18
            have li22 : (512 : Int32).toInt = 512 := rfl
            refine zd (fun h23 => ?_) (fun h23 => ?_)
            · skip
              have g24 := i_le h23
              have li25 : (-1 : Int32).toInt = -1 := rfl
              exact K ((-1 : Int32)) _ hI trivial (show xB S (mR S 70) from by first | (exact xB_x (xC_o (W := 75) hpre0).2)) (show (0 ≤ i.toInt ∧ i.toInt ≤ 15) ∧ (0 ≤ rt.toInt ∧ rt.toInt ≤ 15) ∧ ((aNm ab (ab 73 i.toNatClampNeg) = -1 ∧ aS 88 S = ab ∧ (-1 : Int32) = -1) ∨ (aNm ab (ab 73 i.toNatClampNeg) = ab 73 i.toNatClampNeg ∧ 0 ≤ (ab 73 i.toNatClampNeg).toInt ∧ aS 88 S = aSt (aRt ab rt (ab 73 i.toNatClampNeg)) (ab 73 i.toNatClampNeg) ∧ (-1 : Int32) = ab 73 i.toNatClampNeg)) from by first | (exfalso; omega) | (have we : mI S 73 i.toNatClampNeg = ab 73 i.toNatClampNeg := (aS_I (W := 88) (S := S) (c := 73) (c₉ := 73) (k := i.toNatClampNeg) rfl rfl).symm.trans (congrFun (congrFun hpre1 73) i.toNatClampNeg); have wi := congrArg Int32.toInt we; refine ⟨⟨by omega, by omega⟩, ⟨by omega, by omega⟩, ?_⟩; exact Or.inl ⟨if_neg (fun q => by omega), hpre1, rfl⟩))
            · skip
              have g26 := i_nle h23
              refine ⟨i_ix (by omega) (by omega), ?_⟩
              refine ⟨fun hc => ?_, fun c1 hc => ?_⟩
              · skip
                have rn_c1 : zTa (mR S 70) (mI S 73 i.toNatClampNeg) = none := (ta_rd (y := (mI S 73 i.toNatClampNeg)) hpre0 (by omega) (by omega)).symm.trans hc
                have li27 : (-1 : Int32).toInt = -1 := rfl
                exact K ((-1 : Int32)) _ hI trivial (show xB S (mR S 70) from by first | (exact xB_x (xC_o (W := 75) hpre0).2)) (show (0 ≤ i.toInt ∧ i.toInt ≤ 15) ∧ (0 ≤ rt.toInt ∧ rt.toInt ≤ 15) ∧ ((aNm ab (ab 73 i.toNatClampNeg) = -1 ∧ aS 88 S = ab ∧ (-1 : Int32) = -1) ∨ (aNm ab (ab 73 i.toNatClampNeg) = ab 73 i.toNatClampNeg ∧ 0 ≤ (ab 73 i.toNatClampNeg).toInt ∧ aS 88 S = aSt (aRt ab rt (ab 73 i.toNatClampNeg)) (ab 73 i.toNatClampNeg) ∧ (-1 : Int32) = ab 73 i.toNatClampNeg)) from by first | (exfalso; omega) | (have we : mI S 73 i.toNatClampNeg = ab 73 i.toNatClampNeg := (aS_I (W := 88) (S := S) (c := 73) (c₉ := 73) (k := i.toNatClampNeg) rfl rfl).symm.trans (congrFun (congrFun hpre1 73) i.toNatClampNeg); have wi := congrArg Int32.toInt we; have nn := nm_n (W := 88) hpre0 rn_c1; rw [hpre1, we] at nn; refine ⟨⟨by omega, by omega⟩, ⟨by omega, by omega⟩, ?_⟩; exact Or.inl ⟨nn, hpre1, rfl⟩))
              · skip
                have th_c1 := (fun _ z => zG_70 hI (c := 70) (by decide) z) c1 hc
                have rg_c1 : zTa (mR S 70) (mI S 73 i.toNatClampNeg) = some c1 := (ta_rd (y := (mI S 73 i.toNatClampNeg)) hpre0 (by omega) (by omega)).symm.trans hc
                refine sp_145_64_87_s (ab := (aS 88 S)) (R := (mR S 70)) (y := ((mI S 73 i.toNatClampNeg))) (rt) ((some c1)) (by omega) (by omega) (zB_dn_zJ87 hI) (fun _ z => by cases z; exact th_c1) (show xB S (mR S 70) from by first | (exact (xC_o (W := 75) hpre0).2)) (show aS 88 S = (aS 88 S) from by first | (exact rfl)) (show (some c1) = zTa (mR S 70) ((mI S 73 i.toNatClampNeg)) from by first | (exact rg_c1.symm)) (by omega) (by omega) (fun v3 S2 hL_S2 hq_v3 rp0_S2 rp1_S2 rp2_S2 => zo_n ⟨zG_T hL_S2, ?_⟩)
                have hI_S2 := zB_up_zJ87 hI hL_S2
                have rp0_S2 : xB S2 (mR S 70) := by
                  have z := rp0_S2
                  (try rw [show mI S 65 = f 65 from funext (fun k => zG_z hI rfl)] at z)
                  (try rw [show mI S 64 1 = f 64 1 from zG_z hI rfl] at z)
                  exact z
                have rp1_S2 : aS 88 S2 = aRt (aS 88 S) rt ((mI S 73 i.toNatClampNeg)) := by
                  have z := rp1_S2
                  (try rw [show mI S 65 = f 65 from funext (fun k => zG_z hI rfl)] at z)
                  (try rw [show mI S 64 1 = f 64 1 from zG_z hI rfl] at z)
                  exact z
                have rp2_S2 : v3 = zTa (mR S 70) ((aS 88 S) 72 rt.toNatClampNeg) := by
                  have z := rp2_S2
                  (try rw [show mI S 65 = f 65 from funext (fun k => zG_z hI rfl)] at z)
                  (try rw [show mI S 64 1 = f 64 1 from zG_z hI rfl] at z)
                  exact z
                refine sp_75_87_s (ab := (aS 88 S2)) (R := (mR S 70)) (y := ((mI S 73 i.toNatClampNeg))) c1 (by omega) (by omega) (zB_dn_zJ87 hI_S2) th_c1 (show xB S2 (mR S 70) from by first | (exact (xC_o (W := 75) rp0_S2).2)) (show aS 88 S2 = (aS 88 S2) from by first | (exact rfl)) (show zTa (mR S 70) ((mI S 73 i.toNatClampNeg)) = some c1 from by first | (exact rg_c1)) (fun S4 hL_S4 rp0_S4 rp1_S4 => zv_n ⟨zG_T hL_S4, ?_⟩)
                have hI_S4 := zB_up_zJ87 hI_S2 hL_S4
                have rp0_S4 : xB S4 (mR S 70) := by
                  have z := rp0_S4
                  (try rw [show mI S2 65 = f 65 from funext (fun k => zG_z hI_S2 rfl)] at z)
                  (try rw [show mI S2 64 1 = f 64 1 from zG_z hI_S2 rfl] at z)
                  exact z
                have rp1_S4 : aS 88 S4 = aSt (aS 88 S2) ((mI S 73 i.toNatClampNeg)) := by
                  have z := rp1_S4
                  (try rw [show mI S2 65 = f 65 from funext (fun k => zG_z hI_S2 rfl)] at z)
                  (try rw [show mI S2 64 1 = f 64 1 from zG_z hI_S2 rfl] at z)
                  exact z
                refine ⟨zG_n hI_S4 th_c1, ?_⟩
                have f28 := zG_th hI_S4 th_c1
                exact K ((mI S4 c1 0)) _ hI_S4 trivial (show xB S4 (mR S4 70) from by first | (exact xB_x (xC_o (W := 75) rp0_S4).2)) (show (0 ≤ i.toInt ∧ i.toInt ≤ 15) ∧ (0 ≤ rt.toInt ∧ rt.toInt ≤ 15) ∧ ((aNm ab (ab 73 i.toNatClampNeg) = -1 ∧ aS 88 S4 = ab ∧ (mI S4 c1 0) = -1) ∨ (aNm ab (ab 73 i.toNatClampNeg) = ab 73 i.toNatClampNeg ∧ 0 ≤ (ab 73 i.toNatClampNeg).toInt ∧ aS 88 S4 = aSt (aRt ab rt (ab 73 i.toNatClampNeg)) (ab 73 i.toNatClampNeg) ∧ (mI S4 c1 0) = ab 73 i.toNatClampNeg)) from by first | (exfalso; omega) | (have we : mI S 73 i.toNatClampNeg = ab 73 i.toNatClampNeg := (aS_I (W := 88) (S := S) (c := 73) (c₉ := 73) (k := i.toNatClampNeg) rfl rfl).symm.trans (congrFun (congrFun hpre1 73) i.toNatClampNeg); have wi := congrArg Int32.toInt we; have nn := nm_y (W := 88) hpre0 rg_c1; rw [hpre1, we] at nn; have w0 := (zTa_p rg_c1).1; have st := rp1_S4; rw [rp1_S2, hpre1, we] at st; have tn := (xB_th (W := 88) rp0_S4 rg_c1).2.2.1; refine ⟨⟨by omega, by omega⟩, ⟨by omega, by omega⟩, ?_⟩; exact Or.inr ⟨nn, (by omega), st, tn.trans we⟩))

/-! from 95.g35 -/
/-! the heap by numbers, the class (written by wip/tools/gen18.py) -/
theorem g_158_64_s_p87_0 {X : Nat × (Nat → Int32)} {d w : Nat} {S : ma_S} {Q : Option ma_V ⊕ Nat → ma_S → Prop} (rt : Int32) (hd : 7 ≤ d) (hw : 134 ≤ w) (hS : zT S) (h : if rt < 0 then (Q (.inr 2) (ma_bump S)) else (if (16 : Int32) ≤ rt then (Q (.inr 2) (ma_bump S)) else (mR S 64 11 = some 87 ∧ (mR S 64 11 = some 87 ∧ (ma_wp X (d - 1) (w - 22) 98 0 [(0, .inr (.inr (some 69)))] [] S (zo (fun v2 S1 => zT S1 ∧ ((v2 = none → Q (.inl (some (.inl (-1 : Int32)))) S1) ∧ (∀ c3, v2 = some c3 → ma_wp X (d - 1) (w - 24) 145 0 [(0, .inr (.inr (some 64))), (1, .inr (.inr (some 87))), (2, .inl rt), (3, .inr (.inr (some c3)))] [] S1 (zo (fun v5 S4 => zT S4 ∧ ((126 ≤ c3 ∧ c3 < mN S4) ∧ (Q (.inl (some (.inl (mI S4 c3 0)))) S4))) (fun x S9 => Q (.inr x) S9))))) (fun x S9 => Q (.inr x) S9))))))) : ma_wp X d w 158 0 [(0, .inr (.inr (some 64))), (1, .inl rt)] [] S Q := by
  refine zw_push hm_158 dX11_granted_0 (v := .inl rt) rfl ?_
  refine zw_cs hm_158 dX11_granted_1 pn_11_109 sl_11_109 hm_142 [.inl rt] [] rfl ⟨by omega, by omega⟩ rfl ?_
  show ma_wp X (d - 1) (w - 20) 142 0 [(0, .inl rt)] [] S _
  refine zw_push hm_142 dX11_isSlot_0 (v := .inl rt) rfl ?_
  refine zw_if0 hm_142 dX11_isSlot_1 (t := 14) rfl zc0_lt ?_ ?_
  · intro hc
    rw [if_pos hc] at h
    refine zw_push hm_142 dX11_isSlot_14 (v := .inl (0 : Int32)) rfl ?_
    refine zw_bret hm_142 dX11_isSlot_15 (by decide) ?_
    show ma_wp X d w 158 4 [(0, .inr (.inr (some 64))), (1, .inl rt)] [.inl (0 : Int32)] S _
    refine zw_if0 hm_158 dX11_granted_4 (t := 15) rfl zc0_ne (fun hc => absurd hc (by decide)) (fun _ => ?_)
    exact zw_thr hm_158 dX11_granted_7 dX11_granted_10 dX11_granted_11 dX11_granted_14 x_11_79_81 n_11_79 (by omega) (by show 0 + 81 ≤ w; omega) h
  · intro hc
    rw [if_neg hc] at h
    refine zw_push hm_142 dX11_isSlot_4 (v := .inl rt) rfl ?_
    refine zw_push hm_142 dX11_isSlot_5 (v := .inl (16 : Int32)) rfl ?_
    refine zw_if2 hm_142 dX11_isSlot_7 (t := 14) rfl zc2_ge ?_ ?_
    · intro hc
      rw [if_pos hc] at h
      refine zw_push hm_142 dX11_isSlot_14 (v := .inl (0 : Int32)) rfl ?_
      refine zw_bret hm_142 dX11_isSlot_15 (by decide) ?_
      show ma_wp X d w 158 4 [(0, .inr (.inr (some 64))), (1, .inl rt)] [.inl (0 : Int32)] S _
      refine zw_if0 hm_158 dX11_granted_4 (t := 15) rfl zc0_ne (fun hc => absurd hc (by decide)) (fun _ => ?_)
      exact zw_thr hm_158 dX11_granted_7 dX11_granted_10 dX11_granted_11 dX11_granted_14 x_11_79_81 n_11_79 (by omega) (by show 0 + 81 ≤ w; omega) h
    · intro hc
      rw [if_neg hc] at h
      refine zw_push hm_142 dX11_isSlot_10 (v := .inl (1 : Int32)) rfl ?_
      refine zw_goto hm_142 dX11_isSlot_11 (t := 15) rfl ?_
      refine zw_bret hm_142 dX11_isSlot_15 (by decide) ?_
      show ma_wp X d w 158 4 [(0, .inr (.inr (some 64))), (1, .inl rt)] [.inl (1 : Int32)] S _
      refine zw_if0 hm_158 dX11_granted_4 (t := 15) rfl zc0_ne (fun _ => ?_) (fun hc => absurd (by decide) hc)
      refine zw_push hm_158 dX11_granted_15 (v := .inr (.inr (some 64))) rfl ?_
      refine zw_cv hm_158 dX11_granted_16 v_11_119_11 hm_144 [] [] rfl (zT_rt hS s_64 rfl) ⟨by omega, by omega⟩ rfl ?_
      show ma_wp X (d - 1) (w - 20) 144 0 [(0, .inr (.inr (some 64)))] [] S _
      refine zw_push hm_144 dX11_needCollector_0 (v := .inr (.inr (some 64))) rfl ?_
      obtain ⟨hg, h⟩ := h
      refine zw_gf hm_144 dX11_needCollector_1 (v := .inr (.inr (some 87))) (zT_is hS s_64) (zT_t hS s_64) rfl f_11_98_11 (congrArg (fun z => Sum.inr (Sum.inr z)) hg) ?_
      refine zw_ifnonnull hm_144 dX11_needCollector_4 (t := 15) rfl (fun z => by cases z) (fun _ _ => ?_)
      refine zw_push hm_144 dX11_needCollector_15 (v := .inr (.inr (some 64))) rfl ?_
      obtain ⟨hg, h⟩ := h
      refine zw_gf hm_144 dX11_needCollector_16 (v := .inr (.inr (some 87))) (zT_is hS s_64) (zT_t hS s_64) rfl f_11_98_11 (congrArg (fun z => Sum.inr (Sum.inr z)) hg) ?_
      refine zw_aret hm_144 dX11_needCollector_19 ?_
      show ma_wp X d w 158 19 [(0, .inr (.inr (some 64))), (1, .inl rt)] [.inr (.inr (some 87))] S _
      refine zw_sto hm_158 dX11_granted_19 [(2, .inr (.inr (some 87))), (0, .inr (.inr (some 64))), (1, .inl rt)] rfl rfl rfl ?_
      refine zw_push hm_158 dX11_granted_20 (v := .inr (.inr (some 64))) rfl ?_
      refine zw_gf hm_158 dX11_granted_21 (v := .inr (.inr (some 69))) (zT_is hS s_64) (zT_t hS s_64) rfl f_11_26_11 (zT_f hS r_64_8) ?_
      refine zw_cv hm_158 dX11_granted_24 v_11_203_7 hm_98 [] [] rfl (zT_rt hS s_69 rfl) ⟨by omega, by omega⟩ rfl (zw_mono h (zo_go ?_ ?_))
      · intro v2 S1 hv
        obtain ⟨hS1, h⟩ := hv
        refine zw_sto hm_158 dX11_granted_27 [(3, .inr (.inr v2)), (2, .inr (.inr (some 87))), (0, .inr (.inr (some 64))), (1, .inl rt)] rfl rfl rfl ?_
        refine zw_push hm_158 dX11_granted_28 (v := .inr (.inr v2)) rfl ?_
        refine zw_ifnonnull hm_158 dX11_granted_29 (t := 34) rfl ?_ ?_
        · intro hc
          have h := h.1 hc
          (try rw [hc])
          show ma_wp X d w 158 32 [(3, .inr (.inr none)), (2, .inr (.inr (some 87))), (0, .inr (.inr (some 64))), (1, .inl rt)] [] S1 _
          refine zw_push hm_158 dX11_granted_32 (v := .inl (-1 : Int32)) rfl ?_
          exact zw_iret hm_158 dX11_granted_33 h
        · intro c3 hc
          have h := h.2 c3 hc
          (try rw [hc])
          show ma_wp X d w 158 34 [(3, .inr (.inr (some c3))), (2, .inr (.inr (some 87))), (0, .inr (.inr (some 64))), (1, .inl rt)] [] S1 _
          refine zw_push hm_158 dX11_granted_34 (v := .inr (.inr (some 64))) rfl ?_
          refine zw_push hm_158 dX11_granted_35 (v := .inr (.inr (some 87))) rfl ?_
          refine zw_push hm_158 dX11_granted_36 (v := .inl rt) rfl ?_
          refine zw_push hm_158 dX11_granted_37 (v := .inr (.inr (some c3))) rfl ?_
          refine zw_cv hm_158 dX11_granted_38 v_11_169_11 hm_145 [.inr (.inr (some c3)), .inl rt, .inr (.inr (some 87))] [] rfl (zT_rt hS1 s_64 rfl) ⟨by omega, by omega⟩ rfl (zw_mono h (zo_go ?_ ?_))
          · intro v5 S4 hv
            obtain ⟨hS4, h⟩ := hv
            refine zw_stk hm_158 dX11_granted_41 (st₉ := []) rfl rfl ?_
            refine zw_push hm_158 dX11_granted_42 (v := .inr (.inr (some c3))) rfl ?_
            obtain ⟨hg, h⟩ := h
            refine zw_gf hm_158 dX11_granted_43 (v := .inl (mI S4 c3 0)) (zT_tis hS4 hg) (zT_tt hS4 hg) rfl f_11_182_9 rfl ?_
            exact zw_iret hm_158 dX11_granted_46 h
          · intro x S9 hx
            exact ⟨by decide, hx⟩
      · intro x S9 hx
        exact ⟨by decide, hx⟩
theorem sp_158_64_s_p87 {X : Nat × (Nat → Int32)} {d w : Nat} {f : Nat → Nat → Int32} {r : Nat → Nat → Option Nat} {C Z N : Nat} {Q : Option ma_V ⊕ Nat → ma_S → Prop} {ab : Nat→Nat→Int32} {S : ma_S} (rt : Int32) (hd : 7 ≤ d) (hw : 134 ≤ w) (hI : zB f r C Z N S) (hr : r 64 11 = some 87) (hpre0 : xB S (mR S 70)) (hpre1 : aS 88 S = ab) (K : ∀ v S₉, zB f r C Z N S₉ → (True) → (xB S₉ (mR S₉ 70)) → ((0 ≤ rt.toInt ∧ rt.toInt ≤ 15) ∧ ((aNm ab (aTy ab) = -1 ∧ aS 88 S₉ = aTw ab ∧ v = -1) ∨ (aNm ab (aTy ab) = aTy ab ∧ 0 ≤ (aTy ab).toInt ∧ aS 88 S₉ = aRt (aTw ab) rt (aTy ab) ∧ v = aTy ab))) → Q (.inl (some (.inl v))) S₉) (KX : ∀ x S₉, (x = 2) → zB f r C Z N S₉ → (xB S₉ (mR S₉ 70)) → (aS 88 S₉ = ab) → (x = 2 ∧ ¬ (0 ≤ rt.toInt ∧ rt.toInt ≤ 15)) → Q (.inr x) (ma_bump S₉)) : ma_wp X d w 158 0 [(0, .inr (.inr (some 64))), (1, .inl rt)] [] S Q := by
  refine g_158_64_s_p87_0 rt (by omega) (by omega) (zG_T hI) ?_
  have b1 := i_bd rt
  have li2 : (0 : Int32).toInt = 0 := rfl
  refine zd (fun h3 => ?_) (fun h3 => ?_)
  · skip
    have g4 := i_lt h3
    exact KX 2 _ (by decide) hI (show xB S (mR S 70) from by first | (exact xB_x (xC_o (W := 75) hpre0).2)) (show aS 88 S = ab from by first | (exact (xC_o (W := 88) hpre0).1.trans hpre1)) (show 2 = 2 ∧ ¬ (0 ≤ rt.toInt ∧ rt.toInt ≤ 15) from by first | (exact ⟨rfl, by omega⟩))
  · skip
    have g5 := i_nlt h3
    have li6 : (16 : Int32).toInt = 16 := rfl
    refine zd (fun h7 => ?_) (fun h7 => ?_)
    · skip
      have g8 := i_le h7
      exact KX 2 _ (by decide) hI (show xB S (mR S 70) from by first | (exact xB_x (xC_o (W := 75) hpre0).2)) (show aS 88 S = ab from by first | (exact (xC_o (W := 88) hpre0).1.trans hpre1)) (show 2 = 2 ∧ ¬ (0 ≤ rt.toInt ∧ rt.toInt ≤ 15) from by first | (exact ⟨rfl, by omega⟩))
    · skip
      have g9 := i_nle h7
      refine ⟨((zG_r hI (by decide)).trans hr), ?_⟩
      refine ⟨((zG_r hI (by decide)).trans hr), ?_⟩
      refine sp_98_69_s (ab := (aS 88 S)) (R := (mR S 70)) (W := 88) (by omega) (by omega) (zB_dn_zI hI) (show xB S (mR S 70) from by first | (exact (xC_o (W := 75) hpre0).2)) (show aS 88 S = (aS 88 S) from by first | (exact rfl)) (show xW 88 from by first | (exact xW88)) (fun v2 S1 hL_S1 hq_v2 rp0_S1 rp1_S1 => zo_n ⟨zG_T hL_S1, ?_⟩)
      have hI_S1 := zB_up_zI hI hL_S1
      have rp0_S1 : xB S1 (mR S 70) := by
        have z := rp0_S1
        (try rw [show mI S 65 = f 65 from funext (fun k => zG_z hI rfl)] at z)
        (try rw [show mI S 64 1 = f 64 1 from zG_z hI rfl] at z)
        exact z
      have rp1_S1 : v2 = zTa (mR S 70) (aTy (aS 88 S)) ∧ aS 88 S1 = aTw (aS 88 S) := by
        have z := rp1_S1
        (try rw [show mI S 65 = f 65 from funext (fun k => zG_z hI rfl)] at z)
        (try rw [show mI S 64 1 = f 64 1 from zG_z hI rfl] at z)
        exact z
      refine ⟨fun hc => ?_, fun c3 hc => ?_⟩
      · skip
        have rn_c3 : zTa (mR S 70) (aTy (aS 88 S)) = none := rp1_S1.1.symm.trans hc
        have li10 : (-1 : Int32).toInt = -1 := rfl
        exact K ((-1 : Int32)) _ hI_S1 trivial (show xB S1 (mR S1 70) from by first | (exact xB_x (xC_o (W := 75) rp0_S1).2)) (show (0 ≤ rt.toInt ∧ rt.toInt ≤ 15) ∧ ((aNm ab (aTy ab) = -1 ∧ aS 88 S1 = aTw ab ∧ (-1 : Int32) = -1) ∨ (aNm ab (aTy ab) = aTy ab ∧ 0 ≤ (aTy ab).toInt ∧ aS 88 S1 = aRt (aTw ab) rt (aTy ab) ∧ (-1 : Int32) = aTy ab)) from by first | (have tw := rp1_S1; rw [hpre1] at tw; have nn := nm_n (W := 88) hpre0 rn_c3; rw [hpre1] at nn; refine ⟨⟨by omega, by omega⟩, Or.inl ⟨nn, tw.2, rfl⟩⟩))
      · skip
        have th_c3 := hq_v2 c3 hc
        have rg_c3 : zTa (mR S 70) (aTy (aS 88 S)) = some c3 := rp1_S1.1.symm.trans hc
        subst hc
        refine sp_145_64_87_s (ab := (aS 88 S1)) (R := (mR S 70)) (y := ((aTy (aS 88 S)))) (rt) ((some c3)) (by omega) (by omega) (zB_dn_zJ87 hI_S1) (fun _ z => by cases z; exact th_c3) (show xB S1 (mR S 70) from by first | (exact (xC_o (W := 75) rp0_S1).2)) (show aS 88 S1 = (aS 88 S1) from by first | (exact rfl)) (show (some c3) = zTa (mR S 70) ((aTy (aS 88 S))) from by first | (exact rg_c3.symm)) (by omega) (by omega) (fun v5 S4 hL_S4 hq_v5 rp0_S4 rp1_S4 rp2_S4 => zo_n ⟨zG_T hL_S4, ?_⟩)
        have hI_S4 := zB_up_zJ87 hI_S1 hL_S4
        have rp0_S4 : xB S4 (mR S 70) := by
          have z := rp0_S4
          (try rw [show mI S1 65 = f 65 from funext (fun k => zG_z hI_S1 rfl)] at z)
          (try rw [show mI S1 64 1 = f 64 1 from zG_z hI_S1 rfl] at z)
          exact z
        have rp1_S4 : aS 88 S4 = aRt (aS 88 S1) rt ((aTy (aS 88 S))) := by
          have z := rp1_S4
          (try rw [show mI S1 65 = f 65 from funext (fun k => zG_z hI_S1 rfl)] at z)
          (try rw [show mI S1 64 1 = f 64 1 from zG_z hI_S1 rfl] at z)
          exact z
        have rp2_S4 : v5 = zTa (mR S 70) ((aS 88 S1) 72 rt.toNatClampNeg) := by
          have z := rp2_S4
          (try rw [show mI S1 65 = f 65 from funext (fun k => zG_z hI_S1 rfl)] at z)
          (try rw [show mI S1 64 1 = f 64 1 from zG_z hI_S1 rfl] at z)
          exact z
        refine ⟨zG_n hI_S4 th_c3, ?_⟩
        have f11 := zG_th hI_S4 th_c3
        exact K ((mI S4 c3 0)) _ hI_S4 trivial (show xB S4 (mR S4 70) from by first | (exact xB_x (xC_o (W := 75) rp0_S4).2)) (show (0 ≤ rt.toInt ∧ rt.toInt ≤ 15) ∧ ((aNm ab (aTy ab) = -1 ∧ aS 88 S4 = aTw ab ∧ (mI S4 c3 0) = -1) ∨ (aNm ab (aTy ab) = aTy ab ∧ 0 ≤ (aTy ab).toInt ∧ aS 88 S4 = aRt (aTw ab) rt (aTy ab) ∧ (mI S4 c3 0) = aTy ab)) from by first | (have tw := rp1_S1; rw [hpre1] at tw; have nn := nm_y (W := 88) hpre0 rg_c3; rw [hpre1] at nn; have w0 := (zTa_p rg_c3).1; rw [hpre1] at w0; have st := rp1_S4; rw [tw.2, hpre1] at st; have tn := (xB_th (W := 88) rp0_S4 rg_c3).2.2.1; rw [hpre1] at tn; refine ⟨⟨by omega, by omega⟩, Or.inr ⟨nn, w0, st, tn⟩⟩))
/-! A NEW ONE -/
def zNw (a : Nat → Nat → Int32) (n : Nat) (F : Nat → Int32) (L : Int64) : Nat → Nat → Int32 := fun c k => if c = 126 ∧ k = n then 1 else if 126 < c ∧ c < 1000 ∧ k = n then (if zfd (c - 126) = true then F (c - 126) else 0) else if c = 1000 + n then zbit L (Int32.ofNat k) else a c k
def zIw (a : Nat → Nat → Int32) (p : Int) (L : Int64) (j : Int) : Nat → Nat → Int32 := fun c k => if c = 71 ∧ p + 1 ≤ (k : Int) ∧ (k : Int) < p + 1 + j then (if zbit L (Int32.ofNat ((k : Int) - p - 1).toNat) = 0 then 0 else -1) else a c k
def aAd (a : Nat → Nat → Int32) (y : Int32) (F : Nat → Int32) (L : Int64) : Nat → Nat → Int32 := ma_u (ma_u (zIw (ma_u (zNw a y.toNatClampNeg F L) 71 (F 4).toNatClampNeg y) (F 4).toInt L ((F 2).toInt - 1)) 69 6 (a 69 6 + 1)) 69 8 (a 69 8 + F 2)
def aMd (a : Nat → Nat → Int32) (y : Int32) : Nat → Nat → Int32 := if a 87 8 = 0 then ma_u a 87 2 (a 130 y.toNatClampNeg + a 128 y.toNatClampNeg) else ma_u (ma_u a 87 2 (a 130 y.toNatClampNeg + a 128 y.toNatClampNeg)) 77 y.toNatClampNeg 2
section B11
variable {W c n k : Nat} {I : Nat → Nat → Int32} {R : zRT} {L : Nat → Nat → Int64} {a ab : Nat → Nat → Int32} {S : ma_S} {y x i : Int32} {F : Nat → Int32} {l : Int64} {p j : Int}
theorem aF_Rs (hn : n < 512) : aF W I (zRu R n (some c)) L = zNw (aF W I R L) n (I c) (L c 3) := by
  funext c1 k1
  unfold zNw
  by_cases b : c1 < 126
  · rw [if_neg (by omega), if_neg (by omega), if_neg (by omega)]
    unfold aF
    rw [if_pos b, if_pos b]
  · by_cases a1 : c1 = 126
    · by_cases a3 : k1 = n
      · rw [if_pos ⟨a1, a3⟩]
        unfold aF aTn zRu
        rw [if_neg b, if_pos a1, if_pos (by omega), if_pos a3]
      · rw [if_neg (fun w => a3 w.2), if_neg (by omega), if_neg (by omega)]
        unfold aF aTn zRu
        rw [if_neg b, if_pos a1, if_neg b, if_pos a1, if_neg a3]
    · by_cases a2 : c1 < 1000
      · by_cases a3 : k1 = n
        · rw [if_neg (fun w => a1 w.1), if_pos ⟨by omega, a2, a3⟩]
          unfold aF aTf zRu
          rw [if_neg b, if_neg a1, if_pos a2]
          simp only [if_pos a3]
          rw [if_pos (show k1 < 512 by omega)]
        · rw [if_neg (fun w => a1 w.1), if_neg (fun w => a3 w.2.2), if_neg (by omega)]
          unfold aF aTf zRu
          rw [if_neg b, if_neg a1, if_pos a2, if_neg b, if_neg a1, if_pos a2]
          simp only [if_neg a3]
      · rw [if_neg (fun w => a1 w.1), if_neg (by omega)]
        by_cases a3 : c1 = 1000 + n
        · rw [if_pos a3]
          unfold aF aTr zRu
          rw [if_neg b, if_neg a1, if_neg a2, if_pos (by omega), if_pos (show c1 - 1000 = n by omega)]
        · rw [if_neg a3]
          unfold aF aTr zRu
          rw [if_neg b, if_neg a1, if_neg a2, if_neg b, if_neg a1, if_neg a2, if_neg (show ¬ c1 - 1000 = n by omega)]
theorem xC_s (h : xC W S ab R) (hc : 126 ≤ c) (hn : n < 512) (hnum : mI S c 0 = Int32.ofNat n) : xC W (ma_put S 70 n (.inr (.inr (some c)))) (zNw ab n (mI S c) (mL S c 3)) (zRu R n (some c)) := by
  have e : mR (ma_put S 70 n (.inr (.inr (some c)))) 70 = zRu R n (some c) := by
    funext k₉
    show (if 70 = 70 ∧ k₉ = n then some c else mR S 70 k₉) = if k₉ = n then some c else R k₉
    rw [← h.2.1]
    by_cases z : k₉ = n
    · rw [if_pos ⟨rfl, z⟩, if_pos z]
    · rw [if_neg (fun q => z q.2), if_neg z]
  refine ⟨?_, e, fun n₉ t hn₉ q => ?_⟩
  · have z := aF_Rs (W := W) (I := mI S) (R := R) (L := mL S) (c := c) hn
    unfold aS
    rw [e, ← h.1]
    unfold aS
    rw [h.2.1]
    exact z
  · unfold zRu at q
    split at q
    · next w =>
      cases q
      rw [w]
      exact ⟨hc, hnum⟩
    · exact h.2.2 n₉ t hn₉ q
theorem zp_row {c₉ k₉ : Nat} (hc : 126 ≤ c) (h : c₉ < 126) : mI (ma_put S c₉ k₉ (.inl x)) c = mI S c := by
  funext k
  exact zp_e hc h
theorem zIw_0 : zIw a p l 0 = a := by
  funext c₉ k₉
  exact if_neg (by omega)
theorem zIw_s (h0 : 0 ≤ i.toInt) (h1 : i.toInt < 1000) (hk : (k : Int) = p + 1 + i.toInt) (hx : x = if zbit l i = 0 then 0 else -1) : ma_u (zIw a p l i.toInt) 71 k x = zIw a p l (i + 1).toInt := by
  have e := i_p1 (i := i) (by omega)
  funext c₉ k₉
  show (if c₉ = 71 ∧ k₉ = k then x else if c₉ = 71 ∧ p + 1 ≤ (k₉ : Int) ∧ (k₉ : Int) < p + 1 + i.toInt then (if zbit l (Int32.ofNat ((k₉ : Int) - p - 1).toNat) = 0 then 0 else -1) else a c₉ k₉) = if c₉ = 71 ∧ p + 1 ≤ (k₉ : Int) ∧ (k₉ : Int) < p + 1 + (i + 1).toInt then (if zbit l (Int32.ofNat ((k₉ : Int) - p - 1).toNat) = 0 then 0 else -1) else a c₉ k₉
  by_cases h2 : c₉ = 71 ∧ k₉ = k
  · rw [if_pos h2, if_pos ⟨h2.1, by omega, by omega⟩, hx]
    have e2 : ((k₉ : Int) - p - 1).toNat = i.toNatClampNeg := by
      have := tn_cast h0
      omega
    rw [e2, ofN_tn h0]
  · rw [if_neg h2]
    by_cases h3 : c₉ = 71 ∧ p + 1 ≤ (k₉ : Int) ∧ (k₉ : Int) < p + 1 + i.toInt
    · rw [if_pos h3, if_pos (show c₉ = 71 ∧ p + 1 ≤ (k₉ : Int) ∧ (k₉ : Int) < p + 1 + (i + 1).toInt from ⟨h3.1, h3.2.1, by omega⟩)]
    · rw [if_neg h3, if_neg (fun z => h3 ⟨z.1, z.2.1, by
        have z1 := z.2.2
        by_cases q : k₉ = k
        · exact absurd ⟨z.1, q⟩ h2
        · omega⟩)]
theorem zb_y (hb : ¬ lg_cmp ((l.toUInt64 >>> (i.toInt64.toUInt64 &&& Int64.toUInt64 63)).toInt64 &&& (1 : Int64)) (0 : Int64) = 0) : (-1 : Int32) = if zbit l i = 0 then 0 else -1 := by
  unfold zbit
  rw [if_neg hb]
  rfl
theorem zb_n (hb : lg_cmp ((l.toUInt64 >>> (i.toInt64.toUInt64 &&& Int64.toUInt64 63)).toInt64 &&& (1 : Int64)) (0 : Int64) = 0) : (0 : Int32) = if zbit l i = 0 then 0 else -1 := by
  unfold zbit
  rw [if_pos hb]
  rfl
theorem zIw_o (h : c ≠ 71) : zIw a p l j c k = a c k := if_neg (fun w => h w.1)
theorem zNw_o (h : c < 126) : zNw a n F l c k = a c k := by
  unfold zNw
  rw [if_neg (by omega), if_neg (by omega), if_neg (by omega)]
theorem zTa_u (hn : 0 ≤ y.toInt) (h5 : y.toInt < 512) : zTa (zRu R y.toNatClampNeg (some c)) y = some c := by
  unfold zTa zRu
  rw [if_pos ⟨hn, h5⟩, if_pos rfl]
end B11

/-! from 95.g36 -/
/-! the heap by numbers, the class (written by wip/tools/gen18.py) -/
theorem g_91_69_s_0 {X : Nat × (Nat → Int32)} {d w : Nat} {S : ma_S} {Q : Option ma_V ⊕ Nat → ma_S → Prop} (t : Nat) (hd : 2 ≤ d) (hw : 42 ≤ w) (hS : zT S) (h : (126 ≤ t ∧ t < mN S) ∧ ((126 ≤ t ∧ t < mN S) ∧ ((126 ≤ t ∧ t < mN S) ∧ (if (512 : Int32) ≤ (mI S t 0) then (Q (.inl none) S) else ((126 ≤ t ∧ t < mN S) ∧ (if (mI S t 4) < 0 then (Q (.inl none) S) else (if ((mI S t 4) + (mI S t 2)) ≤ (4500 : Int32) then ((126 ≤ t ∧ t < mN S) ∧ ((0 ≤ (mI S t 0) ∧ (mI S t 0).toNatClampNeg < 512) ∧ ((126 ≤ t ∧ t < mN S) ∧ ((126 ≤ t ∧ t < mN (ma_put S 70 (mI S t 0).toNatClampNeg (.inr (.inr (some t))))) ∧ ((126 ≤ t ∧ t < mN (ma_put S 70 (mI S t 0).toNatClampNeg (.inr (.inr (some t))))) ∧ ((0 ≤ (mI S t 4) ∧ (mI S t 4).toNatClampNeg < 4500) ∧ (ma_wp X d w 91 60 [(0, .inr (.inr (some 69))), (1, .inr (.inr (some t))), (3, .inl (0 : Int32))] [] (ma_put (ma_put S 70 (mI S t 0).toNatClampNeg (.inr (.inr (some t)))) 71 (mI S t 4).toNatClampNeg (.inl (mI S t 0))) Q))))))) else (Q (.inl none) S)))))))) : ma_wp X d w 91 0 [(0, .inr (.inr (some 69))), (1, .inr (.inr (some t)))] [] S Q := by
  refine zw_push hm_91 dX7_add_0 (v := .inr (.inr (some t))) rfl ?_
  obtain ⟨hg, h⟩ := h
  refine zw_gf hm_91 dX7_add_1 (v := .inl (mI S t 4)) (zT_tis hS hg) (zT_tt hS hg) rfl f_7_61_9 rfl ?_
  refine zw_push hm_91 dX7_add_4 (v := .inr (.inr (some t))) rfl ?_
  obtain ⟨hg, h⟩ := h
  refine zw_gf hm_91 dX7_add_5 (v := .inl (mI S t 2)) (zT_tis hS hg) (zT_tt hS hg) rfl f_7_64_9 rfl ?_
  refine zw_stk hm_91 dX7_add_8 (st₉ := [.inl ((mI S t 4) + (mI S t 2))]) rfl rfl ?_
  refine zw_sto hm_91 dX7_add_9 [(2, .inl ((mI S t 4) + (mI S t 2))), (0, .inr (.inr (some 69))), (1, .inr (.inr (some t)))] rfl rfl rfl ?_
  refine zw_push hm_91 dX7_add_10 (v := .inr (.inr (some t))) rfl ?_
  obtain ⟨hg, h⟩ := h
  refine zw_gf hm_91 dX7_add_11 (v := .inl (mI S t 0)) (zT_tis hS hg) (zT_tt hS hg) rfl f_7_67_9 rfl ?_
  refine zw_push hm_91 dX7_add_14 (v := .inl (512 : Int32)) rfl ?_
  refine zw_if2 hm_91 dX7_add_17 (t := 34) rfl zc2_ge ?_ ?_
  · intro hc
    rw [if_pos hc] at h
    exact zw_vret hm_91 dX7_add_34 h
  · intro hc
    rw [if_neg hc] at h
    refine zw_push hm_91 dX7_add_20 (v := .inr (.inr (some t))) rfl ?_
    obtain ⟨hg, h⟩ := h
    refine zw_gf hm_91 dX7_add_21 (v := .inl (mI S t 4)) (zT_tis hS hg) (zT_tt hS hg) rfl f_7_61_9 rfl ?_
    refine zw_if0 hm_91 dX7_add_24 (t := 34) rfl zc0_lt ?_ ?_
    · intro hc
      rw [if_pos hc] at h
      exact zw_vret hm_91 dX7_add_34 h
    · intro hc
      rw [if_neg hc] at h
      refine zw_push hm_91 dX7_add_27 (v := .inl ((mI S t 4) + (mI S t 2))) rfl ?_
      refine zw_push hm_91 dX7_add_28 (v := .inl (4500 : Int32)) rfl ?_
      refine zw_if2 hm_91 dX7_add_31 (t := 35) rfl zc2_le ?_ ?_
      · intro hc
        rw [if_pos hc] at h
        refine zw_push hm_91 dX7_add_35 (v := .inr (.inr (some 69))) rfl ?_
        refine zw_gf hm_91 dX7_add_36 (v := .inr (.inr (some 70))) (zT_is hS s_69) (zT_t hS s_69) rfl f_7_11_7 (zT_f hS r_69_0) ?_
        refine zw_push hm_91 dX7_add_39 (v := .inr (.inr (some t))) rfl ?_
        obtain ⟨hg, h⟩ := h
        refine zw_gf hm_91 dX7_add_40 (v := .inl (mI S t 0)) (zT_tis hS hg) (zT_tt hS hg) rfl f_7_67_9 rfl ?_
        refine zw_push hm_91 dX7_add_43 (v := .inr (.inr (some t))) rfl ?_
        obtain ⟨hg, h⟩ := h
        obtain ⟨hg2, h⟩ := h
        refine zw_aas hm_91 dX7_add_44 (zT_is hS s_70) (zT_h hS s_70) rfl hg (fun b z => by cases z; exact ⟨zT_tis hS hg2, zT_tt hS hg2⟩) ?_
        refine zw_push hm_91 dX7_add_45 (v := .inr (.inr (some 69))) rfl ?_
        refine zw_gf hm_91 dX7_add_46 (v := .inr (.inr (some 71))) (zT_is (zT_pr hS (zfi_row (by decide +kernel))) s_69) (zT_t (zT_pr hS (zfi_row (by decide +kernel))) s_69) rfl f_7_17_7 (zT_f (zT_pr hS (zfi_row (by decide +kernel))) r_69_1) ?_
        refine zw_push hm_91 dX7_add_49 (v := .inr (.inr (some t))) rfl ?_
        obtain ⟨hg, h⟩ := h
        refine zw_gf hm_91 dX7_add_50 (v := .inl (mI S t 4)) (zT_tis (zT_pr hS (zfi_row (by decide +kernel))) hg) (zT_tt (zT_pr hS (zfi_row (by decide +kernel))) hg) rfl f_7_61_9 rfl ?_
        refine zw_push hm_91 dX7_add_53 (v := .inr (.inr (some t))) rfl ?_
        obtain ⟨hg, h⟩ := h
        refine zw_gf hm_91 dX7_add_54 (v := .inl (mI S t 0)) (zT_tis (zT_pr hS (zfi_row (by decide +kernel))) hg) (zT_tt (zT_pr hS (zfi_row (by decide +kernel))) hg) rfl f_7_67_9 rfl ?_
        obtain ⟨hg, h⟩ := h
        refine zw_ias hm_91 dX7_add_57 (zT_is (zT_pr hS (zfi_row (by decide +kernel))) s_71) (zT_h (zT_pr hS (zfi_row (by decide +kernel))) s_71) rfl hg ?_
        refine zw_push hm_91 dX7_add_58 (v := .inl (0 : Int32)) rfl ?_
        refine zw_sto hm_91 dX7_add_59 [(3, .inl (0 : Int32)), (2, .inl ((mI S t 4) + (mI S t 2))), (0, .inr (.inr (some 69))), (1, .inr (.inr (some t)))] rfl rfl rfl ?_
        exact zw_sub (ma_nd_of (ks := [0, 1, 3]) rfl (by decide)) (ma_nd_of (ks := [3, 2, 0, 1]) rfl (by decide)) (ma_le_cons rfl (ma_le_cons rfl (ma_le_cons rfl (ma_le_nil _)))) h
      · intro hc
        rw [if_neg hc] at h
        exact zw_vret hm_91 dX7_add_34 h
theorem g_91_69_s_60 {X : Nat × (Nat → Int32)} {d w : Nat} {S : ma_S} {Q : Option ma_V ⊕ Nat → ma_S → Prop} (l1 : Nat) (l3 : Int32) (hd : 2 ≤ d) (hw : 42 ≤ w) (hS : zT S) (h : (126 ≤ l1 ∧ l1 < mN S) ∧ (if ((mI S l1 2) - (1 : Int32)) ≤ l3 then ((126 ≤ l1 ∧ l1 < mN (ma_put (ma_put S 69 6 (.inl ((mI S 69 6) + (1 : Int32)))) 69 7 (.inl ((mI S 69 7) + (1 : Int32))))) ∧ (Q (.inl none) (ma_put (ma_put (ma_put S 69 6 (.inl ((mI S 69 6) + (1 : Int32)))) 69 7 (.inl ((mI S 69 7) + (1 : Int32)))) 69 8 (.inl ((mI S 69 8) + (mI (ma_put (ma_put S 69 6 (.inl ((mI S 69 6) + (1 : Int32)))) 69 7 (.inl ((mI S 69 7) + (1 : Int32)))) l1 2)))))) else ((126 ≤ l1 ∧ l1 < mN S) ∧ ((126 ≤ l1 ∧ l1 < mN S) ∧ ((126 ≤ l1 ∧ l1 < mN S) ∧ (if l3 < 0 then ((0 ≤ (((mI S l1 4) + (1 : Int32)) + l3) ∧ (((mI S l1 4) + (1 : Int32)) + l3).toNatClampNeg < 4500) ∧ (ma_wp X d w 91 60 [(0, .inr (.inr (some 69))), (1, .inr (.inr (some l1))), (3, .inl (l3 + (1 : Int32)))] [] (ma_put S 71 (((mI S l1 4) + (1 : Int32)) + l3).toNatClampNeg (.inl (0 : Int32))) Q)) else ((126 ≤ l1 ∧ l1 < mN S) ∧ (if ((mI S l1 2) - (1 : Int32)) ≤ l3 then ((0 ≤ (((mI S l1 4) + (1 : Int32)) + l3) ∧ (((mI S l1 4) + (1 : Int32)) + l3).toNatClampNeg < 4500) ∧ (ma_wp X d w 91 60 [(0, .inr (.inr (some 69))), (1, .inr (.inr (some l1))), (3, .inl (l3 + (1 : Int32)))] [] (ma_put S 71 (((mI S l1 4) + (1 : Int32)) + l3).toNatClampNeg (.inl (0 : Int32))) Q)) else ((126 ≤ l1 ∧ l1 < mN S) ∧ (if (lg_cmp ((((mL S l1 3).toUInt64 >>> (l3.toInt64.toUInt64 &&& Int64.toUInt64 63)).toInt64) &&& (1 : Int64)) (0 : Int64)) = 0 then ((0 ≤ (((mI S l1 4) + (1 : Int32)) + l3) ∧ (((mI S l1 4) + (1 : Int32)) + l3).toNatClampNeg < 4500) ∧ (ma_wp X d w 91 60 [(0, .inr (.inr (some 69))), (1, .inr (.inr (some l1))), (3, .inl (l3 + (1 : Int32)))] [] (ma_put S 71 (((mI S l1 4) + (1 : Int32)) + l3).toNatClampNeg (.inl (0 : Int32))) Q)) else ((0 ≤ (((mI S l1 4) + (1 : Int32)) + l3) ∧ (((mI S l1 4) + (1 : Int32)) + l3).toNatClampNeg < 4500) ∧ (ma_wp X d w 91 60 [(0, .inr (.inr (some 69))), (1, .inr (.inr (some l1))), (3, .inl (l3 + (1 : Int32)))] [] (ma_put S 71 (((mI S l1 4) + (1 : Int32)) + l3).toNatClampNeg (.inl (-1 : Int32))) Q)))))))))))) : ma_wp X d w 91 60 [(0, .inr (.inr (some 69))), (1, .inr (.inr (some l1))), (3, .inl l3)] [] S Q := by
  refine zw_push hm_91 dX7_add_60 (v := .inl l3) rfl ?_
  refine zw_push hm_91 dX7_add_61 (v := .inr (.inr (some l1))) rfl ?_
  obtain ⟨hg, h⟩ := h
  refine zw_gf hm_91 dX7_add_62 (v := .inl (mI S l1 2)) (zT_tis hS hg) (zT_tt hS hg) rfl f_7_64_9 rfl ?_
  refine zw_push hm_91 dX7_add_65 (v := .inl (1 : Int32)) rfl ?_
  refine zw_stk hm_91 dX7_add_66 (st₉ := [.inl ((mI S l1 2) - (1 : Int32)), .inl l3]) rfl rfl ?_
  refine zw_if2 hm_91 dX7_add_67 (t := 102) rfl zc2_ge ?_ ?_
  · intro hc
    rw [if_pos hc] at h
    refine zw_push hm_91 dX7_add_102 (v := .inr (.inr (some 69))) rfl ?_
    refine zw_stk hm_91 dX7_add_103 (st₉ := [.inr (.inr (some 69)), .inr (.inr (some 69))]) rfl rfl ?_
    refine zw_gf hm_91 dX7_add_104 (v := .inl (mI S 69 6)) (zT_is hS s_69) (zT_t hS s_69) rfl f_7_40_7 rfl ?_
    refine zw_push hm_91 dX7_add_107 (v := .inl (1 : Int32)) rfl ?_
    refine zw_stk hm_91 dX7_add_108 (st₉ := [.inl ((mI S 69 6) + (1 : Int32)), .inr (.inr (some 69))]) rfl rfl ?_
    refine zw_pf hm_91 dX7_add_109 (zT_is hS s_69) (zT_t hS s_69) p_7_40_7 zk_int ?_
    refine zw_push hm_91 dX7_add_112 (v := .inr (.inr (some 69))) rfl ?_
    refine zw_stk hm_91 dX7_add_113 (st₉ := [.inr (.inr (some 69)), .inr (.inr (some 69))]) rfl rfl ?_
    refine zw_gf hm_91 dX7_add_114 (v := .inl (mI S 69 7)) (zT_is (zT_pi hS) s_69) (zT_t (zT_pi hS) s_69) rfl f_7_43_7 rfl ?_
    refine zw_push hm_91 dX7_add_117 (v := .inl (1 : Int32)) rfl ?_
    refine zw_stk hm_91 dX7_add_118 (st₉ := [.inl ((mI S 69 7) + (1 : Int32)), .inr (.inr (some 69))]) rfl rfl ?_
    refine zw_pf hm_91 dX7_add_119 (zT_is (zT_pi hS) s_69) (zT_t (zT_pi hS) s_69) p_7_43_7 zk_int ?_
    refine zw_push hm_91 dX7_add_122 (v := .inr (.inr (some 69))) rfl ?_
    refine zw_stk hm_91 dX7_add_123 (st₉ := [.inr (.inr (some 69)), .inr (.inr (some 69))]) rfl rfl ?_
    refine zw_gf hm_91 dX7_add_124 (v := .inl (mI S 69 8)) (zT_is (zT_pi (zT_pi hS)) s_69) (zT_t (zT_pi (zT_pi hS)) s_69) rfl f_7_46_7 rfl ?_
    refine zw_push hm_91 dX7_add_127 (v := .inr (.inr (some l1))) rfl ?_
    obtain ⟨hg, h⟩ := h
    refine zw_gf hm_91 dX7_add_128 (v := .inl (mI (ma_put (ma_put S 69 6 (.inl ((mI S 69 6) + (1 : Int32)))) 69 7 (.inl ((mI S 69 7) + (1 : Int32)))) l1 2)) (zT_tis (zT_pi (zT_pi hS)) hg) (zT_tt (zT_pi (zT_pi hS)) hg) rfl f_7_64_9 rfl ?_
    refine zw_stk hm_91 dX7_add_131 (st₉ := [.inl ((mI S 69 8) + (mI (ma_put (ma_put S 69 6 (.inl ((mI S 69 6) + (1 : Int32)))) 69 7 (.inl ((mI S 69 7) + (1 : Int32)))) l1 2)), .inr (.inr (some 69))]) rfl rfl ?_
    refine zw_pf hm_91 dX7_add_132 (zT_is (zT_pi (zT_pi hS)) s_69) (zT_t (zT_pi (zT_pi hS)) s_69) p_7_46_7 zk_int ?_
    exact zw_vret hm_91 dX7_add_135 h
  · intro hc
    rw [if_neg hc] at h
    refine zw_push hm_91 dX7_add_70 (v := .inr (.inr (some 69))) rfl ?_
    refine zw_gf hm_91 dX7_add_71 (v := .inr (.inr (some 71))) (zT_is hS s_69) (zT_t hS s_69) rfl f_7_17_7 (zT_f hS r_69_1) ?_
    refine zw_push hm_91 dX7_add_74 (v := .inr (.inr (some l1))) rfl ?_
    obtain ⟨hg, h⟩ := h
    refine zw_gf hm_91 dX7_add_75 (v := .inl (mI S l1 4)) (zT_tis hS hg) (zT_tt hS hg) rfl f_7_61_9 rfl ?_
    refine zw_push hm_91 dX7_add_78 (v := .inl (1 : Int32)) rfl ?_
    refine zw_stk hm_91 dX7_add_79 (st₉ := [.inl ((mI S l1 4) + (1 : Int32)), .inr (.inr (some 71))]) rfl rfl ?_
    refine zw_push hm_91 dX7_add_80 (v := .inl l3) rfl ?_
    refine zw_stk hm_91 dX7_add_81 (st₉ := [.inl (((mI S l1 4) + (1 : Int32)) + l3), .inr (.inr (some 71))]) rfl rfl ?_
    refine zw_push hm_91 dX7_add_82 (v := .inr (.inr (some l1))) rfl ?_
    refine zw_push hm_91 dX7_add_83 (v := .inl l3) rfl ?_
    obtain ⟨hg, h⟩ := h
    refine zw_cv hm_91 dX7_add_84 v_7_70_9 hm_113 [.inl l3] [.inl (((mI S l1 4) + (1 : Int32)) + l3), .inr (.inr (some 71))] rfl (zT_trt hS hg) ⟨by omega, by omega⟩ rfl ?_
    show ma_wp X (d - 1) (w - 21) 113 0 [(0, .inr (.inr (some l1))), (1, .inl l3)] [] S _
    refine zw_push hm_113 dX9_isReference_0 (v := .inr (.inr (some l1))) rfl ?_
    refine zw_push hm_113 dX9_isReference_1 (v := .inl l3) rfl ?_
    obtain ⟨hg, h⟩ := h
    refine zw_cv hm_113 dX9_isReference_2 v_9_26_9 hm_114 [.inl l3] [] rfl (zT_trt hS hg) ⟨by omega, by omega⟩ rfl ?_
    show ma_wp X ((d - 1) - 1) ((w - 21) - 21) 114 0 [(0, .inr (.inr (some l1))), (1, .inl l3)] [] S _
    refine zw_push hm_114 dX9_hasWord_0 (v := .inl l3) rfl ?_
    refine zw_if0 hm_114 dX9_hasWord_1 (t := 18) rfl zc0_lt ?_ ?_
    · intro hc
      rw [if_pos hc] at h
      refine zw_push hm_114 dX9_hasWord_18 (v := .inl (0 : Int32)) rfl ?_
      refine zw_bret hm_114 dX9_hasWord_19 (by decide) ?_
      show ma_wp X (d - 1) (w - 21) 113 5 [(0, .inr (.inr (some l1))), (1, .inl l3)] [.inl (0 : Int32)] S _
      refine zw_if0 hm_113 dX9_isReference_5 (t := 25) rfl zc0_eq (fun _ => ?_) (fun hc => absurd (by decide) hc)
      refine zw_push hm_113 dX9_isReference_25 (v := .inl (0 : Int32)) rfl ?_
      refine zw_bret hm_113 dX9_isReference_26 (by decide) ?_
      show ma_wp X d w 91 87 [(0, .inr (.inr (some 69))), (1, .inr (.inr (some l1))), (3, .inl l3)] [.inl (0 : Int32), .inl (((mI S l1 4) + (1 : Int32)) + l3), .inr (.inr (some 71))] S _
      refine zw_if0 hm_91 dX7_add_87 (t := 94) rfl zc0_eq (fun _ => ?_) (fun hc => absurd (by decide) hc)
      refine zw_push hm_91 dX7_add_94 (v := .inl (0 : Int32)) rfl ?_
      obtain ⟨hg, h⟩ := h
      refine zw_ias hm_91 dX7_add_95 (zT_is hS s_71) (zT_h hS s_71) rfl hg ?_
      refine zw_sto hm_91 dX7_add_96 [(3, .inl (l3 + (1 : Int32))), (0, .inr (.inr (some 69))), (1, .inr (.inr (some l1)))] rfl rfl rfl ?_
      refine zw_goto hm_91 dX7_add_99 (t := 60) rfl ?_
      exact zw_sub (ma_nd_of (ks := [0, 1, 3]) rfl (by decide)) (ma_nd_of (ks := [3, 0, 1]) rfl (by decide)) (ma_le_cons rfl (ma_le_cons rfl (ma_le_cons rfl (ma_le_nil _)))) h
    · intro hc
      rw [if_neg hc] at h
      refine zw_push hm_114 dX9_hasWord_4 (v := .inl l3) rfl ?_
      refine zw_push hm_114 dX9_hasWord_5 (v := .inr (.inr (some l1))) rfl ?_
      obtain ⟨hg, h⟩ := h
      refine zw_gf hm_114 dX9_hasWord_6 (v := .inl (mI S l1 2)) (zT_tis hS hg) (zT_tt hS hg) rfl f_9_16_9 rfl ?_
      refine zw_push hm_114 dX9_hasWord_9 (v := .inl (1 : Int32)) rfl ?_
      refine zw_stk hm_114 dX9_hasWord_10 (st₉ := [.inl ((mI S l1 2) - (1 : Int32)), .inl l3]) rfl rfl ?_
      refine zw_if2 hm_114 dX9_hasWord_11 (t := 18) rfl zc2_ge ?_ ?_
      · intro hc
        rw [if_pos hc] at h
        refine zw_push hm_114 dX9_hasWord_18 (v := .inl (0 : Int32)) rfl ?_
        refine zw_bret hm_114 dX9_hasWord_19 (by decide) ?_
        show ma_wp X (d - 1) (w - 21) 113 5 [(0, .inr (.inr (some l1))), (1, .inl l3)] [.inl (0 : Int32)] S _
        refine zw_if0 hm_113 dX9_isReference_5 (t := 25) rfl zc0_eq (fun _ => ?_) (fun hc => absurd (by decide) hc)
        refine zw_push hm_113 dX9_isReference_25 (v := .inl (0 : Int32)) rfl ?_
        refine zw_bret hm_113 dX9_isReference_26 (by decide) ?_
        show ma_wp X d w 91 87 [(0, .inr (.inr (some 69))), (1, .inr (.inr (some l1))), (3, .inl l3)] [.inl (0 : Int32), .inl (((mI S l1 4) + (1 : Int32)) + l3), .inr (.inr (some 71))] S _
        refine zw_if0 hm_91 dX7_add_87 (t := 94) rfl zc0_eq (fun _ => ?_) (fun hc => absurd (by decide) hc)
        refine zw_push hm_91 dX7_add_94 (v := .inl (0 : Int32)) rfl ?_
        obtain ⟨hg, h⟩ := h
        refine zw_ias hm_91 dX7_add_95 (zT_is hS s_71) (zT_h hS s_71) rfl hg ?_
        refine zw_sto hm_91 dX7_add_96 [(3, .inl (l3 + (1 : Int32))), (0, .inr (.inr (some 69))), (1, .inr (.inr (some l1)))] rfl rfl rfl ?_
        refine zw_goto hm_91 dX7_add_99 (t := 60) rfl ?_
        exact zw_sub (ma_nd_of (ks := [0, 1, 3]) rfl (by decide)) (ma_nd_of (ks := [3, 0, 1]) rfl (by decide)) (ma_le_cons rfl (ma_le_cons rfl (ma_le_cons rfl (ma_le_nil _)))) h
      · intro hc
        rw [if_neg hc] at h
        refine zw_push hm_114 dX9_hasWord_14 (v := .inl (1 : Int32)) rfl ?_
        refine zw_goto hm_114 dX9_hasWord_15 (t := 19) rfl ?_
        refine zw_bret hm_114 dX9_hasWord_19 (by decide) ?_
        show ma_wp X (d - 1) (w - 21) 113 5 [(0, .inr (.inr (some l1))), (1, .inl l3)] [.inl (1 : Int32)] S _
        refine zw_if0 hm_113 dX9_isReference_5 (t := 25) rfl zc0_eq (fun hc => absurd hc (by decide)) (fun _ => ?_)
        refine zw_push hm_113 dX9_isReference_8 (v := .inr (.inr (some l1))) rfl ?_
        obtain ⟨hg, h⟩ := h
        refine zw_gf hm_113 dX9_isReference_9 (v := .inr (.inl (mL S l1 3))) (zT_tis hS hg) (zT_tt hS hg) rfl f_9_19_9 rfl ?_
        refine zw_push hm_113 dX9_isReference_12 (v := .inl l3) rfl ?_
        refine zw_stk hm_113 dX9_isReference_13 (st₉ := [.inr (.inl (((mL S l1 3).toUInt64 >>> (l3.toInt64.toUInt64 &&& Int64.toUInt64 63)).toInt64))]) rfl rfl ?_
        refine zw_push hm_113 dX9_isReference_14 (v := .inr (.inl (1 : Int64))) rfl ?_
        refine zw_stk hm_113 dX9_isReference_15 (st₉ := [.inr (.inl ((((mL S l1 3).toUInt64 >>> (l3.toInt64.toUInt64 &&& Int64.toUInt64 63)).toInt64) &&& (1 : Int64)))]) rfl rfl ?_
        refine zw_push hm_113 dX9_isReference_16 (v := .inr (.inl (0 : Int64))) rfl ?_
        refine zw_stk hm_113 dX9_isReference_17 (st₉ := [.inl (lg_cmp ((((mL S l1 3).toUInt64 >>> (l3.toInt64.toUInt64 &&& Int64.toUInt64 63)).toInt64) &&& (1 : Int64)) (0 : Int64))]) rfl rfl ?_
        refine zw_if0 hm_113 dX9_isReference_18 (t := 25) rfl zc0_eq ?_ ?_
        · intro hc
          rw [if_pos hc] at h
          refine zw_push hm_113 dX9_isReference_25 (v := .inl (0 : Int32)) rfl ?_
          refine zw_bret hm_113 dX9_isReference_26 (by decide) ?_
          show ma_wp X d w 91 87 [(0, .inr (.inr (some 69))), (1, .inr (.inr (some l1))), (3, .inl l3)] [.inl (0 : Int32), .inl (((mI S l1 4) + (1 : Int32)) + l3), .inr (.inr (some 71))] S _
          refine zw_if0 hm_91 dX7_add_87 (t := 94) rfl zc0_eq (fun _ => ?_) (fun hc => absurd (by decide) hc)
          refine zw_push hm_91 dX7_add_94 (v := .inl (0 : Int32)) rfl ?_
          obtain ⟨hg, h⟩ := h
          refine zw_ias hm_91 dX7_add_95 (zT_is hS s_71) (zT_h hS s_71) rfl hg ?_
          refine zw_sto hm_91 dX7_add_96 [(3, .inl (l3 + (1 : Int32))), (0, .inr (.inr (some 69))), (1, .inr (.inr (some l1)))] rfl rfl rfl ?_
          refine zw_goto hm_91 dX7_add_99 (t := 60) rfl ?_
          exact zw_sub (ma_nd_of (ks := [0, 1, 3]) rfl (by decide)) (ma_nd_of (ks := [3, 0, 1]) rfl (by decide)) (ma_le_cons rfl (ma_le_cons rfl (ma_le_cons rfl (ma_le_nil _)))) h
        · intro hc
          rw [if_neg hc] at h
          refine zw_push hm_113 dX9_isReference_21 (v := .inl (1 : Int32)) rfl ?_
          refine zw_goto hm_113 dX9_isReference_22 (t := 26) rfl ?_
          refine zw_bret hm_113 dX9_isReference_26 (by decide) ?_
          show ma_wp X d w 91 87 [(0, .inr (.inr (some 69))), (1, .inr (.inr (some l1))), (3, .inl l3)] [.inl (1 : Int32), .inl (((mI S l1 4) + (1 : Int32)) + l3), .inr (.inr (some 71))] S _
          refine zw_if0 hm_91 dX7_add_87 (t := 94) rfl zc0_eq (fun hc => absurd hc (by decide)) (fun _ => ?_)
          refine zw_push hm_91 dX7_add_90 (v := .inl (-1 : Int32)) rfl ?_
          refine zw_goto hm_91 dX7_add_91 (t := 95) rfl ?_
          obtain ⟨hg, h⟩ := h
          refine zw_ias hm_91 dX7_add_95 (zT_is hS s_71) (zT_h hS s_71) rfl hg ?_
          refine zw_sto hm_91 dX7_add_96 [(3, .inl (l3 + (1 : Int32))), (0, .inr (.inr (some 69))), (1, .inr (.inr (some l1)))] rfl rfl rfl ?_
          refine zw_goto hm_91 dX7_add_99 (t := 60) rfl ?_
          exact zw_sub (ma_nd_of (ks := [0, 1, 3]) rfl (by decide)) (ma_nd_of (ks := [3, 0, 1]) rfl (by decide)) (ma_le_cons rfl (ma_le_cons rfl (ma_le_cons rfl (ma_le_nil _)))) h
theorem lp_91_69_s_60 {X : Nat × (Nat → Int32)} {d w : Nat} {f : Nat → Nat → Int32} {r : Nat → Nat → Option Nat} {C Z N : Nat} {Q : Option ma_V ⊕ Nat → ma_S → Prop} {ab : Nat→Nat→Int32} {R : zRT} {W : Nat} {y : Int32} {I0 : Nat→Int32} {L0 : Int64} {u : Nat} (hd : 2 ≤ d) (hw : 42 ≤ w) (K : ∀ S₉, zS f r C Z N S₉ → (xB S₉ (zRu R y.toNatClampNeg (some u))) → (aS W S₉ = aAd ab y I0 L0) → Q (.inl none) S₉) : ∀ (n : Nat) (S : ma_S) (l1 : Nat) (l3 : Int32), (61 - l3.toInt).toNat = n → zS f r C Z N S → (126 ≤ l1 ∧ l1 < N) → (0 ≤ l3.toInt) → ((mI S 69 6).toInt ≤ 511) → ((mI S l1 4).toInt + (mI S l1 2).toInt ≤ 4500) → (l3.toInt ≤ (mI S l1 2).toInt - 1) → (xB S (zRu R y.toNatClampNeg (some u))) → (xW W) → (mI S l1 = I0) → (mL S l1 3 = L0) → (I0 0 = y) → ((0 ≤ (I0 0).toInt ∧ (I0 0).toInt ≤ 511) ∧ (1 ≤ (I0 2).toInt ∧ (I0 2).toInt ≤ 61) ∧ 0 ≤ (I0 4).toInt ∧ (I0 4).toInt + (I0 2).toInt ≤ 4500) → (l1 = u) → (aS W S = zIw (ma_u (zNw ab y.toNatClampNeg I0 L0) 71 (I0 4).toNatClampNeg y) (I0 4).toInt L0 l3.toInt) → ma_wp X d w 91 60 [(0, .inr (.inr (some 69))), (1, .inr (.inr (some l1))), (3, .inl l3)] [] S Q := by
  intro n
  induction n using Nat.strongRecOn with
  | _ n IH =>
    intro S l1 l3 hmu hI th_l1 hi0 hi1 hi2 hi3 hi4 hi5 hi6 hi7 hi8 hi9 hi10 hi11
    refine g_91_69_s_60 l1 l3 (by omega) (by omega) (zG_T hI) ?_
    refine ⟨zG_n hI th_l1, ?_⟩
    have f1 := zG_th hI th_l1
    first | have e2 : ((mI S l1 2) - (1 : Int32)).toInt = (mI S l1 2).toInt - (1) := i_subk rfl (by omega) (by omega) | have b3 := i_bd ((mI S l1 2) - (1 : Int32))
    have b4 := i_bd l3
    refine zd (fun h5 => ?_) (fun h5 => ?_)
    · skip
      have g6 := i_le h5
      have f8 := zG_s hI (0) (512) (c := 69) (k := 6) (by decide)
      first | have e9 : ((mI S 69 6) + (1 : Int32)).toInt = (mI S 69 6).toInt + (1) := i_addk rfl (by omega) (by omega) | have b10 := i_bd ((mI S 69 6) + (1 : Int32))
      have hI7 : zS f r C Z N (ma_put S 69 6 (.inl ((mI S 69 6) + (1 : Int32)))) := zG_sp hI (0) (512) rfl (by decide) (by decide) (by decide) trivial (by omega) (by omega)
      have hI11 : zS f r C Z N (ma_put (ma_put S 69 6 (.inl ((mI S 69 6) + (1 : Int32)))) 69 7 (.inl ((mI S 69 7) + (1 : Int32)))) := zG_fr hI7 rfl (by decide) (by decide) (by decide) trivial
      refine ⟨zG_n hI11 th_l1, ?_⟩
      have hI12 : zS f r C Z N (ma_put (ma_put (ma_put S 69 6 (.inl ((mI S 69 6) + (1 : Int32)))) 69 7 (.inl ((mI S 69 7) + (1 : Int32)))) 69 8 (.inl ((mI S 69 8) + (mI (ma_put (ma_put S 69 6 (.inl ((mI S 69 6) + (1 : Int32)))) 69 7 (.inl ((mI S 69 7) + (1 : Int32)))) l1 2)))) := zG_fr hI11 rfl (by decide) (by decide) (by decide) trivial
      exact K _ hI12 (show xB (ma_put (ma_put (ma_put S 69 6 (.inl ((mI S 69 6) + (1 : Int32)))) 69 7 (.inl ((mI S 69 7) + (1 : Int32)))) 69 8 (.inl ((mI S 69 8) + (mI (ma_put (ma_put S 69 6 (.inl ((mI S 69 6) + (1 : Int32)))) 69 7 (.inl ((mI S 69 7) + (1 : Int32)))) l1 2)))) (zRu R y.toNatClampNeg (some u)) from by first | (exact (xC_p (c := 69) (k := 8) (x := ((mI S 69 8) + (mI (ma_put (ma_put S 69 6 (.inl ((mI S 69 6) + (1 : Int32)))) 69 7 (.inl ((mI S 69 7) + (1 : Int32)))) l1 2))) (xC_n (c := 69) (k := 7) (x := ((mI S 69 7) + (1 : Int32))) (xC_p (c := 69) (k := 6) (x := ((mI S 69 6) + (1 : Int32))) (xC_o (W := W) hi4) 69 hi5 rfl (zcw_s (by decide))) (zir_W hi5 rfl (by decide))) 69 hi5 rfl (zcw_s (by decide))).2)) (show aS W (ma_put (ma_put (ma_put S 69 6 (.inl ((mI S 69 6) + (1 : Int32)))) 69 7 (.inl ((mI S 69 7) + (1 : Int32)))) 69 8 (.inl ((mI S 69 8) + (mI (ma_put (ma_put S 69 6 (.inl ((mI S 69 6) + (1 : Int32)))) 69 7 (.inl ((mI S 69 7) + (1 : Int32)))) l1 2)))) = aAd ab y I0 L0 from by first | (have i2 : mI S l1 2 = I0 2 := congrFun hi6 2; have i2i := congrArg Int32.toInt i2; have bd := hi9; have g6 : mI S 69 6 = ab 69 6 := (aS_I (W := W) (S := S) (c := 69) (c₉ := 69) (k := 6) rfl (zcw_s (by decide))).symm.trans ((congrFun (congrFun hi11 69) 6).trans (by rw [zIw_o (by decide), xu_o (by omega), zNw_o (by decide)])); have g8 : mI S 69 8 = ab 69 8 := (aS_I (W := W) (S := S) (c := 69) (c₉ := 69) (k := 8) rfl (zcw_s (by decide))).symm.trans ((congrFun (congrFun hi11 69) 8).trans (by rw [zIw_o (by decide), xu_o (by omega), zNw_o (by decide)])); refine (xC_p (c := 69) (k := 8) (x := ((mI S 69 8) + (mI (ma_put (ma_put S 69 6 (.inl ((mI S 69 6) + (1 : Int32)))) 69 7 (.inl ((mI S 69 7) + (1 : Int32)))) l1 2))) (xC_n (c := 69) (k := 7) (x := ((mI S 69 7) + (1 : Int32))) (xC_p (c := 69) (k := 6) (x := ((mI S 69 6) + (1 : Int32))) (xC_o (W := W) hi4) 69 hi5 rfl (zcw_s (by decide))) (zir_W hi5 rfl (by decide))) 69 hi5 rfl (zcw_s (by decide))).1.trans ?_; (try simp only [zp_e (c₉ := 69) th_l1.1 (by decide)]); rw [hi11, i2, g6, g8, show l3.toInt = (I0 2).toInt - 1 from by omega]; rfl))
    · skip
      have g13 := i_nle h5
      refine ⟨zG_n hI th_l1, ?_⟩
      refine ⟨zG_n hI th_l1, ?_⟩
      refine ⟨zG_n hI th_l1, ?_⟩
      have li14 : (0 : Int32).toInt = 0 := rfl
      refine zd (fun h15 => ?_) (fun h15 => ?_)
      · skip
        have g16 := i_lt h15
        have f17 := zG_th hI th_l1
        first | have e18 : ((mI S l1 4) + (1 : Int32)).toInt = (mI S l1 4).toInt + (1) := i_addk rfl (by omega) (by omega) | have b19 := i_bd ((mI S l1 4) + (1 : Int32))
        first | have e20 : (((mI S l1 4) + (1 : Int32)) + l3).toInt = ((mI S l1 4) + (1 : Int32)).toInt + l3.toInt := i_add (by omega) (by omega) | have b21 := i_bd (((mI S l1 4) + (1 : Int32)) + l3)
        refine ⟨i_ix (by omega) (by omega), ?_⟩
        have hI22 : zS f r C Z N (ma_put S 71 (((mI S l1 4) + (1 : Int32)) + l3).toNatClampNeg (.inl (0 : Int32))) := zG_fa hI rfl (by decide) (by decide) (by decide) trivial
        first | have e23 : (l3 + (1 : Int32)).toInt = l3.toInt + (1) := i_addk rfl (by omega) (by omega) | have b24 := i_bd (l3 + (1 : Int32))
        have f25 := zG_s hI (0) (512) (c := 69) (k := 6) (by decide)
        have q26 : (mI (ma_put S 71 (((mI S l1 4) + (1 : Int32)) + l3).toNatClampNeg (.inl (0 : Int32))) l1 4).toInt = (mI S l1 4).toInt := zp_fx th_l1.1 (by decide)
        have f27 := zG_th hI22 th_l1
        have q28 : (mI (ma_put S 71 (((mI S l1 4) + (1 : Int32)) + l3).toNatClampNeg (.inl (0 : Int32))) l1 2).toInt = (mI S l1 2).toInt := zp_fx th_l1.1 (by decide)
        have f29 := zG_th hI22 th_l1
        exact IH _ (by omega) _ l1 ((l3 + (1 : Int32))) rfl hI22 th_l1 (by omega) (show (mI S 69 6).toInt ≤ 511 from by omega) (show (mI (ma_put S 71 (((mI S l1 4) + (1 : Int32)) + l3).toNatClampNeg (.inl (0 : Int32))) l1 4).toInt + (mI (ma_put S 71 (((mI S l1 4) + (1 : Int32)) + l3).toNatClampNeg (.inl (0 : Int32))) l1 2).toInt ≤ 4500 from by omega) (show ((l3 + (1 : Int32))).toInt ≤ (mI (ma_put S 71 (((mI S l1 4) + (1 : Int32)) + l3).toNatClampNeg (.inl (0 : Int32))) l1 2).toInt - 1 from by omega) (show xB (ma_put S 71 (((mI S l1 4) + (1 : Int32)) + l3).toNatClampNeg (.inl (0 : Int32))) (zRu R y.toNatClampNeg (some u)) from by first | (exact (xC_p (c := 71) (k := (((mI S l1 4) + (1 : Int32)) + l3).toNatClampNeg) (x := (0 : Int32)) (xC_o (W := W) hi4) 71 hi5 rfl (zcw_s (by decide))).2)) (show xW W from by first | (exact hi5) | (exact xW88)) (show mI (ma_put S 71 (((mI S l1 4) + (1 : Int32)) + l3).toNatClampNeg (.inl (0 : Int32))) l1 = I0 from by first | (rw [zp_row th_l1.1 (by decide)]; exact hi6)) (show mL (ma_put S 71 (((mI S l1 4) + (1 : Int32)) + l3).toNatClampNeg (.inl (0 : Int32))) l1 3 = L0 from by first | (exact hi7)) (show I0 0 = y from by first | (exact hi8)) (show (0 ≤ (I0 0).toInt ∧ (I0 0).toInt ≤ 511) ∧ (1 ≤ (I0 2).toInt ∧ (I0 2).toInt ≤ 61) ∧ 0 ≤ (I0 4).toInt ∧ (I0 4).toInt + (I0 2).toInt ≤ 4500 from by first | (exact hi9)) (show l1 = u from by first | (exact hi10)) (show aS W (ma_put S 71 (((mI S l1 4) + (1 : Int32)) + l3).toNatClampNeg (.inl (0 : Int32))) = zIw (ma_u (zNw ab y.toNatClampNeg I0 L0) 71 (I0 4).toNatClampNeg y) (I0 4).toInt L0 ((l3 + (1 : Int32))).toInt from by first | (exfalso; omega) | (have i4 : mI S l1 4 = I0 4 := congrFun hi6 4; have i4i := congrArg Int32.toInt i4; have i2i := congrArg Int32.toInt (congrFun hi6 2); have bd := hi9; refine (xC_p (c := 71) (k := (((mI S l1 4) + (1 : Int32)) + l3).toNatClampNeg) (x := (0 : Int32)) (xC_o (W := W) hi4) 71 hi5 rfl (zcw_s (by decide))).1.trans ?_; rw [hi11]; exact zIw_s (by omega) (by omega) (by rw [tn_cast (by omega)]; omega) (by rw [← hi7]; exact zb_y (by assumption))) | (have i4 : mI S l1 4 = I0 4 := congrFun hi6 4; have i4i := congrArg Int32.toInt i4; have i2i := congrArg Int32.toInt (congrFun hi6 2); have bd := hi9; refine (xC_p (c := 71) (k := (((mI S l1 4) + (1 : Int32)) + l3).toNatClampNeg) (x := (0 : Int32)) (xC_o (W := W) hi4) 71 hi5 rfl (zcw_s (by decide))).1.trans ?_; rw [hi11]; exact zIw_s (by omega) (by omega) (by rw [tn_cast (by omega)]; omega) (by rw [← hi7]; exact zb_n (by assumption))))
      · skip
        have g30 := i_nlt h15
        refine ⟨zG_n hI th_l1, ?_⟩
        refine zd (fun h31 => ?_) (fun h31 => ?_)
        · skip
          have g32 := i_le h31
          have f33 := zG_th hI th_l1
          first | have e34 : ((mI S l1 4) + (1 : Int32)).toInt = (mI S l1 4).toInt + (1) := i_addk rfl (by omega) (by omega) | have b35 := i_bd ((mI S l1 4) + (1 : Int32))
          first | have e36 : (((mI S l1 4) + (1 : Int32)) + l3).toInt = ((mI S l1 4) + (1 : Int32)).toInt + l3.toInt := i_add (by omega) (by omega) | have b37 := i_bd (((mI S l1 4) + (1 : Int32)) + l3)
          refine ⟨i_ix (by omega) (by omega), ?_⟩
          have hI38 : zS f r C Z N (ma_put S 71 (((mI S l1 4) + (1 : Int32)) + l3).toNatClampNeg (.inl (0 : Int32))) := zG_fa hI rfl (by decide) (by decide) (by decide) trivial
          first | have e39 : (l3 + (1 : Int32)).toInt = l3.toInt + (1) := i_addk rfl (by omega) (by omega) | have b40 := i_bd (l3 + (1 : Int32))
          have f41 := zG_s hI (0) (512) (c := 69) (k := 6) (by decide)
          have q42 : (mI (ma_put S 71 (((mI S l1 4) + (1 : Int32)) + l3).toNatClampNeg (.inl (0 : Int32))) l1 4).toInt = (mI S l1 4).toInt := zp_fx th_l1.1 (by decide)
          have f43 := zG_th hI38 th_l1
          have q44 : (mI (ma_put S 71 (((mI S l1 4) + (1 : Int32)) + l3).toNatClampNeg (.inl (0 : Int32))) l1 2).toInt = (mI S l1 2).toInt := zp_fx th_l1.1 (by decide)
          have f45 := zG_th hI38 th_l1
          exact IH _ (by omega) _ l1 ((l3 + (1 : Int32))) rfl hI38 th_l1 (by omega) (show (mI S 69 6).toInt ≤ 511 from by omega) (show (mI (ma_put S 71 (((mI S l1 4) + (1 : Int32)) + l3).toNatClampNeg (.inl (0 : Int32))) l1 4).toInt + (mI (ma_put S 71 (((mI S l1 4) + (1 : Int32)) + l3).toNatClampNeg (.inl (0 : Int32))) l1 2).toInt ≤ 4500 from by omega) (show ((l3 + (1 : Int32))).toInt ≤ (mI (ma_put S 71 (((mI S l1 4) + (1 : Int32)) + l3).toNatClampNeg (.inl (0 : Int32))) l1 2).toInt - 1 from by omega) (show xB (ma_put S 71 (((mI S l1 4) + (1 : Int32)) + l3).toNatClampNeg (.inl (0 : Int32))) (zRu R y.toNatClampNeg (some u)) from by first | (exact (xC_p (c := 71) (k := (((mI S l1 4) + (1 : Int32)) + l3).toNatClampNeg) (x := (0 : Int32)) (xC_o (W := W) hi4) 71 hi5 rfl (zcw_s (by decide))).2)) (show xW W from by first | (exact hi5) | (exact xW88)) (show mI (ma_put S 71 (((mI S l1 4) + (1 : Int32)) + l3).toNatClampNeg (.inl (0 : Int32))) l1 = I0 from by first | (rw [zp_row th_l1.1 (by decide)]; exact hi6)) (show mL (ma_put S 71 (((mI S l1 4) + (1 : Int32)) + l3).toNatClampNeg (.inl (0 : Int32))) l1 3 = L0 from by first | (exact hi7)) (show I0 0 = y from by first | (exact hi8)) (show (0 ≤ (I0 0).toInt ∧ (I0 0).toInt ≤ 511) ∧ (1 ≤ (I0 2).toInt ∧ (I0 2).toInt ≤ 61) ∧ 0 ≤ (I0 4).toInt ∧ (I0 4).toInt + (I0 2).toInt ≤ 4500 from by first | (exact hi9)) (show l1 = u from by first | (exact hi10)) (show aS W (ma_put S 71 (((mI S l1 4) + (1 : Int32)) + l3).toNatClampNeg (.inl (0 : Int32))) = zIw (ma_u (zNw ab y.toNatClampNeg I0 L0) 71 (I0 4).toNatClampNeg y) (I0 4).toInt L0 ((l3 + (1 : Int32))).toInt from by first | (exfalso; omega) | (have i4 : mI S l1 4 = I0 4 := congrFun hi6 4; have i4i := congrArg Int32.toInt i4; have i2i := congrArg Int32.toInt (congrFun hi6 2); have bd := hi9; refine (xC_p (c := 71) (k := (((mI S l1 4) + (1 : Int32)) + l3).toNatClampNeg) (x := (0 : Int32)) (xC_o (W := W) hi4) 71 hi5 rfl (zcw_s (by decide))).1.trans ?_; rw [hi11]; exact zIw_s (by omega) (by omega) (by rw [tn_cast (by omega)]; omega) (by rw [← hi7]; exact zb_y (by assumption))) | (have i4 : mI S l1 4 = I0 4 := congrFun hi6 4; have i4i := congrArg Int32.toInt i4; have i2i := congrArg Int32.toInt (congrFun hi6 2); have bd := hi9; refine (xC_p (c := 71) (k := (((mI S l1 4) + (1 : Int32)) + l3).toNatClampNeg) (x := (0 : Int32)) (xC_o (W := W) hi4) 71 hi5 rfl (zcw_s (by decide))).1.trans ?_; rw [hi11]; exact zIw_s (by omega) (by omega) (by rw [tn_cast (by omega)]; omega) (by rw [← hi7]; exact zb_n (by assumption))))
        · skip
          have g46 := i_nle h31
          refine ⟨zG_n hI th_l1, ?_⟩
          have b47 := i_bd (lg_cmp ((((mL S l1 3).toUInt64 >>> (l3.toInt64.toUInt64 &&& Int64.toUInt64 63)).toInt64) &&& (1 : Int64)) (0 : Int64))
          refine zd (fun h48 => ?_) (fun h48 => ?_)
          · skip
            have g49 := i_eq h48
            have f50 := zG_th hI th_l1
            first | have e51 : ((mI S l1 4) + (1 : Int32)).toInt = (mI S l1 4).toInt + (1) := i_addk rfl (by omega) (by omega) | have b52 := i_bd ((mI S l1 4) + (1 : Int32))
            first | have e53 : (((mI S l1 4) + (1 : Int32)) + l3).toInt = ((mI S l1 4) + (1 : Int32)).toInt + l3.toInt := i_add (by omega) (by omega) | have b54 := i_bd (((mI S l1 4) + (1 : Int32)) + l3)
            refine ⟨i_ix (by omega) (by omega), ?_⟩
            have hI55 : zS f r C Z N (ma_put S 71 (((mI S l1 4) + (1 : Int32)) + l3).toNatClampNeg (.inl (0 : Int32))) := zG_fa hI rfl (by decide) (by decide) (by decide) trivial
            first | have e56 : (l3 + (1 : Int32)).toInt = l3.toInt + (1) := i_addk rfl (by omega) (by omega) | have b57 := i_bd (l3 + (1 : Int32))
            have f58 := zG_s hI (0) (512) (c := 69) (k := 6) (by decide)
            have q59 : (mI (ma_put S 71 (((mI S l1 4) + (1 : Int32)) + l3).toNatClampNeg (.inl (0 : Int32))) l1 4).toInt = (mI S l1 4).toInt := zp_fx th_l1.1 (by decide)
            have f60 := zG_th hI55 th_l1
            have q61 : (mI (ma_put S 71 (((mI S l1 4) + (1 : Int32)) + l3).toNatClampNeg (.inl (0 : Int32))) l1 2).toInt = (mI S l1 2).toInt := zp_fx th_l1.1 (by decide)
            have f62 := zG_th hI55 th_l1
            exact IH _ (by omega) _ l1 ((l3 + (1 : Int32))) rfl hI55 th_l1 (by omega) (show (mI S 69 6).toInt ≤ 511 from by omega) (show (mI (ma_put S 71 (((mI S l1 4) + (1 : Int32)) + l3).toNatClampNeg (.inl (0 : Int32))) l1 4).toInt + (mI (ma_put S 71 (((mI S l1 4) + (1 : Int32)) + l3).toNatClampNeg (.inl (0 : Int32))) l1 2).toInt ≤ 4500 from by omega) (show ((l3 + (1 : Int32))).toInt ≤ (mI (ma_put S 71 (((mI S l1 4) + (1 : Int32)) + l3).toNatClampNeg (.inl (0 : Int32))) l1 2).toInt - 1 from by omega) (show xB (ma_put S 71 (((mI S l1 4) + (1 : Int32)) + l3).toNatClampNeg (.inl (0 : Int32))) (zRu R y.toNatClampNeg (some u)) from by first | (exact (xC_p (c := 71) (k := (((mI S l1 4) + (1 : Int32)) + l3).toNatClampNeg) (x := (0 : Int32)) (xC_o (W := W) hi4) 71 hi5 rfl (zcw_s (by decide))).2)) (show xW W from by first | (exact hi5) | (exact xW88)) (show mI (ma_put S 71 (((mI S l1 4) + (1 : Int32)) + l3).toNatClampNeg (.inl (0 : Int32))) l1 = I0 from by first | (rw [zp_row th_l1.1 (by decide)]; exact hi6)) (show mL (ma_put S 71 (((mI S l1 4) + (1 : Int32)) + l3).toNatClampNeg (.inl (0 : Int32))) l1 3 = L0 from by first | (exact hi7)) (show I0 0 = y from by first | (exact hi8)) (show (0 ≤ (I0 0).toInt ∧ (I0 0).toInt ≤ 511) ∧ (1 ≤ (I0 2).toInt ∧ (I0 2).toInt ≤ 61) ∧ 0 ≤ (I0 4).toInt ∧ (I0 4).toInt + (I0 2).toInt ≤ 4500 from by first | (exact hi9)) (show l1 = u from by first | (exact hi10)) (show aS W (ma_put S 71 (((mI S l1 4) + (1 : Int32)) + l3).toNatClampNeg (.inl (0 : Int32))) = zIw (ma_u (zNw ab y.toNatClampNeg I0 L0) 71 (I0 4).toNatClampNeg y) (I0 4).toInt L0 ((l3 + (1 : Int32))).toInt from by first | (exfalso; omega) | (have i4 : mI S l1 4 = I0 4 := congrFun hi6 4; have i4i := congrArg Int32.toInt i4; have i2i := congrArg Int32.toInt (congrFun hi6 2); have bd := hi9; refine (xC_p (c := 71) (k := (((mI S l1 4) + (1 : Int32)) + l3).toNatClampNeg) (x := (0 : Int32)) (xC_o (W := W) hi4) 71 hi5 rfl (zcw_s (by decide))).1.trans ?_; rw [hi11]; exact zIw_s (by omega) (by omega) (by rw [tn_cast (by omega)]; omega) (by rw [← hi7]; exact zb_y (by assumption))) | (have i4 : mI S l1 4 = I0 4 := congrFun hi6 4; have i4i := congrArg Int32.toInt i4; have i2i := congrArg Int32.toInt (congrFun hi6 2); have bd := hi9; refine (xC_p (c := 71) (k := (((mI S l1 4) + (1 : Int32)) + l3).toNatClampNeg) (x := (0 : Int32)) (xC_o (W := W) hi4) 71 hi5 rfl (zcw_s (by decide))).1.trans ?_; rw [hi11]; exact zIw_s (by omega) (by omega) (by rw [tn_cast (by omega)]; omega) (by rw [← hi7]; exact zb_n (by assumption))))
          · skip
            have g63 := i_ne h48
            have f64 := zG_th hI th_l1
            first | have e65 : ((mI S l1 4) + (1 : Int32)).toInt = (mI S l1 4).toInt + (1) := i_addk rfl (by omega) (by omega) | have b66 := i_bd ((mI S l1 4) + (1 : Int32))
            first | have e67 : (((mI S l1 4) + (1 : Int32)) + l3).toInt = ((mI S l1 4) + (1 : Int32)).toInt + l3.toInt := i_add (by omega) (by omega) | have b68 := i_bd (((mI S l1 4) + (1 : Int32)) + l3)
            refine ⟨i_ix (by omega) (by omega), ?_⟩
            have hI69 : zS f r C Z N (ma_put S 71 (((mI S l1 4) + (1 : Int32)) + l3).toNatClampNeg (.inl (-1 : Int32))) := zG_fa hI rfl (by decide) (by decide) (by decide) trivial
            first | have e70 : (l3 + (1 : Int32)).toInt = l3.toInt + (1) := i_addk rfl (by omega) (by omega) | have b71 := i_bd (l3 + (1 : Int32))
            have f72 := zG_s hI (0) (512) (c := 69) (k := 6) (by decide)
            have q73 : (mI (ma_put S 71 (((mI S l1 4) + (1 : Int32)) + l3).toNatClampNeg (.inl (-1 : Int32))) l1 4).toInt = (mI S l1 4).toInt := zp_fx th_l1.1 (by decide)
            have f74 := zG_th hI69 th_l1
            have q75 : (mI (ma_put S 71 (((mI S l1 4) + (1 : Int32)) + l3).toNatClampNeg (.inl (-1 : Int32))) l1 2).toInt = (mI S l1 2).toInt := zp_fx th_l1.1 (by decide)
            have f76 := zG_th hI69 th_l1
            exact IH _ (by omega) _ l1 ((l3 + (1 : Int32))) rfl hI69 th_l1 (by omega) (show (mI S 69 6).toInt ≤ 511 from by omega) (show (mI (ma_put S 71 (((mI S l1 4) + (1 : Int32)) + l3).toNatClampNeg (.inl (-1 : Int32))) l1 4).toInt + (mI (ma_put S 71 (((mI S l1 4) + (1 : Int32)) + l3).toNatClampNeg (.inl (-1 : Int32))) l1 2).toInt ≤ 4500 from by omega) (show ((l3 + (1 : Int32))).toInt ≤ (mI (ma_put S 71 (((mI S l1 4) + (1 : Int32)) + l3).toNatClampNeg (.inl (-1 : Int32))) l1 2).toInt - 1 from by omega) (show xB (ma_put S 71 (((mI S l1 4) + (1 : Int32)) + l3).toNatClampNeg (.inl (-1 : Int32))) (zRu R y.toNatClampNeg (some u)) from by first | (exact (xC_p (c := 71) (k := (((mI S l1 4) + (1 : Int32)) + l3).toNatClampNeg) (x := (-1 : Int32)) (xC_o (W := W) hi4) 71 hi5 rfl (zcw_s (by decide))).2)) (show xW W from by first | (exact hi5) | (exact xW88)) (show mI (ma_put S 71 (((mI S l1 4) + (1 : Int32)) + l3).toNatClampNeg (.inl (-1 : Int32))) l1 = I0 from by first | (rw [zp_row th_l1.1 (by decide)]; exact hi6)) (show mL (ma_put S 71 (((mI S l1 4) + (1 : Int32)) + l3).toNatClampNeg (.inl (-1 : Int32))) l1 3 = L0 from by first | (exact hi7)) (show I0 0 = y from by first | (exact hi8)) (show (0 ≤ (I0 0).toInt ∧ (I0 0).toInt ≤ 511) ∧ (1 ≤ (I0 2).toInt ∧ (I0 2).toInt ≤ 61) ∧ 0 ≤ (I0 4).toInt ∧ (I0 4).toInt + (I0 2).toInt ≤ 4500 from by first | (exact hi9)) (show l1 = u from by first | (exact hi10)) (show aS W (ma_put S 71 (((mI S l1 4) + (1 : Int32)) + l3).toNatClampNeg (.inl (-1 : Int32))) = zIw (ma_u (zNw ab y.toNatClampNeg I0 L0) 71 (I0 4).toNatClampNeg y) (I0 4).toInt L0 ((l3 + (1 : Int32))).toInt from by first | (exfalso; omega) | (have i4 : mI S l1 4 = I0 4 := congrFun hi6 4; have i4i := congrArg Int32.toInt i4; have i2i := congrArg Int32.toInt (congrFun hi6 2); have bd := hi9; refine (xC_p (c := 71) (k := (((mI S l1 4) + (1 : Int32)) + l3).toNatClampNeg) (x := (-1 : Int32)) (xC_o (W := W) hi4) 71 hi5 rfl (zcw_s (by decide))).1.trans ?_; rw [hi11]; exact zIw_s (by omega) (by omega) (by rw [tn_cast (by omega)]; omega) (by rw [← hi7]; exact zb_y (by assumption))) | (have i4 : mI S l1 4 = I0 4 := congrFun hi6 4; have i4i := congrArg Int32.toInt i4; have i2i := congrArg Int32.toInt (congrFun hi6 2); have bd := hi9; refine (xC_p (c := 71) (k := (((mI S l1 4) + (1 : Int32)) + l3).toNatClampNeg) (x := (-1 : Int32)) (xC_o (W := W) hi4) 71 hi5 rfl (zcw_s (by decide))).1.trans ?_; rw [hi11]; exact zIw_s (by omega) (by omega) (by rw [tn_cast (by omega)]; omega) (by rw [← hi7]; exact zb_n (by assumption))))
theorem sp_91_69_s {X : Nat × (Nat → Int32)} {d w : Nat} {f : Nat → Nat → Int32} {r : Nat → Nat → Option Nat} {C Z N : Nat} {Q : Option ma_V ⊕ Nat → ma_S → Prop} {ab : Nat→Nat→Int32} {R : zRT} {W : Nat} {y : Int32} {I0 : Nat→Int32} {L0 : Int64} {u : Nat} {S : ma_S} (t : Nat) (hd : 2 ≤ d) (hw : 42 ≤ w) (hI : zS f r C Z N S) (th_t : 126 ≤ t ∧ t < N) (hpre0 : (mI S 69 6).toInt ≤ 511) (hpre1 : xB S R) (hpre2 : aS W S = ab) (hpre3 : xW W) (hpre4 : mI S t = I0) (hpre5 : mL S t 3 = L0) (hpre6 : I0 0 = y) (hpre7 : (0 ≤ (I0 0).toInt ∧ (I0 0).toInt ≤ 511) ∧ (1 ≤ (I0 2).toInt ∧ (I0 2).toInt ≤ 61) ∧ 0 ≤ (I0 4).toInt ∧ (I0 4).toInt + (I0 2).toInt ≤ 4500) (hpre8 : t = u) (K : ∀ S₉, zS f r C Z N S₉ → (xB S₉ (zRu R y.toNatClampNeg (some u))) → (aS W S₉ = aAd ab y I0 L0) → Q (.inl none) S₉) : ma_wp X d w 91 0 [(0, .inr (.inr (some 69))), (1, .inr (.inr (some t)))] [] S Q := by
  refine g_91_69_s_0 t (by omega) (by omega) (zG_T hI) ?_
  refine ⟨zG_n hI th_t, ?_⟩
  refine ⟨zG_n hI th_t, ?_⟩
  refine ⟨zG_n hI th_t, ?_⟩
  have li1 : (512 : Int32).toInt = 512 := rfl
  have f2 := zG_th hI th_t
  refine zd (fun h3 => ?_) (fun h3 => ?_)
  · skip
    have g4 := i_le h3
    exact K _ hI (show xB S (zRu R y.toNatClampNeg (some u)) from by first | (exfalso; omega) | (exfalso; have j2 := congrArg Int32.toInt (congrFun hpre4 2); have j4 := congrArg Int32.toInt (congrFun hpre4 4); have bd := hpre7; omega) | (have i0 : mI S t 0 = I0 0 := congrFun hpre4 0; have i2 : mI S t 2 = I0 2 := congrFun hpre4 2; have i4 : mI S t 4 = I0 4 := congrFun hpre4 4; have bd := hpre7; have hn5 : (mI S t 0).toNatClampNeg < 512 := (by have q := tn_cast (x := mI S t 0) (by rw [i0]; omega); rw [i0] at q ⊢; omega); have hnu : mI S t 0 = Int32.ofNat (mI S t 0).toNatClampNeg := (ofN_tn (by rw [i0]; omega)).symm; rw [← hpre6, ← i0, ← hpre8]; exact (xC_o (W := W) hpre1).2)) (show aS W S = aAd ab y I0 L0 from by first | (exfalso; omega) | (exfalso; have j2 := congrArg Int32.toInt (congrFun hpre4 2); have j4 := congrArg Int32.toInt (congrFun hpre4 4); have bd := hpre7; omega))
  · skip
    have g5 := i_nle h3
    refine ⟨zG_n hI th_t, ?_⟩
    have f6 := zG_th hI th_t
    have li7 : (0 : Int32).toInt = 0 := rfl
    refine zd (fun h8 => ?_) (fun h8 => ?_)
    · skip
      have g9 := i_lt h8
      exact K _ hI (show xB S (zRu R y.toNatClampNeg (some u)) from by first | (exfalso; omega) | (exfalso; have j2 := congrArg Int32.toInt (congrFun hpre4 2); have j4 := congrArg Int32.toInt (congrFun hpre4 4); have bd := hpre7; omega) | (have i0 : mI S t 0 = I0 0 := congrFun hpre4 0; have i2 : mI S t 2 = I0 2 := congrFun hpre4 2; have i4 : mI S t 4 = I0 4 := congrFun hpre4 4; have bd := hpre7; have hn5 : (mI S t 0).toNatClampNeg < 512 := (by have q := tn_cast (x := mI S t 0) (by rw [i0]; omega); rw [i0] at q ⊢; omega); have hnu : mI S t 0 = Int32.ofNat (mI S t 0).toNatClampNeg := (ofN_tn (by rw [i0]; omega)).symm; rw [← hpre6, ← i0, ← hpre8]; exact (xC_o (W := W) hpre1).2)) (show aS W S = aAd ab y I0 L0 from by first | (exfalso; omega) | (exfalso; have j2 := congrArg Int32.toInt (congrFun hpre4 2); have j4 := congrArg Int32.toInt (congrFun hpre4 4); have bd := hpre7; omega))
    · skip
      have g10 := i_nlt h8
      have f11 := zG_th hI th_t
      first | have e12 : ((mI S t 4) + (mI S t 2)).toInt = (mI S t 4).toInt + (mI S t 2).toInt := i_add (by omega) (by omega) | have b13 := i_bd ((mI S t 4) + (mI S t 2))
      have li14 : (4500 : Int32).toInt = 4500 := rfl
      refine zd (fun h15 => ?_) (fun h15 => ?_)
      · skip
        have g16 := i_le h15
        refine ⟨zG_n hI th_t, ?_⟩
        refine ⟨i_ix (by omega) (by omega), ?_⟩
        refine ⟨zG_n hI th_t, ?_⟩
        have hI17 : zS f r C Z N (ma_put S 70 (mI S t 0).toNatClampNeg (.inr (.inr (some t)))) := zG_rf hI (by decide) (by decide +kernel) (fun _ z => by cases z; exact th_t)
        refine ⟨zG_n hI17 th_t, ?_⟩
        refine ⟨zG_n hI17 th_t, ?_⟩
        refine ⟨i_ix (by omega) (by omega), ?_⟩
        have hI18 : zS f r C Z N (ma_put (ma_put S 70 (mI S t 0).toNatClampNeg (.inr (.inr (some t)))) 71 (mI S t 4).toNatClampNeg (.inl (mI S t 0))) := zG_fa hI17 rfl (by decide) (by decide) (by decide) trivial
        have f19 := zG_s hI (0) (512) (c := 69) (k := 6) (by decide)
        have q20 : (mI (ma_put (ma_put S 70 (mI S t 0).toNatClampNeg (.inr (.inr (some t)))) 71 (mI S t 4).toNatClampNeg (.inl (mI S t 0))) t 4).toInt = (mI S t 4).toInt := zp_fx th_t.1 (by decide)
        have f21 := zG_th hI18 th_t
        have q22 : (mI (ma_put (ma_put S 70 (mI S t 0).toNatClampNeg (.inr (.inr (some t)))) 71 (mI S t 4).toNatClampNeg (.inl (mI S t 0))) t 2).toInt = (mI S t 2).toInt := zp_fx th_t.1 (by decide)
        have f23 := zG_th hI18 th_t
        exact lp_91_69_s_60 (by omega) (by omega) K _ _ t ((0 : Int32)) rfl hI18 th_t (by omega) (show (mI S 69 6).toInt ≤ 511 from by omega) (show (mI (ma_put (ma_put S 70 (mI S t 0).toNatClampNeg (.inr (.inr (some t)))) 71 (mI S t 4).toNatClampNeg (.inl (mI S t 0))) t 4).toInt + (mI (ma_put (ma_put S 70 (mI S t 0).toNatClampNeg (.inr (.inr (some t)))) 71 (mI S t 4).toNatClampNeg (.inl (mI S t 0))) t 2).toInt ≤ 4500 from by omega) (show ((0 : Int32)).toInt ≤ (mI (ma_put (ma_put S 70 (mI S t 0).toNatClampNeg (.inr (.inr (some t)))) 71 (mI S t 4).toNatClampNeg (.inl (mI S t 0))) t 2).toInt - 1 from by omega) (show xB (ma_put (ma_put S 70 (mI S t 0).toNatClampNeg (.inr (.inr (some t)))) 71 (mI S t 4).toNatClampNeg (.inl (mI S t 0))) (zRu R y.toNatClampNeg (some u)) from by first | (exfalso; omega) | (exfalso; have j2 := congrArg Int32.toInt (congrFun hpre4 2); have j4 := congrArg Int32.toInt (congrFun hpre4 4); have bd := hpre7; omega) | (have i0 : mI S t 0 = I0 0 := congrFun hpre4 0; have i2 : mI S t 2 = I0 2 := congrFun hpre4 2; have i4 : mI S t 4 = I0 4 := congrFun hpre4 4; have bd := hpre7; have hn5 : (mI S t 0).toNatClampNeg < 512 := (by have q := tn_cast (x := mI S t 0) (by rw [i0]; omega); rw [i0] at q ⊢; omega); have hnu : mI S t 0 = Int32.ofNat (mI S t 0).toNatClampNeg := (ofN_tn (by rw [i0]; omega)).symm; rw [← hpre6, ← i0, ← hpre8]; exact (xC_p (c := 71) (k := (mI S t 4).toNatClampNeg) (x := (mI S t 0)) (xC_s (xC_o (W := W) hpre1) th_t.1 (n := (mI S t 0).toNatClampNeg) (c := t) hn5 hnu) 71 hpre3 rfl (zcw_s (by decide))).2)) (show xW W from by first | (exact hpre3) | (exact xW88)) (show mI (ma_put (ma_put S 70 (mI S t 0).toNatClampNeg (.inr (.inr (some t)))) 71 (mI S t 4).toNatClampNeg (.inl (mI S t 0))) t = I0 from by first | (rw [zp_row th_t.1 (by decide)]; exact hpre4)) (show mL (ma_put (ma_put S 70 (mI S t 0).toNatClampNeg (.inr (.inr (some t)))) 71 (mI S t 4).toNatClampNeg (.inl (mI S t 0))) t 3 = L0 from by first | (exact hpre5)) (show I0 0 = y from by first | (exact hpre6)) (show (0 ≤ (I0 0).toInt ∧ (I0 0).toInt ≤ 511) ∧ (1 ≤ (I0 2).toInt ∧ (I0 2).toInt ≤ 61) ∧ 0 ≤ (I0 4).toInt ∧ (I0 4).toInt + (I0 2).toInt ≤ 4500 from by first | (exact hpre7)) (show t = u from by first | (exact hpre8)) (show aS W (ma_put (ma_put S 70 (mI S t 0).toNatClampNeg (.inr (.inr (some t)))) 71 (mI S t 4).toNatClampNeg (.inl (mI S t 0))) = zIw (ma_u (zNw ab y.toNatClampNeg I0 L0) 71 (I0 4).toNatClampNeg y) (I0 4).toInt L0 ((0 : Int32)).toInt from by first | (exfalso; omega) | (have i0 : mI S t 0 = I0 0 := congrFun hpre4 0; have i2 : mI S t 2 = I0 2 := congrFun hpre4 2; have i4 : mI S t 4 = I0 4 := congrFun hpre4 4; have bd := hpre7; have hn5 : (mI S t 0).toNatClampNeg < 512 := (by have q := tn_cast (x := mI S t 0) (by rw [i0]; omega); rw [i0] at q ⊢; omega); have hnu : mI S t 0 = Int32.ofNat (mI S t 0).toNatClampNeg := (ofN_tn (by rw [i0]; omega)).symm; refine (xC_p (c := 71) (k := (mI S t 4).toNatClampNeg) (x := (mI S t 0)) (xC_s (xC_o (W := W) hpre1) th_t.1 (n := (mI S t 0).toNatClampNeg) (c := t) hn5 hnu) 71 hpre3 rfl (zcw_s (by decide))).1.trans ?_; (try simp only [zp_e (c₉ := 70) th_t.1 (by decide), zp_e (c₉ := 71) th_t.1 (by decide), zp_r]); rw [hpre2, hpre4, hpre5, hpre6]; exact zIw_0.symm))
      · skip
        have g24 := i_nle h15
        exact K _ hI (show xB S (zRu R y.toNatClampNeg (some u)) from by first | (exfalso; omega) | (exfalso; have j2 := congrArg Int32.toInt (congrFun hpre4 2); have j4 := congrArg Int32.toInt (congrFun hpre4 4); have bd := hpre7; omega) | (have i0 : mI S t 0 = I0 0 := congrFun hpre4 0; have i2 : mI S t 2 = I0 2 := congrFun hpre4 2; have i4 : mI S t 4 = I0 4 := congrFun hpre4 4; have bd := hpre7; have hn5 : (mI S t 0).toNatClampNeg < 512 := (by have q := tn_cast (x := mI S t 0) (by rw [i0]; omega); rw [i0] at q ⊢; omega); have hnu : mI S t 0 = Int32.ofNat (mI S t 0).toNatClampNeg := (ofN_tn (by rw [i0]; omega)).symm; rw [← hpre6, ← i0, ← hpre8]; exact (xC_o (W := W) hpre1).2)) (show aS W S = aAd ab y I0 L0 from by first | (exfalso; omega) | (exfalso; have j2 := congrArg Int32.toInt (congrFun hpre4 2); have j4 := congrArg Int32.toInt (congrFun hpre4 4); have bd := hpre7; omega))

/-! from 95.g37 -/
/-! the heap by numbers, the class (written by wip/tools/gen18.py) -/
/-! A NEW THING'S CELL -/
section B12
variable {W c k n : Nat} {S : ma_S} {nu kd sz pl x y : Int32} {rr : Int64} {R : zRT} {a : Nat → Nat → Int32}
def zFn (nu kd sz pl : Int32) : Nat → Int32 := fun k => if k = 4 then pl else if k = 2 then sz else if k = 1 then kd else if k = 0 then nu else 0
theorem zTh_ne (z : c ≠ mN S) : mI (zTh S nu kd sz rr pl) c k = mI S c k := by
  show (if c = mN S ∧ k = 4 then pl else if c = mN S ∧ k = 2 then sz else if c = mN S ∧ k = 1 then kd else if c = mN S ∧ k = 0 then nu else (ma_uc (mI S) (mN S) (fun _ => 0)) c k) = _
  have : (ma_uc (mI S) (mN S) (fun _ => 0)) c k = mI S c k := by unfold ma_uc; simp [z]
  rw [this]
  simp [z]
theorem zTh_eq : mI (zTh S nu kd sz rr pl) (mN S) = zFn nu kd sz pl := by
  funext k
  show (if mN S = mN S ∧ k = 4 then pl else if mN S = mN S ∧ k = 2 then sz else if mN S = mN S ∧ k = 1 then kd else if mN S = mN S ∧ k = 0 then nu else (ma_uc (mI S) (mN S) (fun _ => 0)) (mN S) k) = _
  have : (ma_uc (mI S) (mN S) (fun _ => 0)) (mN S) k = 0 := by unfold ma_uc; simp
  rw [this]
  unfold zFn
  simp
theorem zTh_Ln (z : c ≠ mN S) : mL (zTh S nu kd sz rr pl) c k = mL S c k := by
  show (if c = mN S ∧ k = 3 then rr else (ma_uc (mL S) (mN S) (fun _ => 0)) c k) = _
  rw [if_neg (fun w => z w.1)]
  unfold ma_uc
  simp [z]
theorem zTh_L3 : mL (zTh S nu kd sz rr pl) (mN S) 3 = rr := by
  show (if mN S = mN S ∧ 3 = 3 then rr else (ma_uc (mL S) (mN S) (fun _ => 0)) (mN S) 3) = _
  rw [if_pos ⟨rfl, rfl⟩]
theorem zTh_R (hN : 126 ≤ mN S) : mR (zTh S nu kd sz rr pl) 70 = mR S 70 := by
  funext k
  show (ma_uc (mR S) (mN S) (fun _ => none)) 70 k = _
  unfold ma_uc
  rw [if_neg (by omega)]
theorem mk_B (hB : xB S (mR S 70)) (hN : 126 ≤ mN S) (hr : ∀ n c, mR S 70 n = some c → c < mN S) : xB (zTh S nu kd sz rr pl) (mR S 70) := by
  refine ⟨zTh_R hN, fun n c hn e => ?_⟩
  have q := hB.2 n c hn e
  rw [zTh_ne (by have := hr n c e; omega)]
  exact q
theorem mk_a (hW : xW W) (hN : 126 ≤ mN S) (hr : ∀ n c, mR S 70 n = some c → c < mN S) : aS W (zTh S nu kd sz rr pl) = aS W S := by
  funext c k
  unfold aS
  rw [zTh_R hN]
  by_cases b : zrl c k = true
  · rw [aF_I b, aF_I b, zTh_ne (by have := zcw_lt hW b; omega)]
  · unfold aF
    rw [if_neg b, if_neg b]
    have e1 : aTf (mI (zTh S nu kd sz rr pl)) (mR S 70) (c - 126) k = aTf (mI S) (mR S 70) (c - 126) k := by
      unfold aTf
      by_cases h : k < 512
      · rw [if_pos h, if_pos h]
        cases e : mR S 70 k with
        | none => rfl
        | some t => exact zTh_ne (by have := hr k t e; omega)
      · rw [if_neg h, if_neg h]
    have e2 : aTr (mL (zTh S nu kd sz rr pl)) (mR S 70) (c - 1000) k = aTr (mL S) (mR S 70) (c - 1000) k := by
      unfold aTr
      by_cases h : c - 1000 < 512
      · rw [if_pos h, if_pos h]
        cases e : mR S 70 (c - 1000) with
        | none => rfl
        | some t =>
          show zbit (mL (zTh S nu kd sz rr pl) t 3) _ = zbit (mL S t 3) _
          rw [zTh_Ln (by have := hr _ t e; omega)]
      · rw [if_neg h, if_neg h]
    rw [e1, e2]
theorem aMd_n (h : a 87 8 = 0) : aMd a y = ma_u a 87 2 (a 130 y.toNatClampNeg + a 128 y.toNatClampNeg) := if_pos h
theorem aMd_y (h : ¬ a 87 8 = 0) : aMd a y = ma_u (ma_u a 87 2 (a 130 y.toNatClampNeg + a 128 y.toNatClampNeg)) 77 y.toNatClampNeg 2 := if_neg h
/-- what make and row do: a 69 6 the number that is given -/
def aMk (a : Nat → Nat → Int32) (kd wd : Int32) (L : Int64) (rt : Int32) : Nat → Nat → Int32 := if (a 69 6).toInt < 512 then (if aRp a (wd + 1).toInt = -1 then aRs a (wd + 1).toInt else aRt (aMd (aAd (aRs a (wd + 1).toInt) (aRs a (wd + 1).toInt 69 6) (zFn (aRs a (wd + 1).toInt 69 6) kd (wd + 1) (Int32.ofInt (aRp a (wd + 1).toInt))) L) (aRs a (wd + 1).toInt 69 6)) rt (aRs a (wd + 1).toInt 69 6)) else a
def aMn (a : Nat → Nat → Int32) (wd : Int32) : Int32 := if (a 69 6).toInt < 512 then (if aRp a (wd + 1).toInt = -1 then -1 else aRs a (wd + 1).toInt 69 6) else -1
theorem aMk_0 {kd wd rt : Int32} {L : Int64} (h : ¬ (a 69 6).toInt < 512) : aMk a kd wd L rt = a ∧ aMn a wd = -1 := ⟨if_neg h, if_neg h⟩
theorem aMk_1 {kd wd rt : Int32} {L : Int64} (h : (a 69 6).toInt < 512) (h1 : aRp a (wd + 1).toInt = -1) : aMk a kd wd L rt = aRs a (wd + 1).toInt ∧ aMn a wd = -1 := by
  unfold aMk aMn
  rw [if_pos h, if_pos h, if_pos h1, if_pos h1]
  exact ⟨rfl, rfl⟩
theorem aMk_2 {kd wd rt : Int32} {L : Int64} {b : Nat → Nat → Int32} (h : (a 69 6).toInt < 512) (e : b = aRs a (wd + 1).toInt) (h1 : pl.toInt = aRp a (wd + 1).toInt) (h2 : ¬ pl.toInt = -1) (hy : y = b 69 6) : aMk a kd wd L rt = aRt (aMd (aAd b y (zFn y kd (wd + 1) pl) L) y) rt y ∧ aMn a wd = y := by
  unfold aMk aMn
  rw [if_pos h, if_pos h, ← h1, if_neg h2, if_neg h2, ← e, hy, Int32.ofInt_toInt]
  exact ⟨rfl, rfl⟩
end B12
theorem g_110_87_s_0 {X : Nat × (Nat → Int32)} {d w : Nat} {S : ma_S} {Q : Option ma_V ⊕ Nat → ma_S → Prop} (t : Nat) (hd : 0 ≤ d) (hw : 0 ≤ w) (hS : zT S) (h : (126 ≤ t ∧ t < mN S) ∧ ((126 ≤ t ∧ t < mN S) ∧ (Q (.inl none) (ma_put S 87 2 (.inl ((mI S t 4) + (mI S t 2))))))) : ma_wp X d w 110 0 [(0, .inr (.inr (some 87))), (1, .inr (.inr (some t)))] [] S Q := by
  refine zw_push hm_110 dX8_noteMade_0 (v := .inr (.inr (some 87))) rfl ?_
  refine zw_push hm_110 dX8_noteMade_1 (v := .inr (.inr (some t))) rfl ?_
  obtain ⟨hg, h⟩ := h
  refine zw_gf hm_110 dX8_noteMade_2 (v := .inl (mI S t 4)) (zT_tis hS hg) (zT_tt hS hg) rfl f_8_29_9 rfl ?_
  refine zw_push hm_110 dX8_noteMade_5 (v := .inr (.inr (some t))) rfl ?_
  obtain ⟨hg, h⟩ := h
  refine zw_gf hm_110 dX8_noteMade_6 (v := .inl (mI S t 2)) (zT_tis hS hg) (zT_tt hS hg) rfl f_8_34_9 rfl ?_
  refine zw_stk hm_110 dX8_noteMade_9 (st₉ := [.inl ((mI S t 4) + (mI S t 2)), .inr (.inr (some 87))]) rfl rfl ?_
  refine zw_pf hm_110 dX8_noteMade_10 (zT_is hS s_87) (zT_t hS s_87) p_8_18_6 zk_int ?_
  exact zw_vret hm_110 dX8_noteMade_13 h
theorem sp_110_87_s {X : Nat × (Nat → Int32)} {d w : Nat} {f : Nat → Nat → Int32} {r : Nat → Nat → Option Nat} {C Z N : Nat} {Q : Option ma_V ⊕ Nat → ma_S → Prop} {ab : Nat→Nat→Int32} {R : zRT} {y : Int32} {S : ma_S} (t : Nat) (hd : 0 ≤ d) (hw : 0 ≤ w) (hI : zJ87 f r C Z N S) (th_t : 126 ≤ t ∧ t < N) (hpre0 : xB S R) (hpre1 : aS 88 S = ab) (hpre2 : zTa R y = some t) (K : ∀ S₉, zJ87 f r C Z N S₉ → (xB S₉ R) → (aS 88 S₉ = ma_u ab 87 2 (ab 130 y.toNatClampNeg + ab 128 y.toNatClampNeg)) → Q (.inl none) S₉) : ma_wp X d w 110 0 [(0, .inr (.inr (some 87))), (1, .inr (.inr (some t)))] [] S Q := by
  refine g_110_87_s_0 t (by omega) (by omega) (zG_T hI) ?_
  refine ⟨zG_n hI th_t, ?_⟩
  refine ⟨zG_n hI th_t, ?_⟩
  have f2 := zG_th hI th_t
  have f3 := zG_th hI th_t
  first | have e4 : ((mI S t 4) + (mI S t 2)).toInt = (mI S t 4).toInt + (mI S t 2).toInt := i_add (by omega) (by omega) | have b5 := i_bd ((mI S t 4) + (mI S t 2))
  have hI1 : zJ87 f r C Z N (ma_put S 87 2 (.inl ((mI S t 4) + (mI S t 2)))) := zG_sp hI (0) (400000) rfl (by decide) (by decide) (by decide) trivial (by omega) (by omega)
  exact K _ hI1 (show xB (ma_put S 87 2 (.inl ((mI S t 4) + (mI S t 2)))) R from by first | (exact (xC_p (c := 87) (k := 2) (x := ((mI S t 4) + (mI S t 2))) (xC_o (W := 75) hpre0) 87 xW75 rfl rfl).2)) (show aS 88 (ma_put S 87 2 (.inl ((mI S t 4) + (mI S t 2)))) = ma_u ab 87 2 (ab 130 y.toNatClampNeg + ab 128 y.toNatClampNeg) from by first | (have ty := xB_th (W := 88) hpre0 hpre2; have f2 := ty.2.2.2.2.1; have f4 := ty.2.2.2.2.2.1; rw [hpre1] at f2 f4; refine (xC_p (c := 87) (k := 2) (x := ((mI S t 4) + (mI S t 2))) (xC_o (W := 88) hpre0) 87 xW88 rfl rfl).1.trans ?_; (try simp only [zp_e (c₉ := 87) th_t.1 (by decide)]); rw [hpre1, f2, f4]))
theorem g_73_87_s_0 {X : Nat × (Nat → Int32)} {d w : Nat} {S : ma_S} {Q : Option ma_V ⊕ Nat → ma_S → Prop} (t : Nat) (hd : 1 ≤ d) (hw : 21 ≤ w) (hS : zT S) (h : ma_wp X (d - 1) (w - 21) 110 0 [(0, .inr (.inr (some 87))), (1, .inr (.inr (some t)))] [] S (zv (fun S1 => zT S1 ∧ (if (mI S1 87 8) = 0 then (Q (.inl none) S1) else ((126 ≤ t ∧ t < mN S1) ∧ (if (512 : Int32) ≤ (mI S1 t 0) then (Q (.inl none) S1) else ((126 ≤ t ∧ t < mN S1) ∧ ((0 ≤ (mI S1 t 0) ∧ (mI S1 t 0).toNatClampNeg < 512) ∧ (Q (.inl none) (ma_put S1 90 (mI S1 t 0).toNatClampNeg (.inl (2 : Int32)))))))))) (fun _ _ => False))) : ma_wp X d w 73 0 [(0, .inr (.inr (some 87))), (1, .inr (.inr (some t)))] [] S Q := by
  refine zw_push hm_73 dX6_noteMade_0 (v := .inr (.inr (some 87))) rfl ?_
  refine zw_push hm_73 dX6_noteMade_1 (v := .inr (.inr (some t))) rfl ?_
  refine zw_csp hm_73 dX6_noteMade_2 ip_6_62 il_6_62 hm_110 [.inr (.inr (some t))] [] rfl (zT_is hS s_87) (by rw [(zT_t hS s_87)]; decide) ⟨by omega, by omega⟩ rfl (zw_mono h (zv_go ?_ ?_))
  · intro S1 hv
    obtain ⟨hS1, h⟩ := hv
    refine zw_push hm_73 dX6_noteMade_5 (v := .inr (.inr (some 87))) rfl ?_
    refine zw_gf hm_73 dX6_noteMade_6 (v := .inl (mI S1 87 8)) (zT_is hS1 s_87) (zT_t hS1 s_87) rfl f_6_31_6 rfl ?_
    refine zw_if0 hm_73 dX6_noteMade_9 (t := 20) rfl zc0_eq ?_ ?_
    · intro hc
      rw [if_pos hc] at h
      exact zw_vret hm_73 dX6_noteMade_20 h
    · intro hc
      rw [if_neg hc] at h
      refine zw_push hm_73 dX6_noteMade_12 (v := .inr (.inr (some 87))) rfl ?_
      refine zw_gf hm_73 dX6_noteMade_13 (v := .inr (.inr (some 88))) (zT_is hS1 s_87) (zT_t hS1 s_87) rfl f_6_14_6 (zT_f hS1 r_87_5) ?_
      refine zw_push hm_73 dX6_noteMade_16 (v := .inr (.inr (some t))) rfl ?_
      refine zw_cv hm_73 dX6_noteMade_17 v_6_66_10 hm_121 [.inr (.inr (some t))] [] rfl (zT_rt hS1 s_88 rfl) ⟨by omega, by omega⟩ rfl ?_
      show ma_wp X (d - 1) (w - 21) 121 0 [(0, .inr (.inr (some 88))), (1, .inr (.inr (some t)))] [] S1 _
      refine zw_push hm_121 dX10_blacken_0 (v := .inr (.inr (some t))) rfl ?_
      obtain ⟨hg, h⟩ := h
      refine zw_gf hm_121 dX10_blacken_1 (v := .inl (mI S1 t 0)) (zT_tis hS1 hg) (zT_tt hS1 hg) rfl f_10_58_9 rfl ?_
      refine zw_push hm_121 dX10_blacken_4 (v := .inl (512 : Int32)) rfl ?_
      refine zw_if2 hm_121 dX10_blacken_7 (t := 20) rfl zc2_ge ?_ ?_
      · intro hc
        rw [if_pos hc] at h
        refine zw_vret hm_121 dX10_blacken_20 ?_
        show ma_wp X d w 73 20 [(0, .inr (.inr (some 87))), (1, .inr (.inr (some t)))] [] S1 _
        exact zw_vret hm_73 dX6_noteMade_20 h
      · intro hc
        rw [if_neg hc] at h
        refine zw_push hm_121 dX10_blacken_10 (v := .inr (.inr (some 88))) rfl ?_
        refine zw_gf hm_121 dX10_blacken_11 (v := .inr (.inr (some 90))) (zT_is hS1 s_88) (zT_t hS1 s_88) rfl f_10_15_10 (zT_f hS1 r_88_2) ?_
        refine zw_push hm_121 dX10_blacken_14 (v := .inr (.inr (some t))) rfl ?_
        obtain ⟨hg, h⟩ := h
        refine zw_gf hm_121 dX10_blacken_15 (v := .inl (mI S1 t 0)) (zT_tis hS1 hg) (zT_tt hS1 hg) rfl f_10_58_9 rfl ?_
        refine zw_push hm_121 dX10_blacken_18 (v := .inl (2 : Int32)) rfl ?_
        obtain ⟨hg, h⟩ := h
        refine zw_ias hm_121 dX10_blacken_19 (zT_is hS1 s_90) (zT_h hS1 s_90) rfl hg ?_
        refine zw_vret hm_121 dX10_blacken_20 ?_
        show ma_wp X d w 73 20 [(0, .inr (.inr (some 87))), (1, .inr (.inr (some t)))] [] (ma_put S1 90 (mI S1 t 0).toNatClampNeg (.inl (2 : Int32))) _
        exact zw_vret hm_73 dX6_noteMade_20 h
  · intro x S9 hx
    exact hx.elim
theorem sp_73_87_s {X : Nat × (Nat → Int32)} {d w : Nat} {f : Nat → Nat → Int32} {r : Nat → Nat → Option Nat} {C Z N : Nat} {Q : Option ma_V ⊕ Nat → ma_S → Prop} {ab : Nat→Nat→Int32} {R : zRT} {y : Int32} {S : ma_S} (t : Nat) (hd : 1 ≤ d) (hw : 21 ≤ w) (hI : zJ87 f r C Z N S) (th_t : 126 ≤ t ∧ t < N) (hpre0 : xB S R) (hpre1 : aS 88 S = ab) (hpre2 : zTa R y = some t) (K : ∀ S₉, zJ87 f r C Z N S₉ → (xB S₉ R) → (aS 88 S₉ = aMd ab y) → Q (.inl none) S₉) : ma_wp X d w 73 0 [(0, .inr (.inr (some 87))), (1, .inr (.inr (some t)))] [] S Q := by
  refine g_73_87_s_0 t (by omega) (by omega) (zG_T hI) ?_
  refine sp_110_87_s (ab := (aS 88 S)) (R := R) (y := (y)) t (by omega) (by omega) hI th_t (show xB S R from by first | (exact (xC_o (W := 75) hpre0).2)) (show aS 88 S = (aS 88 S) from by first | (exact rfl)) (show zTa R (y) = some t from by first | (exact hpre2)) (fun S1 hI_S1 rp0_S1 rp1_S1 => zv_n ⟨zG_T hI_S1, ?_⟩)
  have rp0_S1 : xB S1 R := rp0_S1
  have rp1_S1 : aS 88 S1 = ma_u (aS 88 S) 87 2 ((aS 88 S) 130 (y).toNatClampNeg + (aS 88 S) 128 (y).toNatClampNeg) := rp1_S1
  have f1 := zG_s hI_S1 (0) (1) (c := 87) (k := 8) (by decide)
  have li2 : (0 : Int32).toInt = 0 := rfl
  refine zd (fun h3 => ?_) (fun h3 => ?_)
  · skip
    have g4 := i_eq h3
    exact K _ hI_S1 (show xB S1 R from by first | (exact (xC_o (W := 75) rp0_S1).2)) (show aS 88 S1 = aMd ab y from by first | (exfalso; omega) | (have k8 : mI S1 87 8 = ab 87 8 := (aS_I (W := 88) (S := S1) (c := 87) (c₉ := 87) (k := 8) rfl rfl).symm.trans ((congrFun (congrFun rp1_S1 87) 8).trans ((xu_o (by omega)).trans (congrFun (congrFun hpre1 87) 8))); have st := rp1_S1; rw [hpre1] at st; rw [st]; exact (aMd_n (by rw [← k8]; assumption)).symm))
  · skip
    have g5 := i_ne h3
    refine ⟨zG_n hI_S1 th_t, ?_⟩
    have li6 : (512 : Int32).toInt = 512 := rfl
    have f7 := zG_th hI_S1 th_t
    refine zd (fun h8 => ?_) (fun h8 => ?_)
    · skip
      have g9 := i_le h8
      exact K _ hI_S1 (show xB S1 R from by first | (exact (xC_o (W := 75) rp0_S1).2)) (show aS 88 S1 = aMd ab y from by first | (exfalso; omega) | (have k8 : mI S1 87 8 = ab 87 8 := (aS_I (W := 88) (S := S1) (c := 87) (c₉ := 87) (k := 8) rfl rfl).symm.trans ((congrFun (congrFun rp1_S1 87) 8).trans ((xu_o (by omega)).trans (congrFun (congrFun hpre1 87) 8))); have st := rp1_S1; rw [hpre1] at st; rw [st]; exact (aMd_n (by rw [← k8]; assumption)).symm))
    · skip
      have g10 := i_nle h8
      refine ⟨zG_n hI_S1 th_t, ?_⟩
      refine ⟨i_ix (by omega) (by omega), ?_⟩
      have hI11 : zJ87 f r C Z N (ma_put S1 90 (mI S1 t 0).toNatClampNeg (.inl (2 : Int32))) := zG_fa hI_S1 rfl (by decide) (by decide) (by decide) trivial
      exact K _ hI11 (show xB (ma_put S1 90 (mI S1 t 0).toNatClampNeg (.inl (2 : Int32))) R from by first | (exact (xC_n (c := 90) (k := (mI S1 t 0).toNatClampNeg) (x := (2 : Int32)) (xC_o (W := 75) rp0_S1) ⟨by decide, Or.inl ⟨rfl, rfl⟩⟩).2)) (show aS 88 (ma_put S1 90 (mI S1 t 0).toNatClampNeg (.inl (2 : Int32))) = aMd ab y from by first | (have k8 : mI S1 87 8 = ab 87 8 := (aS_I (W := 88) (S := S1) (c := 87) (c₉ := 87) (k := 8) rfl rfl).symm.trans ((congrFun (congrFun rp1_S1 87) 8).trans ((xu_o (by omega)).trans (congrFun (congrFun hpre1 87) 8))); have st := rp1_S1; rw [hpre1] at st; have ty := xB_th (W := 88) rp0_S1 hpre2; refine (xC_p (c := 90) (k := (mI S1 t 0).toNatClampNeg) (x := (2 : Int32)) (xC_o (W := 88) rp0_S1) 77 xW88 rfl rfl).1.trans ?_; rw [st, ty.2.2.1]; exact (aMd_y (by rw [← k8]; assumption)).symm))
section MK1s
variable {X : Nat × (Nat → Int32)} {d w M pc o nL : Nat} {L : ma_L} {st r : List ma_V} {S : ma_S} {y : MethodName} {cc : ByteArray} {ret : Option FieldType} {Q : Option ma_V ⊕ Nat → ma_S → Prop}
theorem mk_143s {f : Nat → Nat → Int32} {r : Nat → Nat → Option Nat} {C Z N p : Nat} {kd wd rt pl : Int32} {rr : Int64} (hd : 3 ≤ d) (hw : 60 ≤ w) (h : zB f r C Z N S) (h0 : 0 ≤ (mI S 69 6).toInt) (h0₉ : (mI S 69 6).toInt ≤ 511) (h1 : 0 ≤ wd.toInt) (h1₉ : wd.toInt ≤ 60) (h2 : 0 ≤ pl.toInt) (h2₉ : pl.toInt ≤ 200000) (HK : ∀ S₉, zB f (zrN r N) (C + 1) (Z + 9) (N + 1) S₉ → S₉ = zTh S (mI S 69 6) kd (wd + (1 : Int32)) rr pl → ma_wp X d w 143 64 [(0, .inr (.inr (some 64))), (5, .inl rt), (6, .inr (.inr (some p))), (8, .inr (.inr (some N)))] [] S₉ Q) : ma_wp X d w 143 41 [(0, .inr (.inr (some 64))), (1, .inl kd), (2, .inl wd), (3, .inr (.inl rr)), (5, .inl rt), (6, .inr (.inr (some p))), (7, .inl pl)] [] S Q := by
  have hT := zG_T h
  have hN : mN S = N := zG_N h
  have hT2 : 126 ≤ mN S := hT.2.1
  have hes : (wd + (1 : Int32)).toInt = wd.toInt + 1 := i_addk rfl (by omega) (by omega)
  refine zw_new hm_143 dX11_addObject_41 n9_11_128 ?_
  refine zw_stk hm_143 dX11_addObject_44 (st₉ := [.inr (.inr (some (mN S))), .inr (.inr (some (mN S)))]) rfl rfl ?_
  refine zw_push hm_143 dX11_addObject_45 (v := .inr (.inr (some 64))) rfl ?_
  have oh : ∀ c, c < mN S → mH (ma_new S 9 9) c = mH S c := fun c hc => by
    show (ma_uc (mH S) (mN S) (9, 9)) c = mH S c
    unfold ma_uc
    rw [if_neg (by omega)]
  have oi : ∀ c, 64 ≤ c → c < mN S + 1 → ma_is (ma_new S 9 9) c = true := fun c h1 h2 => by
    show (decide (64 ≤ c) && decide (c < mN S + 1)) = true
    rw [Bool.and_eq_true, decide_eq_true_eq, decide_eq_true_eq]
    omega
  have oR : mR (ma_new S 9 9) 64 8 = some 69 := by
    show (ma_uc (mR S) (mN S) (fun _ => none)) 64 8 = some 69
    unfold ma_uc
    rw [if_neg (by omega)]
    exact zT_r hT r_64_8
  have oI : mI (ma_new S 9 9) 69 6 = mI S 69 6 := by
    show (ma_uc (mI S) (mN S) (fun _ => 0)) 69 6 = mI S 69 6
    unfold ma_uc
    rw [if_neg (by omega)]
  have oN : (mH (ma_new S 9 9) (mN S)).1 = 9 := by
    show ((ma_uc (mH S) (mN S) (9, 9)) (mN S)).1 = 9
    unfold ma_uc
    rw [if_pos rfl]
  refine zw_gf hm_143 dX11_addObject_46 (v := .inr (.inr (some 69))) (oi 64 (by omega) (by omega)) (by rw [oh 64 (by omega)]; exact zT_t hT s_64) rfl f_11_26_11 (congrArg (fun z => Sum.inr (Sum.inr z)) oR) ?_
  refine zw_gf hm_143 dX11_addObject_49 (v := .inl (mI S 69 6)) (oi 69 (by omega) (by omega)) (by rw [oh 69 (by omega)]; exact zT_t hT s_69) rfl f_11_244_7 (congrArg Sum.inl oI) ?_
  refine zw_push hm_143 dX11_addObject_52 (v := .inl kd) rfl ?_
  refine zw_push hm_143 dX11_addObject_53 (v := .inl wd) rfl ?_
  refine zw_push hm_143 dX11_addObject_54 (v := .inl 1) rfl ?_
  refine zw_stk hm_143 dX11_addObject_55 (st₉ := [.inl (wd + (1 : Int32)), .inl kd, .inl (mI S 69 6), .inr (.inr (some (mN S))), .inr (.inr (some (mN S)))]) rfl rfl ?_
  refine zw_push hm_143 dX11_addObject_56 (v := .inr (.inl rr)) rfl ?_
  refine zw_push hm_143 dX11_addObject_57 (v := .inl pl) rfl ?_
  refine zw_ccn hm_143 dX11_addObject_59 ip_11_370 il_11_370 hm_112 [.inl pl, .inr (.inl rr), .inl (wd + (1 : Int32)), .inl kd, .inl (mI S 69 6)] [.inr (.inr (some (mN S)))] rfl (oi _ (by omega) (by omega)) ⟨by rw [oN]; decide, by rw [oN]; decide⟩ ⟨by omega, by omega⟩ rfl ?_
  refine mk_112 (by omega) (by omega) (oi _ (by omega) (by omega)) oN ?_
  show ma_wp X d w 143 62 [(0, .inr (.inr (some 64))), (1, .inl kd), (2, .inl wd), (3, .inr (.inl rr)), (5, .inl rt), (6, .inr (.inr (some p))), (7, .inl pl)] [.inr (.inr (some (mN S)))] (zTh S (mI S 69 6) kd (wd + (1 : Int32)) rr pl) Q
  refine zw_sto hm_143 dX11_addObject_62 ((8, .inr (.inr (some (mN S)))) :: [(0, .inr (.inr (some 64))), (1, .inl kd), (2, .inl wd), (3, .inr (.inl rr)), (5, .inl rt), (6, .inr (.inr (some p))), (7, .inl pl)]) rfl rfl rfl ?_
  rw [hN]
  refine zw_sub (ma_nd_of (ks := [0, 5, 6, 8]) rfl (by decide)) (ma_nd_of (ks := [8, 0, 1, 2, 3, 5, 6, 7]) rfl (by decide)) (ma_le_cons rfl (ma_le_cons rfl (ma_le_cons rfl (ma_le_cons rfl (ma_le_nil _))))) (HK _ ?_ rfl)
  refine zG_mk h zB_t (by decide) (by decide) (by decide) (fun z => ?_) h0 h0₉ (by omega) (by omega) h2 h2₉
  exact zB_xk z hT2
end MK1s
theorem g_143_64_s_64 {X : Nat × (Nat → Int32)} {d w : Nat} {S : ma_S} {Q : Option ma_V ⊕ Nat → ma_S → Prop} (l5 : Int32) (l8 : Nat) (hd : 7 ≤ d) (hw : 182 ≤ w) (hS : zT S) (h : ma_wp X (d - 1) (w - 23) 91 0 [(0, .inr (.inr (some 69))), (1, .inr (.inr (some l8)))] [] S (zv (fun S1 => zT S1 ∧ (ma_wp X (d - 1) (w - 21) 73 0 [(0, .inr (.inr (some 87))), (1, .inr (.inr (some l8)))] [] S1 (zv (fun S3 => zT S3 ∧ (ma_wp X (d - 1) (w - 24) 145 0 [(0, .inr (.inr (some 64))), (1, .inr (.inr (some 87))), (2, .inl l5), (3, .inr (.inr (some l8)))] [] S3 (zo (fun v6 S5 => zT S5 ∧ ((126 ≤ l8 ∧ l8 < mN S5) ∧ (Q (.inl (some (.inl (mI S5 l8 0)))) S5))) (fun x S9 => Q (.inr x) S9)))) (fun _ _ => False)))) (fun x S9 => Q (.inr x) S9))) : ma_wp X d w 143 64 [(0, .inr (.inr (some 64))), (5, .inl l5), (6, .inr (.inr (some 87))), (8, .inr (.inr (some l8)))] [] S Q := by
  refine zw_push hm_143 dX11_addObject_64 (v := .inr (.inr (some 64))) rfl ?_
  refine zw_gf hm_143 dX11_addObject_65 (v := .inr (.inr (some 69))) (zT_is hS s_64) (zT_t hS s_64) rfl f_11_26_11 (zT_f hS r_64_8) ?_
  refine zw_push hm_143 dX11_addObject_68 (v := .inr (.inr (some l8))) rfl ?_
  refine zw_cv hm_143 dX11_addObject_70 v_11_373_7 hm_91 [.inr (.inr (some l8))] [] rfl (zT_rt hS s_69 rfl) ⟨by omega, by omega⟩ rfl (zw_mono h (zv_go ?_ ?_))
  · intro S1 hv
    obtain ⟨hS1, h⟩ := hv
    refine zw_push hm_143 dX11_addObject_73 (v := .inr (.inr (some 87))) rfl ?_
    refine zw_push hm_143 dX11_addObject_75 (v := .inr (.inr (some l8))) rfl ?_
    refine zw_cv hm_143 dX11_addObject_77 v_11_376_6 hm_73 [.inr (.inr (some l8))] [] rfl (zT_rt hS1 s_87 rfl) ⟨by omega, by omega⟩ rfl (zw_mono h (zv_go ?_ ?_))
    · intro S3 hv
      obtain ⟨hS3, h⟩ := hv
      refine zw_push hm_143 dX11_addObject_80 (v := .inr (.inr (some 64))) rfl ?_
      refine zw_push hm_143 dX11_addObject_81 (v := .inr (.inr (some 87))) rfl ?_
      refine zw_push hm_143 dX11_addObject_83 (v := .inl l5) rfl ?_
      refine zw_push hm_143 dX11_addObject_85 (v := .inr (.inr (some l8))) rfl ?_
      refine zw_cv hm_143 dX11_addObject_87 v_11_169_11 hm_145 [.inr (.inr (some l8)), .inl l5, .inr (.inr (some 87))] [] rfl (zT_rt hS3 s_64 rfl) ⟨by omega, by omega⟩ rfl (zw_mono h (zo_go ?_ ?_))
      · intro v6 S5 hv
        obtain ⟨hS5, h⟩ := hv
        refine zw_stk hm_143 dX11_addObject_90 (st₉ := []) rfl rfl ?_
        refine zw_push hm_143 dX11_addObject_91 (v := .inr (.inr (some l8))) rfl ?_
        obtain ⟨hg, h⟩ := h
        refine zw_gf hm_143 dX11_addObject_93 (v := .inl (mI S5 l8 0)) (zT_tis hS5 hg) (zT_tt hS5 hg) rfl f_11_182_9 rfl ?_
        exact zw_iret hm_143 dX11_addObject_96 h
      · intro x S9 hx
        exact ⟨by decide, hx⟩
    · intro x S9 hx
      exact hx.elim
  · intro x S9 hx
    exact ⟨by decide, hx⟩
theorem sg_143_64_s_64 {X : Nat × (Nat → Int32)} {d w : Nat} {f : Nat → Nat → Int32} {r : Nat → Nat → Option Nat} {C Z N : Nat} {Q : Option ma_V ⊕ Nat → ma_S → Prop} {ab : Nat→Nat→Int32} {R : zRT} {y : Int32} {I0 : Nat→Int32} {L0 : Int64} {S : ma_S} (l5 : Int32) (l8 : Nat) (hd : 7 ≤ d) (hw : 182 ≤ w) (hI : zB f r C Z N S) (th_l8 : 126 ≤ l8 ∧ l8 < N) (hpre0 : (mI S 69 6).toInt ≤ 511) (hpre1 : xB S R) (hpre2 : aS 88 S = ab) (hpre3 : mI S l8 = I0) (hpre4 : mL S l8 3 = L0) (hpre5 : I0 0 = y) (hpre6 : (0 ≤ (I0 0).toInt ∧ (I0 0).toInt ≤ 511) ∧ (1 ≤ (I0 2).toInt ∧ (I0 2).toInt ≤ 61) ∧ 0 ≤ (I0 4).toInt ∧ (I0 4).toInt + (I0 2).toInt ≤ 4500) (hpre7 : 0 ≤ y.toInt ∧ y.toInt < 512) (hpre8 : 0 ≤ l5.toInt) (hpre9 : l5.toInt ≤ 15) (K : ∀ v S₉, zB f r C Z N S₉ → (True) → (xB S₉ (mR S₉ 70)) → (aS 88 S₉ = aRt (aMd (aAd ab y I0 L0) y) l5 y ∧ v = y) → Q (.inl (some (.inl v))) S₉) : ma_wp X d w 143 64 [(0, .inr (.inr (some 64))), (5, .inl l5), (6, .inr (.inr (some 87))), (8, .inr (.inr (some l8)))] [] S Q := by
  refine g_143_64_s_64 l5 l8 (by omega) (by omega) (zG_T hI) ?_
  have f1 := zG_s hI (0) (512) (c := 69) (k := 6) (by decide)
  refine sp_91_69_s (ab := (aS 88 S)) (R := R) (W := 88) (y := y) (I0 := I0) (L0 := L0) (u := l8) l8 (by omega) (by omega) (zB_dn_zS hI) th_l8 (show (mI S 69 6).toInt ≤ 511 from by omega) (show xB S R from by first | (exact (xC_o (W := 75) hpre1).2)) (show aS 88 S = (aS 88 S) from by first | (exact rfl)) (show xW 88 from by first | (exact xW88)) (show mI S l8 = I0 from by first | (exact rfl) | (exact hpre3)) (show mL S l8 3 = L0 from by first | (exact rfl) | (exact hpre4)) (show I0 0 = y from by first | (exact rfl) | (exact hpre5)) (show (0 ≤ (I0 0).toInt ∧ (I0 0).toInt ≤ 511) ∧ (1 ≤ (I0 2).toInt ∧ (I0 2).toInt ≤ 61) ∧ 0 ≤ (I0 4).toInt ∧ (I0 4).toInt + (I0 2).toInt ≤ 4500 from by first | (exact hpre6) | (omega)) (show l8 = l8 from by first | (exact rfl)) (fun S1 hL_S1 rp0_S1 rp1_S1 => zv_n ⟨zG_T hL_S1, ?_⟩)
  have hI_S1 := zB_up_zS hI hL_S1
  have rp0_S1 : xB S1 (zRu R y.toNatClampNeg (some l8)) := by
    have z := rp0_S1
    (try rw [show mI S 65 = f 65 from funext (fun k => zG_z hI rfl)] at z)
    (try rw [show mI S 64 1 = f 64 1 from zG_z hI rfl] at z)
    exact z
  have rp1_S1 : aS 88 S1 = aAd (aS 88 S) y I0 L0 := by
    have z := rp1_S1
    (try rw [show mI S 65 = f 65 from funext (fun k => zG_z hI rfl)] at z)
    (try rw [show mI S 64 1 = f 64 1 from zG_z hI rfl] at z)
    exact z
  refine sp_73_87_s (ab := (aS 88 S1)) (R := (zRu R y.toNatClampNeg (some l8))) (y := (y)) l8 (by omega) (by omega) (zB_dn_zJ87 hI_S1) th_l8 (show xB S1 (zRu R y.toNatClampNeg (some l8)) from by first | (exact (xC_o (W := 75) rp0_S1).2)) (show aS 88 S1 = (aS 88 S1) from by first | (exact rfl)) (show zTa (zRu R y.toNatClampNeg (some l8)) (y) = some l8 from by first | (exact (zTa_u (R := R) (c := l8) hpre7.1 hpre7.2))) (fun S3 hL_S3 rp0_S3 rp1_S3 => zv_n ⟨zG_T hL_S3, ?_⟩)
  have hI_S3 := zB_up_zJ87 hI_S1 hL_S3
  have rp0_S3 : xB S3 (zRu R y.toNatClampNeg (some l8)) := by
    have z := rp0_S3
    (try rw [show mI S1 65 = f 65 from funext (fun k => zG_z hI_S1 rfl)] at z)
    (try rw [show mI S1 64 1 = f 64 1 from zG_z hI_S1 rfl] at z)
    exact z
  have rp1_S3 : aS 88 S3 = aMd (aS 88 S1) (y) := by
    have z := rp1_S3
    (try rw [show mI S1 65 = f 65 from funext (fun k => zG_z hI_S1 rfl)] at z)
    (try rw [show mI S1 64 1 = f 64 1 from zG_z hI_S1 rfl] at z)
    exact z
  have b2 := i_bd l5
  refine sp_145_64_87_s (ab := (aS 88 S3)) (R := (zRu R y.toNatClampNeg (some l8))) (y := (y)) (l5) ((some l8)) (by omega) (by omega) (zB_dn_zJ87 hI_S3) (fun _ z => by cases z; exact th_l8) (show xB S3 (zRu R y.toNatClampNeg (some l8)) from by first | (exact (xC_o (W := 75) rp0_S3).2)) (show aS 88 S3 = (aS 88 S3) from by first | (exact rfl)) (show (some l8) = zTa (zRu R y.toNatClampNeg (some l8)) (y) from by first | (exact (zTa_u (R := R) (c := l8) hpre7.1 hpre7.2).symm)) (by omega) (by omega) (fun v6 S5 hL_S5 hq_v6 rp0_S5 rp1_S5 rp2_S5 => zo_n ⟨zG_T hL_S5, ?_⟩)
  have hI_S5 := zB_up_zJ87 hI_S3 hL_S5
  have rp0_S5 : xB S5 (zRu R y.toNatClampNeg (some l8)) := by
    have z := rp0_S5
    (try rw [show mI S3 65 = f 65 from funext (fun k => zG_z hI_S3 rfl)] at z)
    (try rw [show mI S3 64 1 = f 64 1 from zG_z hI_S3 rfl] at z)
    exact z
  have rp1_S5 : aS 88 S5 = aRt (aS 88 S3) l5 (y) := by
    have z := rp1_S5
    (try rw [show mI S3 65 = f 65 from funext (fun k => zG_z hI_S3 rfl)] at z)
    (try rw [show mI S3 64 1 = f 64 1 from zG_z hI_S3 rfl] at z)
    exact z
  have rp2_S5 : v6 = zTa (zRu R y.toNatClampNeg (some l8)) ((aS 88 S3) 72 l5.toNatClampNeg) := by
    have z := rp2_S5
    (try rw [show mI S3 65 = f 65 from funext (fun k => zG_z hI_S3 rfl)] at z)
    (try rw [show mI S3 64 1 = f 64 1 from zG_z hI_S3 rfl] at z)
    exact z
  refine ⟨zG_n hI_S5 th_l8, ?_⟩
  have f3 := zG_th hI_S5 th_l8
  exact K ((mI S5 l8 0)) _ hI_S5 trivial (show xB S5 (mR S5 70) from by first | (exact xB_x (xC_o (W := 75) rp0_S5).2)) (show aS 88 S5 = aRt (aMd (aAd ab y I0 L0) y) l5 y ∧ (mI S5 l8 0) = y from by first | (have ty := xB_th (W := 88) rp0_S5 (zTa_u (R := R) (c := l8) hpre7.1 hpre7.2); have st := rp1_S5; rw [rp1_S3, rp1_S1, hpre2] at st; exact ⟨st, ty.2.2.1⟩))

