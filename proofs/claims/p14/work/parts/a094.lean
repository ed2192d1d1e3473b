/-! from 95.g26 -/
/-! the heap by numbers, the class (written by wip/tools/gen18.py) -/
theorem g_149_64_s_0 {X : Nat × (Nat → Int32)} {d w : Nat} {S : ma_S} {Q : Option ma_V ⊕ Nat → ma_S → Prop} (n : Int32) (hd : 6 ≤ d) (hw : 89 ≤ w) (hS : zT S) (h : ma_wp X (d - 1) (w - 20) 116 0 [(0, .inr (.inr (some 75)))] [] S (zv (fun S1 => zT S1 ∧ (if n < 0 then (Q (.inr 4) (ma_bump S1)) else (if (512 : Int32) ≤ n then (Q (.inr 4) (ma_bump S1)) else ((0 ≤ n ∧ n.toNatClampNeg < 512) ∧ (((mR S1 70 n.toNatClampNeg) = none → Q (.inr 4) (ma_bump S1)) ∧ (∀ c3, (mR S1 70 n.toNatClampNeg) = some c3 → (126 ≤ c3 ∧ c3 < mN S1) ∧ (if (mI S1 c3 4) < (mI S1 75 5) then (Q (.inl (some (.inr (.inr (some c3))))) S1) else ((126 ≤ c3 ∧ c3 < mN S1) ∧ (if (512 : Int32) ≤ (mI S1 c3 0) then (Q (.inr 4) (ma_bump S1)) else ((126 ≤ c3 ∧ c3 < mN S1) ∧ ((0 ≤ (mI S1 c3 0) ∧ (mI S1 c3 0).toNatClampNeg < 512) ∧ (if (mI S1 77 (mI S1 c3 0).toNatClampNeg) = 0 then (Q (.inr 4) (ma_bump S1)) else (Q (.inl (some (.inr (.inr (some c3))))) S1))))))))))))) (fun x S9 => Q (.inr x) S9))) : ma_wp X d w 149 0 [(0, .inr (.inr (some 64))), (1, .inl n)] [] S Q := by
  refine zw_push hm_149 dX11_needReached_0 (v := .inr (.inr (some 64))) rfl ?_
  refine zw_gf hm_149 dX11_needReached_1 (v := .inr (.inr (some 75))) (zT_is hS s_64) (zT_t hS s_64) rfl f_11_35_11 (zT_f hS r_64_9) ?_
  refine zw_cv hm_149 dX11_needReached_4 v_11_358_10 hm_116 [] [] rfl (zT_rt hS s_75 rfl) ⟨by omega, by omega⟩ rfl (zw_mono h (zv_go ?_ ?_))
  · intro S1 hv
    obtain ⟨hS1, h⟩ := hv
    refine zw_push hm_149 dX11_needReached_7 (v := .inr (.inr (some 64))) rfl ?_
    refine zw_gf hm_149 dX11_needReached_8 (v := .inr (.inr (some 69))) (zT_is hS1 s_64) (zT_t hS1 s_64) rfl f_11_26_11 (zT_f hS1 r_64_8) ?_
    refine zw_push hm_149 dX11_needReached_11 (v := .inl n) rfl ?_
    refine zw_cv hm_149 dX11_needReached_12 v_11_176_7 hm_81 [.inl n] [] rfl (zT_rt hS1 s_69 rfl) ⟨by omega, by omega⟩ rfl ?_
    show ma_wp X (d - 1) (w - 21) 81 0 [(0, .inr (.inr (some 69))), (1, .inl n)] [] S1 _
    refine zw_push hm_81 dX7_thingAt_0 (v := .inl n) rfl ?_
    refine zw_if0 hm_81 dX7_thingAt_1 (t := 20) rfl zc0_lt ?_ ?_
    · intro hc
      rw [if_pos hc] at h
      refine zw_push hm_81 dX7_thingAt_20 (v := .inr (.inr none)) rfl ?_
      refine zw_aret hm_81 dX7_thingAt_21 ?_
      show ma_wp X d w 149 15 [(0, .inr (.inr (some 64))), (1, .inl n)] [.inr (.inr none)] S1 _
      refine zw_sto hm_149 dX11_needReached_15 [(2, .inr (.inr none)), (0, .inr (.inr (some 64))), (1, .inl n)] rfl rfl rfl ?_
      refine zw_push hm_149 dX11_needReached_16 (v := .inr (.inr none)) rfl ?_
      refine zw_ifnull hm_149 dX11_needReached_17 (t := 31) rfl (fun _ => ?_) (fun _ z => by cases z)
      exact zw_thr hm_149 dX11_needReached_31 dX11_needReached_34 dX11_needReached_35 dX11_needReached_38 x_11_364_366 n_11_364 (by omega) (by show 0 + 81 ≤ w; omega) h
    · intro hc
      rw [if_neg hc] at h
      refine zw_push hm_81 dX7_thingAt_4 (v := .inl n) rfl ?_
      refine zw_push hm_81 dX7_thingAt_5 (v := .inl (512 : Int32)) rfl ?_
      refine zw_if2 hm_81 dX7_thingAt_8 (t := 20) rfl zc2_ge ?_ ?_
      · intro hc
        rw [if_pos hc] at h
        refine zw_push hm_81 dX7_thingAt_20 (v := .inr (.inr none)) rfl ?_
        refine zw_aret hm_81 dX7_thingAt_21 ?_
        show ma_wp X d w 149 15 [(0, .inr (.inr (some 64))), (1, .inl n)] [.inr (.inr none)] S1 _
        refine zw_sto hm_149 dX11_needReached_15 [(2, .inr (.inr none)), (0, .inr (.inr (some 64))), (1, .inl n)] rfl rfl rfl ?_
        refine zw_push hm_149 dX11_needReached_16 (v := .inr (.inr none)) rfl ?_
        refine zw_ifnull hm_149 dX11_needReached_17 (t := 31) rfl (fun _ => ?_) (fun _ z => by cases z)
        exact zw_thr hm_149 dX11_needReached_31 dX11_needReached_34 dX11_needReached_35 dX11_needReached_38 x_11_364_366 n_11_364 (by omega) (by show 0 + 81 ≤ w; omega) h
      · intro hc
        rw [if_neg hc] at h
        refine zw_push hm_81 dX7_thingAt_11 (v := .inr (.inr (some 69))) rfl ?_
        refine zw_gf hm_81 dX7_thingAt_12 (v := .inr (.inr (some 70))) (zT_is hS1 s_69) (zT_t hS1 s_69) rfl f_7_11_7 (zT_f hS1 r_69_0) ?_
        refine zw_push hm_81 dX7_thingAt_15 (v := .inl n) rfl ?_
        obtain ⟨hg, h⟩ := h
        refine zw_aa hm_81 dX7_thingAt_16 (zT_is hS1 s_70) (zT_h hS1 s_70) rfl rfl hg rfl ?_
        show ma_wp X (d - 1) (w - 21) 81 17 [(0, .inr (.inr (some 69))), (1, .inl n)] [.inr (.inr (mR S1 70 n.toNatClampNeg))] S1 _
        refine zw_goto hm_81 dX7_thingAt_17 (t := 21) rfl ?_
        refine zw_aret hm_81 dX7_thingAt_21 ?_
        show ma_wp X d w 149 15 [(0, .inr (.inr (some 64))), (1, .inl n)] [.inr (.inr (mR S1 70 n.toNatClampNeg))] S1 _
        refine zw_sto hm_149 dX11_needReached_15 [(2, .inr (.inr (mR S1 70 n.toNatClampNeg))), (0, .inr (.inr (some 64))), (1, .inl n)] rfl rfl rfl ?_
        refine zw_push hm_149 dX11_needReached_16 (v := .inr (.inr (mR S1 70 n.toNatClampNeg))) rfl ?_
        refine zw_ifnull hm_149 dX11_needReached_17 (t := 31) rfl ?_ ?_
        · intro hc
          have h := h.1 hc
          (try rw [hc])
          show ma_wp X d w 149 31 [(2, .inr (.inr none)), (0, .inr (.inr (some 64))), (1, .inl n)] [] S1 _
          exact zw_thr hm_149 dX11_needReached_31 dX11_needReached_34 dX11_needReached_35 dX11_needReached_38 x_11_364_366 n_11_364 (by omega) (by show 0 + 81 ≤ w; omega) h
        · intro c3 hc
          have h := h.2 c3 hc
          (try rw [hc])
          show ma_wp X d w 149 20 [(2, .inr (.inr (some c3))), (0, .inr (.inr (some 64))), (1, .inl n)] [] S1 _
          refine zw_push hm_149 dX11_needReached_20 (v := .inr (.inr (some 64))) rfl ?_
          refine zw_gf hm_149 dX11_needReached_21 (v := .inr (.inr (some 75))) (zT_is hS1 s_64) (zT_t hS1 s_64) rfl f_11_35_11 (zT_f hS1 r_64_9) ?_
          refine zw_push hm_149 dX11_needReached_24 (v := .inr (.inr (some c3))) rfl ?_
          refine zw_cv hm_149 dX11_needReached_25 v_11_361_10 hm_122 [.inr (.inr (some c3))] [] rfl (zT_rt hS1 s_75 rfl) ⟨by omega, by omega⟩ rfl ?_
          show ma_wp X (d - 1) (w - 21) 122 0 [(0, .inr (.inr (some 75))), (1, .inr (.inr (some c3)))] [] S1 _
          refine zw_push hm_122 dX10_keeps_0 (v := .inr (.inr (some c3))) rfl ?_
          obtain ⟨hg, h⟩ := h
          refine zw_gf hm_122 dX10_keeps_1 (v := .inl (mI S1 c3 4)) (zT_tis hS1 hg) (zT_tt hS1 hg) rfl f_10_49_9 rfl ?_
          refine zw_push hm_122 dX10_keeps_4 (v := .inr (.inr (some 75))) rfl ?_
          refine zw_gf hm_122 dX10_keeps_5 (v := .inl (mI S1 75 5)) (zT_is hS1 s_75) (zT_t hS1 s_75) rfl f_10_35_10 rfl ?_
          refine zw_if2 hm_122 dX10_keeps_8 (t := 19) rfl zc2_lt ?_ ?_
          · intro hc
            rw [if_pos hc] at h
            refine zw_push hm_122 dX10_keeps_19 (v := .inl (1 : Int32)) rfl ?_
            refine zw_goto hm_122 dX10_keeps_20 (t := 24) rfl ?_
            refine zw_bret hm_122 dX10_keeps_24 (by decide) ?_
            show ma_wp X d w 149 28 [(2, .inr (.inr (some c3))), (0, .inr (.inr (some 64))), (1, .inl n)] [.inl (1 : Int32)] S1 _
            refine zw_if0 hm_149 dX11_needReached_28 (t := 39) rfl zc0_ne (fun _ => ?_) (fun hc => absurd (by decide) hc)
            refine zw_push hm_149 dX11_needReached_39 (v := .inr (.inr (some c3))) rfl ?_
            exact zw_aret hm_149 dX11_needReached_40 h
          · intro hc
            rw [if_neg hc] at h
            refine zw_push hm_122 dX10_keeps_11 (v := .inr (.inr (some 75))) rfl ?_
            refine zw_push hm_122 dX10_keeps_12 (v := .inr (.inr (some c3))) rfl ?_
            refine zw_cv hm_122 dX10_keeps_13 v_10_54_10 hm_123 [.inr (.inr (some c3))] [] rfl (zT_rt hS1 s_75 rfl) ⟨by omega, by omega⟩ rfl ?_
            show ma_wp X ((d - 1) - 1) ((w - 21) - 21) 123 0 [(0, .inr (.inr (some 75))), (1, .inr (.inr (some c3)))] [] S1 _
            refine zw_push hm_123 dX10_colourOf_0 (v := .inr (.inr (some c3))) rfl ?_
            obtain ⟨hg, h⟩ := h
            refine zw_gf hm_123 dX10_colourOf_1 (v := .inl (mI S1 c3 0)) (zT_tis hS1 hg) (zT_tt hS1 hg) rfl f_10_58_9 rfl ?_
            refine zw_push hm_123 dX10_colourOf_4 (v := .inl (512 : Int32)) rfl ?_
            refine zw_if2 hm_123 dX10_colourOf_7 (t := 22) rfl zc2_ge ?_ ?_
            · intro hc
              rw [if_pos hc] at h
              refine zw_push hm_123 dX10_colourOf_22 (v := .inl (0 : Int32)) rfl ?_
              refine zw_iret hm_123 dX10_colourOf_23 ?_
              show ma_wp X (d - 1) (w - 21) 122 16 [(0, .inr (.inr (some 75))), (1, .inr (.inr (some c3)))] [.inl (0 : Int32)] S1 _
              refine zw_if0 hm_122 dX10_keeps_16 (t := 23) rfl zc0_eq (fun _ => ?_) (fun hc => absurd (by decide) hc)
              refine zw_push hm_122 dX10_keeps_23 (v := .inl (0 : Int32)) rfl ?_
              refine zw_bret hm_122 dX10_keeps_24 (by decide) ?_
              show ma_wp X d w 149 28 [(2, .inr (.inr (some c3))), (0, .inr (.inr (some 64))), (1, .inl n)] [.inl (0 : Int32)] S1 _
              refine zw_if0 hm_149 dX11_needReached_28 (t := 39) rfl zc0_ne (fun hc => absurd hc (by decide)) (fun _ => ?_)
              exact zw_thr hm_149 dX11_needReached_31 dX11_needReached_34 dX11_needReached_35 dX11_needReached_38 x_11_364_366 n_11_364 (by omega) (by show 0 + 81 ≤ w; omega) h
            · intro hc
              rw [if_neg hc] at h
              refine zw_push hm_123 dX10_colourOf_10 (v := .inr (.inr (some 75))) rfl ?_
              refine zw_gf hm_123 dX10_colourOf_11 (v := .inr (.inr (some 77))) (zT_is hS1 s_75) (zT_t hS1 s_75) rfl f_10_15_10 (zT_f hS1 r_75_2) ?_
              refine zw_push hm_123 dX10_colourOf_14 (v := .inr (.inr (some c3))) rfl ?_
              obtain ⟨hg, h⟩ := h
              refine zw_gf hm_123 dX10_colourOf_15 (v := .inl (mI S1 c3 0)) (zT_tis hS1 hg) (zT_tt hS1 hg) rfl f_10_58_9 rfl ?_
              obtain ⟨hg, h⟩ := h
              refine zw_ia hm_123 dX10_colourOf_18 (zT_is hS1 s_77) (zT_h hS1 s_77) rfl hg ?_
              show ma_wp X ((d - 1) - 1) ((w - 21) - 21) 123 19 [(0, .inr (.inr (some 75))), (1, .inr (.inr (some c3)))] [.inl (mI S1 77 (mI S1 c3 0).toNatClampNeg)] S1 _
              refine zw_goto hm_123 dX10_colourOf_19 (t := 23) rfl ?_
              refine zw_iret hm_123 dX10_colourOf_23 ?_
              show ma_wp X (d - 1) (w - 21) 122 16 [(0, .inr (.inr (some 75))), (1, .inr (.inr (some c3)))] [.inl (mI S1 77 (mI S1 c3 0).toNatClampNeg)] S1 _
              refine zw_if0 hm_122 dX10_keeps_16 (t := 23) rfl zc0_eq ?_ ?_
              · intro hc
                rw [if_pos hc] at h
                refine zw_push hm_122 dX10_keeps_23 (v := .inl (0 : Int32)) rfl ?_
                refine zw_bret hm_122 dX10_keeps_24 (by decide) ?_
                show ma_wp X d w 149 28 [(2, .inr (.inr (some c3))), (0, .inr (.inr (some 64))), (1, .inl n)] [.inl (0 : Int32)] S1 _
                refine zw_if0 hm_149 dX11_needReached_28 (t := 39) rfl zc0_ne (fun hc => absurd hc (by decide)) (fun _ => ?_)
                exact zw_thr hm_149 dX11_needReached_31 dX11_needReached_34 dX11_needReached_35 dX11_needReached_38 x_11_364_366 n_11_364 (by omega) (by show 0 + 81 ≤ w; omega) h
              · intro hc
                rw [if_neg hc] at h
                refine zw_push hm_122 dX10_keeps_19 (v := .inl (1 : Int32)) rfl ?_
                refine zw_goto hm_122 dX10_keeps_20 (t := 24) rfl ?_
                refine zw_bret hm_122 dX10_keeps_24 (by decide) ?_
                show ma_wp X d w 149 28 [(2, .inr (.inr (some c3))), (0, .inr (.inr (some 64))), (1, .inl n)] [.inl (1 : Int32)] S1 _
                refine zw_if0 hm_149 dX11_needReached_28 (t := 39) rfl zc0_ne (fun _ => ?_) (fun hc => absurd (by decide) hc)
                refine zw_push hm_149 dX11_needReached_39 (v := .inr (.inr (some c3))) rfl ?_
                exact zw_aret hm_149 dX11_needReached_40 h
  · intro x S9 hx
    exact ⟨by decide, hx⟩
theorem sp_149_64_s {X : Nat × (Nat → Int32)} {d w : Nat} {f : Nat → Nat → Int32} {r : Nat → Nat → Option Nat} {C Z N : Nat} {Q : Option ma_V ⊕ Nat → ma_S → Prop} {R : zRT} {a7 : Nat→Nat→Int32} {a8 : Nat→Nat→Int32} {S : ma_S} (n : Int32) (hd : 6 ≤ d) (hw : 89 ≤ w) (hI : zI f r C Z N S) (hpre0 : xB S R) (hpre1 : aS 75 S = a7) (hpre2 : aS 88 S = a8) (K : ∀ v S₉, zI f r C Z N S₉ → (∃ c, v = some c ∧ 126 ≤ c ∧ c < N) → (xB S₉ R) → (aS 88 S₉ = a8) → (v = zTa R n) → (zRq a7 n) → Q (.inl (some (.inr (.inr v)))) S₉) (KX : ∀ x S₉, (x = 4) → zI f r C Z N S₉ → (xB S₉ R) → (aS 88 S₉ = a8) → (x = 4 ∧ ¬ zRq a7 n) → Q (.inr x) (ma_bump S₉)) : ma_wp X d w 149 0 [(0, .inr (.inr (some 64))), (1, .inl n)] [] S Q := by
  refine g_149_64_s_0 n (by omega) (by omega) (zG_T hI) ?_
  refine sp_116_75_s (ab := (aS 75 S)) (R := R) (a8 := a8) (by omega) (by omega) hI (show xB S R from by first | (exact (xC_o (W := 75) hpre0).2)) (show aS 75 S = (aS 75 S) from by first | (exact rfl)) (show aS 88 S = a8 from by first | (exact (xC_o (W := 88) hpre0).1.trans hpre2)) (fun S1 hI_S1 rp0_S1 rp1_S1 rp2_S1 => zv_n ⟨zG_T hI_S1, ?_⟩)
  have rp0_S1 : xB S1 R := rp0_S1
  have rp1_S1 : aS 75 S1 = aSp 512 (aRo (aWh (aS 75 S) 0) 0) := rp1_S1
  have rp2_S1 : aS 88 S1 = a8 := rp2_S1
  have b1 := i_bd n
  have li2 : (0 : Int32).toInt = 0 := rfl
  refine zd (fun h3 => ?_) (fun h3 => ?_)
  · skip
    have g4 := i_lt h3
    exact KX 4 _ (by decide) hI_S1 (show xB S1 R from by first | (exact (xC_o (W := 75) rp0_S1).2)) (show aS 88 S1 = a8 from by first | (exact (xC_o (W := 88) rp0_S1).1.trans rp2_S1)) (show 4 = 4 ∧ ¬ zRq a7 n from by first | (refine ⟨rfl, ?_⟩; intro w; have w1 := w.1; have w2 := w.2.1; omega))
  · skip
    have g5 := i_nlt h3
    have li6 : (512 : Int32).toInt = 512 := rfl
    refine zd (fun h7 => ?_) (fun h7 => ?_)
    · skip
      have g8 := i_le h7
      exact KX 4 _ (by decide) hI_S1 (show xB S1 R from by first | (exact (xC_o (W := 75) rp0_S1).2)) (show aS 88 S1 = a8 from by first | (exact (xC_o (W := 88) rp0_S1).1.trans rp2_S1)) (show 4 = 4 ∧ ¬ zRq a7 n from by first | (refine ⟨rfl, ?_⟩; intro w; have w1 := w.1; have w2 := w.2.1; omega))
    · skip
      have g9 := i_nle h7
      refine ⟨i_ix (by omega) (by omega), ?_⟩
      refine ⟨fun hc => ?_, fun c3 hc => ?_⟩
      · skip
        have rn_c3 : zTa R n = none := (ta_rd (y := n) rp0_S1 (by omega) (by omega)).symm.trans hc
        exact KX 4 _ (by decide) hI_S1 (show xB S1 R from by first | (exact (xC_o (W := 75) rp0_S1).2)) (show aS 88 S1 = a8 from by first | (exact (xC_o (W := 88) rp0_S1).1.trans rp2_S1)) (show 4 = 4 ∧ ¬ zRq a7 n from by first | (refine ⟨rfl, ?_⟩; intro w; refine xB_nt (W := 75) hpre0 rn_c3 ?_; rw [hpre1]; exact ⟨w.1, w.2.1, w.2.2.1⟩))
      · skip
        have th_c3 := (fun _ z => zG_70 hI_S1 (c := 70) (by decide) z) c3 hc
        have rg_c3 : zTa R n = some c3 := (ta_rd (y := n) rp0_S1 (by omega) (by omega)).symm.trans hc
        refine ⟨zG_n hI_S1 th_c3, ?_⟩
        have f10 := zG_th hI_S1 th_c3
        have b11 := i_bd (mI S1 75 5)
        refine zd (fun h12 => ?_) (fun h12 => ?_)
        · skip
          have g13 := i_lt h12
          exact K ((some c3)) _ hI_S1 ⟨c3, rfl, th_c3⟩ (show xB S1 R from by first | (exact (xC_o (W := 75) rp0_S1).2)) (show aS 88 S1 = a8 from by first | (exact (xC_o (W := 88) rp0_S1).1.trans rp2_S1)) (show (some c3) = zTa R n from by first | (exact rg_c3.symm)) (show zRq a7 n from by first | (have ty := xB_th (W := 75) hpre0 rg_c3; have t1 := xB_th (W := 75) rp0_S1 rg_c3; have k5 : mI S1 75 5 = 0 := (aS_I (W := 75) (S := S1) (c := 75) (c₉ := 75) (k := 5) rfl rfl).symm.trans ((congrFun (congrFun rp1_S1 75) 5).trans aRA_5); have k5i := congrArg Int32.toInt k5; have k7 : mI S1 77 (mI S1 c3 0).toNatClampNeg = aRA a7 77 n.toNatClampNeg := (by rw [t1.2.2.1, ← hpre1]; exact (aS_I (W := 75) (S := S1) (c := 77) (c₉ := 77) (k := n.toNatClampNeg) rfl rfl).symm.trans (congrFun (congrFun rp1_S1 77) n.toNatClampNeg)); have k7i := congrArg Int32.toInt k7; have l5 : (0 : Int32).toInt = 0 := rfl; have a6 : a7 126 n.toNatClampNeg ≠ 0 := (by rw [← hpre1, ty.2.2.2.2.2.2.2.2]; decide); first | (exfalso; omega) | exact ⟨ty.1, ty.2.1, a6, fun w => by have w2 := congrArg Int32.toInt w; omega⟩))
        · skip
          have g14 := i_nlt h12
          refine ⟨zG_n hI_S1 th_c3, ?_⟩
          have f15 := zG_th hI_S1 th_c3
          refine zd (fun h16 => ?_) (fun h16 => ?_)
          · skip
            have g17 := i_le h16
            exact KX 4 _ (by decide) hI_S1 (show xB S1 R from by first | (exact (xC_o (W := 75) rp0_S1).2)) (show aS 88 S1 = a8 from by first | (exact (xC_o (W := 88) rp0_S1).1.trans rp2_S1)) (show 4 = 4 ∧ ¬ zRq a7 n from by first | (refine ⟨rfl, ?_⟩; have ty := xB_th (W := 75) hpre0 rg_c3; have t1 := xB_th (W := 75) rp0_S1 rg_c3; have k5 : mI S1 75 5 = 0 := (aS_I (W := 75) (S := S1) (c := 75) (c₉ := 75) (k := 5) rfl rfl).symm.trans ((congrFun (congrFun rp1_S1 75) 5).trans aRA_5); have k5i := congrArg Int32.toInt k5; have k7 : mI S1 77 (mI S1 c3 0).toNatClampNeg = aRA a7 77 n.toNatClampNeg := (by rw [t1.2.2.1, ← hpre1]; exact (aS_I (W := 75) (S := S1) (c := 77) (c₉ := 77) (k := n.toNatClampNeg) rfl rfl).symm.trans (congrFun (congrFun rp1_S1 77) n.toNatClampNeg)); have k7i := congrArg Int32.toInt k7; have l5 : (0 : Int32).toInt = 0 := rfl; have a6 : a7 126 n.toNatClampNeg ≠ 0 := (by rw [← hpre1, ty.2.2.2.2.2.2.2.2]; decide); first | (exfalso; omega) | (intro w; exact w.2.2.2 (Int32.toInt_inj.mp (by omega)))))
          · skip
            have g18 := i_nle h16
            refine ⟨zG_n hI_S1 th_c3, ?_⟩
            refine ⟨i_ix (by omega) (by omega), ?_⟩
            have b19 := i_bd (mI S1 77 (mI S1 c3 0).toNatClampNeg)
            refine zd (fun h20 => ?_) (fun h20 => ?_)
            · skip
              have g21 := i_eq h20
              exact KX 4 _ (by decide) hI_S1 (show xB S1 R from by first | (exact (xC_o (W := 75) rp0_S1).2)) (show aS 88 S1 = a8 from by first | (exact (xC_o (W := 88) rp0_S1).1.trans rp2_S1)) (show 4 = 4 ∧ ¬ zRq a7 n from by first | (refine ⟨rfl, ?_⟩; have ty := xB_th (W := 75) hpre0 rg_c3; have t1 := xB_th (W := 75) rp0_S1 rg_c3; have k5 : mI S1 75 5 = 0 := (aS_I (W := 75) (S := S1) (c := 75) (c₉ := 75) (k := 5) rfl rfl).symm.trans ((congrFun (congrFun rp1_S1 75) 5).trans aRA_5); have k5i := congrArg Int32.toInt k5; have k7 : mI S1 77 (mI S1 c3 0).toNatClampNeg = aRA a7 77 n.toNatClampNeg := (by rw [t1.2.2.1, ← hpre1]; exact (aS_I (W := 75) (S := S1) (c := 77) (c₉ := 77) (k := n.toNatClampNeg) rfl rfl).symm.trans (congrFun (congrFun rp1_S1 77) n.toNatClampNeg)); have k7i := congrArg Int32.toInt k7; have l5 : (0 : Int32).toInt = 0 := rfl; have a6 : a7 126 n.toNatClampNeg ≠ 0 := (by rw [← hpre1, ty.2.2.2.2.2.2.2.2]; decide); first | (exfalso; omega) | (intro w; exact w.2.2.2 (Int32.toInt_inj.mp (by omega)))))
            · skip
              have g22 := i_ne h20
              exact K ((some c3)) _ hI_S1 ⟨c3, rfl, th_c3⟩ (show xB S1 R from by first | (exact (xC_o (W := 75) rp0_S1).2)) (show aS 88 S1 = a8 from by first | (exact (xC_o (W := 88) rp0_S1).1.trans rp2_S1)) (show (some c3) = zTa R n from by first | (exact rg_c3.symm)) (show zRq a7 n from by first | (have ty := xB_th (W := 75) hpre0 rg_c3; have t1 := xB_th (W := 75) rp0_S1 rg_c3; have k5 : mI S1 75 5 = 0 := (aS_I (W := 75) (S := S1) (c := 75) (c₉ := 75) (k := 5) rfl rfl).symm.trans ((congrFun (congrFun rp1_S1 75) 5).trans aRA_5); have k5i := congrArg Int32.toInt k5; have k7 : mI S1 77 (mI S1 c3 0).toNatClampNeg = aRA a7 77 n.toNatClampNeg := (by rw [t1.2.2.1, ← hpre1]; exact (aS_I (W := 75) (S := S1) (c := 77) (c₉ := 77) (k := n.toNatClampNeg) rfl rfl).symm.trans (congrFun (congrFun rp1_S1 77) n.toNatClampNeg)); have k7i := congrArg Int32.toInt k7; have l5 : (0 : Int32).toInt = 0 := rfl; have a6 : a7 126 n.toNatClampNeg ≠ 0 := (by rw [← hpre1, ty.2.2.2.2.2.2.2.2]; decide); first | (exfalso; omega) | exact ⟨ty.1, ty.2.1, a6, fun w => by have w2 := congrArg Int32.toInt w; omega⟩))
/-! WHAT IS REACHED is no matter of what a walk's cells held before -/
section B8
variable {a b : Nat → Nat → Int32} {y n i : Int32} {m k c : Nat} {x : Int32}
theorem xu_s {c₉ k₉ : Nat} : ma_u a c₉ k₉ x c₉ k₉ = x := if_pos ⟨rfl, rfl⟩
theorem xu_o {c₉ k₉ : Nat} (h : ¬ (c = c₉ ∧ k = k₉)) : ma_u a c₉ k₉ x c k = a c k := if_neg h
def zOf (a b : Nat → Nat → Int32) : Prop := ∀ c k, c ≠ 75 → c ≠ 76 → c ≠ 77 → a c k = b c k
def zJJ (a b : Nat → Nat → Int32) : Prop := zOf a b ∧ (a 75 3 = b 75 3 ∧ a 75 4 = b 75 4 ∧ a 75 5 = b 75 5) ∧ (∀ k, k < 512 → a 77 k = b 77 k) ∧ (∀ k : Nat, (k : Int) < (a 75 4).toInt → a 76 k = b 76 k) ∧ 0 ≤ (a 75 3).toInt
theorem JJ_cc (h : zJJ a b) : aCc a y ↔ aCc b y := by
  obtain ⟨h1, h2, h3, _, _⟩ := h
  unfold aCc
  rw [h1 126 _ (by decide) (by decide) (by decide), h1 130 _ (by decide) (by decide) (by decide), h2.2.1, h2.2.2]
  constructor
  · intro w
    have := tn_cast w.1
    rw [← h3 y.toNatClampNeg (by omega)]
    exact w
  · intro w
    have := tn_cast w.1
    rw [h3 y.toNatClampNeg (by omega)]
    exact w
theorem JJ_cm (h : zJJ a b) : zJJ (aCm a y) (aCm b y) := by
  by_cases hc : aCc a y
  · have hc2 := (JJ_cc h).mp hc
    rw [aCm_y hc, aCm_y hc2]
    obtain ⟨h1, h2, h3, h4, h5⟩ := h
    have tl := hc.2.2.2.2.1
    have e1 : (a 75 4 + 1).toInt = (a 75 4).toInt + 1 := i_p1 (by omega)
    refine ⟨fun c k q1 q2 q3 => ?_, ⟨?_, ?_, ?_⟩, fun k hk => ?_, fun k hk => ?_, ?_⟩
    · rw [xu_o (fun w => q1 w.1), xu_o (fun w => q2 w.1), xu_o (fun w => q3 w.1), xu_o (fun w => q1 w.1), xu_o (fun w => q2 w.1), xu_o (fun w => q3 w.1)]
      exact h1 c k q1 q2 q3
    · rw [xu_o (by omega), xu_o (by omega), xu_o (by omega), xu_o (by omega), xu_o (by omega), xu_o (by omega)]
      exact h2.1
    · rw [xu_s, xu_s, h2.2.1]
    · rw [xu_o (by omega), xu_o (by omega), xu_o (by omega), xu_o (by omega), xu_o (by omega), xu_o (by omega)]
      exact h2.2.2
    · rw [xu_o (by omega), xu_o (by omega), xu_o (c₉ := 75) (by omega), xu_o (c₉ := 76) (by omega)]
      by_cases w : k = y.toNatClampNeg
      · rw [w, xu_s, xu_s]
      · rw [xu_o (fun q => w q.2), xu_o (fun q => w q.2)]
        exact h3 k hk
    · rw [xu_s, e1] at hk
      rw [xu_o (by omega), xu_o (c₉ := 75) (by omega)]
      by_cases w : k = (a 75 4).toNatClampNeg
      · rw [w, xu_s, h2.2.1, xu_s]
      · rw [xu_o (fun q => w q.2), xu_o (by omega), xu_o (fun q => w (by rw [h2.2.1]; exact q.2)), xu_o (by omega)]
        have := tn_cast (x := a 75 4) (by omega)
        exact h4 k (by omega)
    · rw [xu_o (by omega), xu_o (by omega), xu_o (by omega)]
      exact h5
  · rw [aCm_n hc, aCm_n (fun w => hc ((JJ_cc h).mpr w))]
    exact h
theorem Of_ref (h : zOf a b) : aRef a m i = aRef b m i := by
  by_cases hm : 1000 + m = 75 ∨ 1000 + m = 76 ∨ 1000 + m = 77
  · omega
  · unfold aRef
    rw [h (1000 + m) _ (by omega) (by omega) (by omega), h 130 _ (by decide) (by decide) (by decide), h 71 _ (by decide) (by decide) (by decide)]
theorem JJ_cwf : ∀ (f : Nat) (i : Int32) (a b : Nat → Nat → Int32), zJJ a b → zJJ (aCwf m f i a) (aCwf m f i b) := by
  intro f
  induction f with
  | zero => intro i a b h; exact h
  | succ f ih =>
    intro i a b h
    show zJJ (aCwf m f (i + 1) (aCm a (aRef a m i))) (aCwf m f (i + 1) (aCm b (aRef b m i)))
    rw [Of_ref h.1]
    exact ih _ _ _ (JJ_cm h)
theorem JJ_pop (h : zJJ a b) (hl : (a 75 3).toInt < (a 75 4).toInt) (ht : (a 75 4).toInt ≤ 512) : zJJ (aPop a) (aPop b) := by
  have h5 := h.2.2.2.2
  have e0 := tn_cast h5
  have eq : a 76 (a 75 3).toNatClampNeg = b 76 (b 75 3).toNatClampNeg := by
    rw [← h.2.1.1]
    exact h.2.2.2.1 _ (by omega)
  have e1 : (a 75 3 + 1).toInt = (a 75 3).toInt + 1 := i_p1 (by omega)
  have step : zJJ (ma_u a 75 3 (a 75 3 + 1)) (ma_u b 75 3 (b 75 3 + 1)) := by
    obtain ⟨h1, h2, h3, h4, h5⟩ := h
    refine ⟨fun c k q1 q2 q3 => ?_, ⟨?_, ?_, ?_⟩, fun k hk => ?_, fun k hk => ?_, ?_⟩
    · rw [xu_o (fun w => q1 w.1), xu_o (fun w => q1 w.1)]
      exact h1 c k q1 q2 q3
    · rw [xu_s, xu_s, h2.1]
    · rw [xu_o (by omega), xu_o (by omega)]
      exact h2.2.1
    · rw [xu_o (by omega), xu_o (by omega)]
      exact h2.2.2
    · rw [xu_o (by omega), xu_o (by omega)]
      exact h3 k hk
    · rw [xu_o (by omega)] at hk
      rw [xu_o (by omega), xu_o (by omega)]
      exact h4 k hk
    · rw [xu_s, e1]
      omega
  have col : ∀ z, zJJ (ma_u (ma_u a 75 3 (a 75 3 + 1)) 77 z 2) (ma_u (ma_u b 75 3 (b 75 3 + 1)) 77 z 2) := by
    intro z
    obtain ⟨h1, h2, h3, h4, h5⟩ := step
    refine ⟨fun c k q1 q2 q3 => ?_, ⟨?_, ?_, ?_⟩, fun k hk => ?_, fun k hk => ?_, ?_⟩
    · rw [xu_o (fun w => q3 w.1), xu_o (c₉ := 77) (fun w => q3 w.1)]
      exact h1 c k q1 q2 q3
    · rw [xu_o (by omega), xu_o (c₉ := 77) (by omega)]
      exact h2.1
    · rw [xu_o (by omega), xu_o (c₉ := 77) (by omega)]
      exact h2.2.1
    · rw [xu_o (by omega), xu_o (c₉ := 77) (by omega)]
      exact h2.2.2
    · by_cases w : k = z
      · rw [w, xu_s, xu_s]
      · rw [xu_o (fun q => w q.2), xu_o (c₉ := 77) (fun q => w q.2)]
        exact h3 k hk
    · rw [xu_o (by omega)] at hk
      rw [xu_o (by omega), xu_o (c₉ := 77) (by omega)]
      exact h4 k hk
    · rw [xu_o (by omega)]
      exact h5
  unfold aPop
  rw [← eq, h.1 126 _ (by decide) (by decide) (by decide)]
  split
  · unfold aCw
    rw [(col _).1 128 _ (by decide) (by decide) (by decide)]
    exact JJ_cwf _ _ _ _ (col _)
  · exact step
end B8

/-! from 95.g27 -/
/-! the heap by numbers, the class (written by wip/tools/gen18.py) -/
section B9
variable {a b : Nat → Nat → Int32} {y n i : Int32} {m k c : Nat} {x : Int32}
def xTl (a : Nat → Nat → Int32) : Prop := (a 75 4).toInt ≤ 512
theorem tl_cm (h : xTl a) : xTl (aCm a y) := by
  by_cases hc : aCc a y
  · rw [aCm_y hc]
    unfold xTl
    rw [xu_s, i_p1 (by have := hc.2.2.2.2.1; omega)]
    have := hc.2.2.2.2.1
    omega
  · rw [aCm_n hc]
    exact h
theorem tl_cwf : ∀ (f : Nat) (i : Int32) (a : Nat → Nat → Int32), xTl a → xTl (aCwf m f i a) := by
  intro f
  induction f with
  | zero => intro i a h; exact h
  | succ f ih =>
    intro i a h
    exact ih _ _ (tl_cm h)
theorem tl_pop (h : xTl a) : xTl (aPop a) := by
  have s : xTl (ma_u a 75 3 (a 75 3 + 1)) := by
    unfold xTl
    rw [xu_o (by omega)]
    exact h
  unfold aPop
  split
  · refine tl_cwf _ _ _ ?_
    unfold xTl
    rw [xu_o (by omega)]
    exact s
  · exact s
theorem JJ_sp : ∀ (f : Nat) (a b : Nat → Nat → Int32), zJJ a b → xTl a → zJJ (aSp f a) (aSp f b) := by
  intro f
  induction f with
  | zero => intro a b h _; exact h
  | succ f ih =>
    intro a b h ht
    show zJJ (if (a 75 3).toInt < (a 75 4).toInt then aSp f (aPop a) else a) (if (b 75 3).toInt < (b 75 4).toInt then aSp f (aPop b) else b)
    rw [← h.2.1.1, ← h.2.1.2.1]
    by_cases hl : (a 75 3).toInt < (a 75 4).toInt
    · rw [if_pos hl, if_pos hl]
      exact ih _ _ (JJ_pop h hl ht) (tl_pop ht)
    · rw [if_neg hl, if_neg hl]
      exact h
theorem JJ_hf : ∀ (f : Nat) (n : Int32) (a b : Nat → Nat → Int32), zJJ a b → xTl a → zJJ (aHf f n a) (aHf f n b) ∧ xTl (aHf f n a) := by
  intro f
  induction f with
  | zero => intro n a b h t; exact ⟨h, t⟩
  | succ f ih =>
    intro n a b h t
    show zJJ (aHf f (n + 1) (if 0 ≤ n.toInt ∧ n.toInt < 512 ∧ a 126 n.toNatClampNeg ≠ 0 ∧ 0 < (a 133 n.toNatClampNeg).toInt then aCm a n else a)) (aHf f (n + 1) (if 0 ≤ n.toInt ∧ n.toInt < 512 ∧ b 126 n.toNatClampNeg ≠ 0 ∧ 0 < (b 133 n.toNatClampNeg).toInt then aCm b n else b)) ∧ xTl (aHf f (n + 1) (if 0 ≤ n.toInt ∧ n.toInt < 512 ∧ a 126 n.toNatClampNeg ≠ 0 ∧ 0 < (a 133 n.toNatClampNeg).toInt then aCm a n else a))
    rw [← h.1 126 _ (by decide) (by decide) (by decide), ← h.1 133 _ (by decide) (by decide) (by decide)]
    split
    · exact ih _ _ _ (JJ_cm h) (tl_cm t)
    · exact ih _ _ _ h t
theorem JJ_wf : ∀ (f : Nat) (n : Int32) (a b : Nat → Nat → Int32), zJJ a b → xTl a → zJJ (aWf f n a) (aWf f n b) ∧ xTl (aWf f n a) := by
  intro f
  induction f with
  | zero =>
    intro n a b h t
    show zJJ (aHo a 0) (aHo b 0) ∧ xTl (aHo a 0)
    unfold aHo
    rw [← h.1 69 6 (by decide) (by decide) (by decide)]
    exact JJ_hf _ _ _ _ h t
  | succ f ih =>
    intro n a b h t
    show zJJ (aWf f (n + 1) (aCm a (a 74 n.toNatClampNeg))) (aWf f (n + 1) (aCm b (b 74 n.toNatClampNeg))) ∧ xTl (aWf f (n + 1) (aCm a (a 74 n.toNatClampNeg)))
    rw [← h.1 74 _ (by decide) (by decide) (by decide)]
    exact ih _ _ _ (JJ_cm h) (tl_cm t)
theorem JJ_rf : ∀ (f : Nat) (n : Int32) (a b : Nat → Nat → Int32), zJJ a b → xTl a → zJJ (aRf f n a) (aRf f n b) ∧ xTl (aRf f n a) := by
  intro f
  induction f with
  | zero =>
    intro n a b h t
    show zJJ (aWi a 0) (aWi b 0) ∧ xTl (aWi a 0)
    unfold aWi
    rw [← h.1 69 5 (by decide) (by decide) (by decide)]
    exact JJ_wf _ _ _ _ h t
  | succ f ih =>
    intro n a b h t
    show zJJ (aRf f (n + 1) (aCm a (a 72 n.toNatClampNeg))) (aRf f (n + 1) (aCm b (b 72 n.toNatClampNeg))) ∧ xTl (aRf f (n + 1) (aCm a (a 72 n.toNatClampNeg)))
    rw [← h.1 72 _ (by decide) (by decide) (by decide)]
    exact ih _ _ _ (JJ_cm h) (tl_cm t)
theorem JJ_wh (h : zOf a b) : zJJ (aWh a 0) (aWh b 0) ∧ xTl (aWh a 0) := by
  have r3 : ∀ q : Nat → Nat → Int32, aWh q 0 75 3 = 0 := fun q => by
    unfold aWh
    rw [xu_o (by omega), xu_o (by omega), xu_s]
  have r4 : ∀ q : Nat → Nat → Int32, aWh q 0 75 4 = 0 := fun q => by
    unfold aWh
    rw [xu_o (by omega), xu_s]
  have r5 : ∀ q : Nat → Nat → Int32, aWh q 0 75 5 = 0 := fun q => by
    unfold aWh
    rw [xu_s]
  have ro : ∀ (q : Nat → Nat → Int32) c k, c ≠ 75 → aWh q 0 c k = zFl q 77 0 512 c k := fun q c k w => by
    unfold aWh
    rw [xu_o (fun z => w z.1), xu_o (fun z => w z.1), xu_o (fun z => w z.1)]
  refine ⟨⟨fun c k q1 q2 q3 => ?_, ⟨?_, ?_, ?_⟩, fun k hk => ?_, fun k hk => ?_, ?_⟩, ?_⟩
  · rw [ro _ _ _ q1, ro _ _ _ q1]
    unfold zFl
    rw [if_neg (fun z => q3 z.1), if_neg (fun z => q3 z.1)]
    exact h c k q1 q2 q3
  · rw [r3, r3]
  · rw [r4, r4]
  · rw [r5, r5]
  · rw [ro _ _ _ (by decide), ro _ _ _ (by decide)]
    unfold zFl
    rw [if_pos ⟨rfl, by omega⟩, if_pos ⟨rfl, by omega⟩]
  · rw [r4] at hk
    have : (0 : Int32).toInt = 0 := rfl
    omega
  · rw [r3]
    decide
  · unfold xTl
    rw [r4]
    decide
theorem Of_RA (h : zOf a b) : zJJ (aRA a) (aRA b) := by
  have w := JJ_wh h
  have r := JJ_rf (16 - (0 : Int32).toInt).toNat 0 _ _ w.1 w.2
  exact JJ_sp 512 _ _ r.1 r.2
theorem Of_Rq (h : zOf a b) : zRq a n ↔ zRq b n := by
  unfold zRq
  rw [h 126 _ (by decide) (by decide) (by decide)]
  constructor
  · intro w
    have := tn_cast w.1
    rw [← (Of_RA h).2.2.1 _ (by omega)]
    exact w
  · intro w
    have := tn_cast w.1
    rw [(Of_RA h).2.2.1 _ (by omega)]
    exact w
theorem Of_S {S : ma_S} : zOf (aS 75 S) (aS 88 S) := fun _ _ h1 h2 h3 => aS_W ⟨h1, h2, h3⟩
theorem Rq_S {S : ma_S} : zRq (aS 75 S) n ↔ zRq (aS 88 S) n := Of_Rq Of_S
end B9
/-! THE CALLS -/
def zHw (a : Nat → Nat → Int32) (n i : Int32) : Prop := 0 ≤ i.toInt ∧ i.toInt < (a 128 n.toNatClampNeg).toInt - 1
def zIr (a : Nat → Nat → Int32) (n i : Int32) : Prop := a (1000 + n.toNatClampNeg) i.toNatClampNeg ≠ 0
section B10
variable {a : Nat → Nat → Int32} {n i y : Int32} {S S1 : ma_S} {R : zRT} {c : Nat}
theorem rq_up (h : zRq (aS 75 S) n) (e : aS 88 S = a) : zRq a n := by
  rw [← e]
  exact Rq_S.mp h
theorem rq_no (h : ¬ zRq (aS 75 S) n) (e : aS 88 S = a) : ¬ zRq a n := by
  rw [← e]
  exact fun w => h (Rq_S.mpr w)
theorem ir_y (hC : xB S R) (rg : zTa R n = some c) (e : aS 88 S = a) (hi : 0 ≤ i.toInt) (hb : ¬ lg_cmp (((mL S c 3).toUInt64 >>> (i.toInt64.toUInt64 &&& Int64.toUInt64 63)).toInt64 &&& (1 : Int64)) (0 : Int64) = 0) : zIr a n i := by
  unfold zIr
  rw [← e, rf_bit hC rg hi]
  unfold zbit
  rw [if_neg hb]
  decide
theorem ir_n (hC : xB S R) (rg : zTa R n = some c) (e : aS 88 S = a) (hi : 0 ≤ i.toInt) (hb : lg_cmp (((mL S c 3).toUInt64 >>> (i.toInt64.toUInt64 &&& Int64.toUInt64 63)).toInt64 &&& (1 : Int64)) (0 : Int64) = 0) : ¬ zIr a n i := by
  unfold zIr
  rw [← e, rf_bit hC rg hi]
  unfold zbit
  rw [if_pos hb]
  exact fun w => w rfl
end B10
theorem g_151_64_s_0 {X : Nat × (Nat → Int32)} {d w : Nat} {S : ma_S} {Q : Option ma_V ⊕ Nat → ma_S → Prop} (n : Int32) (hd : 7 ≤ d) (hw : 111 ≤ w) (hS : zT S) (h : if n = (-1 : Int32) then (Q (.inl (some (.inr (.inr none)))) S) else (ma_wp X (d - 1) (w - 22) 149 0 [(0, .inr (.inr (some 64))), (1, .inl n)] [] S (zo (fun v2 S1 => zT S1 ∧ ((∃ c3, v2 = some c3 ∧ (Q (.inl (some (.inr (.inr (some c3))))) S1)))) (fun x S9 => Q (.inr x) S9)))) : ma_wp X d w 151 0 [(0, .inr (.inr (some 64))), (1, .inl n)] [] S Q := by
  refine zw_push hm_151 dX11_needReachedOrNothing_0 (v := .inl n) rfl ?_
  refine zw_push hm_151 dX11_needReachedOrNothing_1 (v := .inl (-1 : Int32)) rfl ?_
  refine zw_if2 hm_151 dX11_needReachedOrNothing_2 (t := 9) rfl zc2_ne ?_ ?_
  · intro hc
    rw [if_neg hc] at h
    refine zw_push hm_151 dX11_needReachedOrNothing_9 (v := .inr (.inr (some 64))) rfl ?_
    refine zw_push hm_151 dX11_needReachedOrNothing_10 (v := .inl n) rfl ?_
    refine zw_cv hm_151 dX11_needReachedOrNothing_11 v_11_123_11 hm_149 [.inl n] [] rfl (zT_rt hS s_64 rfl) ⟨by omega, by omega⟩ rfl (zw_mono h (zo_go ?_ ?_))
    · intro v2 S1 hv
      obtain ⟨hS1, h⟩ := hv
      obtain ⟨c3, hc, h⟩ := h
      subst hc
      show ma_wp X d w 151 14 [(0, .inr (.inr (some 64))), (1, .inl n)] [.inr (.inr (some c3))] S1 _
      exact zw_aret hm_151 dX11_needReachedOrNothing_14 h
    · intro x S9 hx
      exact ⟨by decide, hx⟩
  · intro hc
    rw [if_pos (Classical.not_not.mp hc)] at h
    refine zw_push hm_151 dX11_needReachedOrNothing_5 (v := .inr (.inr none)) rfl ?_
    refine zw_goto hm_151 dX11_needReachedOrNothing_6 (t := 14) rfl ?_
    exact zw_aret hm_151 dX11_needReachedOrNothing_14 h
theorem sp_151_64_s {X : Nat × (Nat → Int32)} {d w : Nat} {f : Nat → Nat → Int32} {r : Nat → Nat → Option Nat} {C Z N : Nat} {Q : Option ma_V ⊕ Nat → ma_S → Prop} {R : zRT} {a7 : Nat→Nat→Int32} {a8 : Nat→Nat→Int32} {S : ma_S} (n : Int32) (hd : 7 ≤ d) (hw : 111 ≤ w) (hI : zI f r C Z N S) (hpre0 : xB S R) (hpre1 : aS 75 S = a7) (hpre2 : aS 88 S = a8) (K : ∀ v S₉, zI f r C Z N S₉ → (∀ c, v = some c → 126 ≤ c ∧ c < N) → (xB S₉ R) → (aS 88 S₉ = a8) → (v = zTa R n) → (n = -1 ∨ zRq a7 n) → Q (.inl (some (.inr (.inr v)))) S₉) (KX : ∀ x S₉, (x = 4) → zI f r C Z N S₉ → (xB S₉ R) → (aS 88 S₉ = a8) → (x = 4 ∧ n ≠ -1 ∧ ¬ zRq a7 n) → Q (.inr x) (ma_bump S₉)) : ma_wp X d w 151 0 [(0, .inr (.inr (some 64))), (1, .inl n)] [] S Q := by
  refine g_151_64_s_0 n (by omega) (by omega) (zG_T hI) ?_
  have b1 := i_bd n
  have li2 : (-1 : Int32).toInt = -1 := rfl
  refine zd (fun h3 => ?_) (fun h3 => ?_)
  · skip
    have g4 := i_eq h3
    exact K (none) _ hI (fun _ z => by cases z) (show xB S R from by first | (exact (xC_o (W := 75) hpre0).2)) (show aS 88 S = a8 from by first | (exact (xC_o (W := 88) hpre0).1.trans hpre2)) (show none = zTa R n from by first | (rw [show n = -1 from by assumption]; exact ta_m1)) (show n = -1 ∨ zRq a7 n from by first | (exact Or.inl (by assumption)))
  · skip
    have g5 := i_ne h3
    refine sp_149_64_s (R := R) (a7 := (aS 75 S)) (a8 := a8) (n) (by omega) (by omega) hI (show xB S R from by first | (exact (xC_o (W := 75) hpre0).2)) (show aS 75 S = (aS 75 S) from by first | (exact rfl)) (show aS 88 S = a8 from by first | (exact (xC_o (W := 88) hpre0).1.trans hpre2)) (fun v2 S1 hI_S1 hq_v2 rp0_S1 rp1_S1 rp2_S1 rp3_S1 => zo_n ⟨zG_T hI_S1, ?_⟩) (fun x S9 hx h9 rx0 rx1 rx2 => by have h9u := h9; exact zo_x (KX x S9 (by omega) h9u (show xB S9 R from by first | (exact (xC_o (W := 75) rx0).2)) (show aS 88 S9 = a8 from by first | (exact (xC_o (W := 88) rx0).1.trans rx1)) (show x = 4 ∧ n ≠ -1 ∧ ¬ zRq a7 n from by first | (exact ⟨rx2.1, by assumption, hpre1 ▸ rx2.2⟩))))
    have rp0_S1 : xB S1 R := rp0_S1
    have rp1_S1 : aS 88 S1 = a8 := rp1_S1
    have rp2_S1 : v2 = zTa R n := rp2_S1
    have rp3_S1 : zRq (aS 75 S) n := rp3_S1
    obtain ⟨c3, hc, th_c3⟩ := hq_v2
    have rg_c3 : zTa R n = some c3 := rp2_S1.symm.trans hc
    refine ⟨c3, hc, ?_⟩
    exact K ((some c3)) _ hI_S1 (fun _ z => by cases z; exact th_c3) (show xB S1 R from by first | (exact (xC_o (W := 75) rp0_S1).2)) (show aS 88 S1 = a8 from by first | (exact (xC_o (W := 88) rp0_S1).1.trans rp1_S1)) (show (some c3) = zTa R n from by first | (exact rg_c3.symm)) (show n = -1 ∨ zRq a7 n from by first | (rw [hpre1] at *; exact Or.inr rp3_S1) | (exact Or.inr (hpre1 ▸ rp3_S1)))

