/-! from 95.i18 -/
/-! the class opens a heap (written by wip/tools/gen18c.py) -/
theorem g_131_64_13_sq_0 {X : Nat × (Nat → Int32)} {d w : Nat} {S : ma_S} {Q : Option ma_V ⊕ Nat → ma_S → Prop}  (hd : 5 ≤ d) (hw : 100 ≤ w) (hS : zT S) (h : if ((mI S 64 3) - (mI S 64 2)) = (5 : Int32) then (if (100 : Int32) ≤ ((mI S 64 2) + (0 : Int32)) then (Q (.inl (some (.inl (1 : Int32)))) S) else ((0 ≤ ((mI S 64 2) + (0 : Int32)) ∧ ((mI S 64 2) + (0 : Int32)).toNatClampNeg < 100) ∧ (if (mI S 65 ((mI S 64 2) + (0 : Int32)).toNatClampNeg) = (102 : Int32) then (if (100 : Int32) ≤ ((mI S 64 2) + (1 : Int32)) then (Q (.inl (some (.inl (1 : Int32)))) S) else ((0 ≤ ((mI S 64 2) + (1 : Int32)) ∧ ((mI S 64 2) + (1 : Int32)).toNatClampNeg < 100) ∧ (if (mI S 65 ((mI S 64 2) + (1 : Int32)).toNatClampNeg) = (105 : Int32) then (if (100 : Int32) ≤ ((mI S 64 2) + (2 : Int32)) then (Q (.inl (some (.inl (1 : Int32)))) S) else ((0 ≤ ((mI S 64 2) + (2 : Int32)) ∧ ((mI S 64 2) + (2 : Int32)).toNatClampNeg < 100) ∧ (if (mI S 65 ((mI S 64 2) + (2 : Int32)).toNatClampNeg) = (114 : Int32) then (if (100 : Int32) ≤ ((mI S 64 2) + (3 : Int32)) then (Q (.inl (some (.inl (1 : Int32)))) S) else ((0 ≤ ((mI S 64 2) + (3 : Int32)) ∧ ((mI S 64 2) + (3 : Int32)).toNatClampNeg < 100) ∧ (if (mI S 65 ((mI S 64 2) + (3 : Int32)).toNatClampNeg) = (115 : Int32) then (if (100 : Int32) ≤ ((mI S 64 2) + (4 : Int32)) then (Q (.inl (some (.inl (1 : Int32)))) S) else ((0 ≤ ((mI S 64 2) + (4 : Int32)) ∧ ((mI S 64 2) + (4 : Int32)).toNatClampNeg < 100) ∧ (if (mI S 65 ((mI S 64 2) + (4 : Int32)).toNatClampNeg) = (116 : Int32) then (Q (.inl (some (.inl (1 : Int32)))) S) else (Q (.inl (some (.inl (0 : Int32)))) S)))) else (Q (.inl (some (.inl (0 : Int32)))) S)))) else (Q (.inl (some (.inl (0 : Int32)))) S)))) else (Q (.inl (some (.inl (0 : Int32)))) S)))) else (Q (.inl (some (.inl (0 : Int32)))) S)))) else (Q (.inl (some (.inl (0 : Int32)))) S)) : ma_wp X d w 131 0 [(0, .inr (.inr (some 64))), (1, .inr (.inr (some 13)))] [] S Q := by
  refine zw_push hm_131 dX11_tokenIs_0 (v := .inr (.inr (some 64))) rfl ?_
  refine zw_gf hm_131 dX11_tokenIs_1 (v := .inl (mI S 64 3)) (zT_is hS s_64) (zT_t hS s_64) rfl f_11_275_11 rfl ?_
  refine zw_push hm_131 dX11_tokenIs_4 (v := .inr (.inr (some 64))) rfl ?_
  refine zw_gf hm_131 dX11_tokenIs_5 (v := .inl (mI S 64 2)) (zT_is hS s_64) (zT_t hS s_64) rfl f_11_92_11 rfl ?_
  refine zw_stk hm_131 dX11_tokenIs_8 (st₉ := [.inl ((mI S 64 3) - (mI S 64 2))]) rfl rfl ?_
  refine zw_push hm_131 dX11_tokenIs_9 (v := .inr (.inr (some 13))) rfl ?_
  refine zw_cv hm_131 dX11_tokenIs_10 v_11_288_17 hm_277 [] [.inl ((mI S 64 3) - (mI S 64 2))] rfl rfl ⟨by omega, by omega⟩ rfl (tx_len (v := (5 : Int32)) (by decide) (by omega) (by omega) rfl rfl ?_)
  show ma_wp X d w 131 13 [(0, .inr (.inr (some 64))), (1, .inr (.inr (some 13)))] [.inl (5 : Int32), .inl ((mI S 64 3) - (mI S 64 2))] S _
  refine zw_if2 hm_131 dX11_tokenIs_13 (t := 18) rfl zc2_eq ?_ ?_
  · intro hc
    rw [if_pos hc] at h
    refine zw_push hm_131 dX11_tokenIs_18 (v := .inl (0 : Int32)) rfl ?_
    refine zw_sto hm_131 dX11_tokenIs_19 [(2, .inl (0 : Int32)), (0, .inr (.inr (some 64))), (1, .inr (.inr (some 13)))] rfl rfl rfl ?_
    refine zw_push hm_131 dX11_tokenIs_20 (v := .inl (0 : Int32)) rfl ?_
    refine zw_push hm_131 dX11_tokenIs_21 (v := .inr (.inr (some 13))) rfl ?_
    refine zw_cv hm_131 dX11_tokenIs_22 v_11_288_17 hm_277 [] [.inl (0 : Int32)] rfl rfl ⟨by omega, by omega⟩ rfl (tx_len (v := (5 : Int32)) (by decide) (by omega) (by omega) rfl rfl ?_)
    show ma_wp X d w 131 25 [(2, .inl (0 : Int32)), (0, .inr (.inr (some 64))), (1, .inr (.inr (some 13)))] [.inl (5 : Int32), .inl (0 : Int32)] S _
    refine zw_if2 hm_131 dX11_tokenIs_25 (t := 66) rfl zc2_ge (fun hc => absurd hc (by decide)) (fun _ => ?_)
    refine zw_push hm_131 dX11_tokenIs_28 (v := .inr (.inr (some 64))) rfl ?_
    refine zw_gf hm_131 dX11_tokenIs_29 (v := .inl (mI S 64 2)) (zT_is hS s_64) (zT_t hS s_64) rfl f_11_92_11 rfl ?_
    refine zw_push hm_131 dX11_tokenIs_32 (v := .inl (0 : Int32)) rfl ?_
    refine zw_stk hm_131 dX11_tokenIs_33 (st₉ := [.inl ((mI S 64 2) + (0 : Int32))]) rfl rfl ?_
    refine zw_push hm_131 dX11_tokenIs_34 (v := .inl (100 : Int32)) rfl ?_
    refine zw_if2 hm_131 dX11_tokenIs_36 (t := 66) rfl zc2_ge ?_ ?_
    · intro hc
      rw [if_pos hc] at h
      refine zw_push hm_131 dX11_tokenIs_66 (v := .inl (1 : Int32)) rfl ?_
      exact zw_bret hm_131 dX11_tokenIs_67 (by decide) h
    · intro hc
      rw [if_neg hc] at h
      refine zw_push hm_131 dX11_tokenIs_39 (v := .inr (.inr (some 64))) rfl ?_
      refine zw_gf hm_131 dX11_tokenIs_40 (v := .inr (.inr (some 65))) (zT_is hS s_64) (zT_t hS s_64) rfl f_11_9_11 (zT_f hS r_64_0) ?_
      refine zw_push hm_131 dX11_tokenIs_43 (v := .inr (.inr (some 64))) rfl ?_
      refine zw_gf hm_131 dX11_tokenIs_44 (v := .inl (mI S 64 2)) (zT_is hS s_64) (zT_t hS s_64) rfl f_11_92_11 rfl ?_
      refine zw_push hm_131 dX11_tokenIs_47 (v := .inl (0 : Int32)) rfl ?_
      refine zw_stk hm_131 dX11_tokenIs_48 (st₉ := [.inl ((mI S 64 2) + (0 : Int32)), .inr (.inr (some 65))]) rfl rfl ?_
      obtain ⟨hg, h⟩ := h
      refine zw_ba hm_131 dX11_tokenIs_49 (zT_is hS s_65) (zT_h hS s_65) rfl rfl hg ?_
      show ma_wp X d w 131 50 [(2, .inl (0 : Int32)), (0, .inr (.inr (some 64))), (1, .inr (.inr (some 13)))] [.inl (mI S 65 ((mI S 64 2) + (0 : Int32)).toNatClampNeg)] S _
      refine zw_push hm_131 dX11_tokenIs_50 (v := .inr (.inr (some 13))) rfl ?_
      refine zw_push hm_131 dX11_tokenIs_51 (v := .inl (0 : Int32)) rfl ?_
      refine zw_cv hm_131 dX11_tokenIs_52 v_11_293_17 hm_279 [.inl (0 : Int32)] [.inl (mI S 65 ((mI S 64 2) + (0 : Int32)).toNatClampNeg)] rfl rfl ⟨by omega, by omega⟩ rfl (tx_char (v := (102 : Int32)) (by decide) (by omega) (by omega) (by decide) (by decide) (by decide) (by decide) ?_)
      show ma_wp X d w 131 55 [(2, .inl (0 : Int32)), (0, .inr (.inr (some 64))), (1, .inr (.inr (some 13)))] [.inl (102 : Int32), .inl (mI S 65 ((mI S 64 2) + (0 : Int32)).toNatClampNeg)] S _
      refine zw_if2 hm_131 dX11_tokenIs_55 (t := 60) rfl zc2_eq ?_ ?_
      · intro hc
        rw [if_pos hc] at h
        refine zw_sto hm_131 dX11_tokenIs_60 [(2, .inl (1 : Int32)), (0, .inr (.inr (some 64))), (1, .inr (.inr (some 13)))] rfl rfl rfl ?_
        refine zw_goto hm_131 dX11_tokenIs_63 (t := 20) rfl ?_
        refine zw_push hm_131 dX11_tokenIs_20 (v := .inl (1 : Int32)) rfl ?_
        refine zw_push hm_131 dX11_tokenIs_21 (v := .inr (.inr (some 13))) rfl ?_
        refine zw_cv hm_131 dX11_tokenIs_22 v_11_288_17 hm_277 [] [.inl (1 : Int32)] rfl rfl ⟨by omega, by omega⟩ rfl (tx_len (v := (5 : Int32)) (by decide) (by omega) (by omega) rfl rfl ?_)
        show ma_wp X d w 131 25 [(2, .inl (1 : Int32)), (0, .inr (.inr (some 64))), (1, .inr (.inr (some 13)))] [.inl (5 : Int32), .inl (1 : Int32)] S _
        refine zw_if2 hm_131 dX11_tokenIs_25 (t := 66) rfl zc2_ge (fun hc => absurd hc (by decide)) (fun _ => ?_)
        refine zw_push hm_131 dX11_tokenIs_28 (v := .inr (.inr (some 64))) rfl ?_
        refine zw_gf hm_131 dX11_tokenIs_29 (v := .inl (mI S 64 2)) (zT_is hS s_64) (zT_t hS s_64) rfl f_11_92_11 rfl ?_
        refine zw_push hm_131 dX11_tokenIs_32 (v := .inl (1 : Int32)) rfl ?_
        refine zw_stk hm_131 dX11_tokenIs_33 (st₉ := [.inl ((mI S 64 2) + (1 : Int32))]) rfl rfl ?_
        refine zw_push hm_131 dX11_tokenIs_34 (v := .inl (100 : Int32)) rfl ?_
        refine zw_if2 hm_131 dX11_tokenIs_36 (t := 66) rfl zc2_ge ?_ ?_
        · intro hc
          rw [if_pos hc] at h
          refine zw_push hm_131 dX11_tokenIs_66 (v := .inl (1 : Int32)) rfl ?_
          exact zw_bret hm_131 dX11_tokenIs_67 (by decide) h
        · intro hc
          rw [if_neg hc] at h
          refine zw_push hm_131 dX11_tokenIs_39 (v := .inr (.inr (some 64))) rfl ?_
          refine zw_gf hm_131 dX11_tokenIs_40 (v := .inr (.inr (some 65))) (zT_is hS s_64) (zT_t hS s_64) rfl f_11_9_11 (zT_f hS r_64_0) ?_
          refine zw_push hm_131 dX11_tokenIs_43 (v := .inr (.inr (some 64))) rfl ?_
          refine zw_gf hm_131 dX11_tokenIs_44 (v := .inl (mI S 64 2)) (zT_is hS s_64) (zT_t hS s_64) rfl f_11_92_11 rfl ?_
          refine zw_push hm_131 dX11_tokenIs_47 (v := .inl (1 : Int32)) rfl ?_
          refine zw_stk hm_131 dX11_tokenIs_48 (st₉ := [.inl ((mI S 64 2) + (1 : Int32)), .inr (.inr (some 65))]) rfl rfl ?_
          obtain ⟨hg, h⟩ := h
          refine zw_ba hm_131 dX11_tokenIs_49 (zT_is hS s_65) (zT_h hS s_65) rfl rfl hg ?_
          show ma_wp X d w 131 50 [(2, .inl (1 : Int32)), (0, .inr (.inr (some 64))), (1, .inr (.inr (some 13)))] [.inl (mI S 65 ((mI S 64 2) + (1 : Int32)).toNatClampNeg)] S _
          refine zw_push hm_131 dX11_tokenIs_50 (v := .inr (.inr (some 13))) rfl ?_
          refine zw_push hm_131 dX11_tokenIs_51 (v := .inl (1 : Int32)) rfl ?_
          refine zw_cv hm_131 dX11_tokenIs_52 v_11_293_17 hm_279 [.inl (1 : Int32)] [.inl (mI S 65 ((mI S 64 2) + (1 : Int32)).toNatClampNeg)] rfl rfl ⟨by omega, by omega⟩ rfl (tx_char (v := (105 : Int32)) (by decide) (by omega) (by omega) (by decide) (by decide) (by decide) (by decide) ?_)
          show ma_wp X d w 131 55 [(2, .inl (1 : Int32)), (0, .inr (.inr (some 64))), (1, .inr (.inr (some 13)))] [.inl (105 : Int32), .inl (mI S 65 ((mI S 64 2) + (1 : Int32)).toNatClampNeg)] S _
          refine zw_if2 hm_131 dX11_tokenIs_55 (t := 60) rfl zc2_eq ?_ ?_
          · intro hc
            rw [if_pos hc] at h
            refine zw_sto hm_131 dX11_tokenIs_60 [(2, .inl (2 : Int32)), (0, .inr (.inr (some 64))), (1, .inr (.inr (some 13)))] rfl rfl rfl ?_
            refine zw_goto hm_131 dX11_tokenIs_63 (t := 20) rfl ?_
            refine zw_push hm_131 dX11_tokenIs_20 (v := .inl (2 : Int32)) rfl ?_
            refine zw_push hm_131 dX11_tokenIs_21 (v := .inr (.inr (some 13))) rfl ?_
            refine zw_cv hm_131 dX11_tokenIs_22 v_11_288_17 hm_277 [] [.inl (2 : Int32)] rfl rfl ⟨by omega, by omega⟩ rfl (tx_len (v := (5 : Int32)) (by decide) (by omega) (by omega) rfl rfl ?_)
            show ma_wp X d w 131 25 [(2, .inl (2 : Int32)), (0, .inr (.inr (some 64))), (1, .inr (.inr (some 13)))] [.inl (5 : Int32), .inl (2 : Int32)] S _
            refine zw_if2 hm_131 dX11_tokenIs_25 (t := 66) rfl zc2_ge (fun hc => absurd hc (by decide)) (fun _ => ?_)
            refine zw_push hm_131 dX11_tokenIs_28 (v := .inr (.inr (some 64))) rfl ?_
            refine zw_gf hm_131 dX11_tokenIs_29 (v := .inl (mI S 64 2)) (zT_is hS s_64) (zT_t hS s_64) rfl f_11_92_11 rfl ?_
            refine zw_push hm_131 dX11_tokenIs_32 (v := .inl (2 : Int32)) rfl ?_
            refine zw_stk hm_131 dX11_tokenIs_33 (st₉ := [.inl ((mI S 64 2) + (2 : Int32))]) rfl rfl ?_
            refine zw_push hm_131 dX11_tokenIs_34 (v := .inl (100 : Int32)) rfl ?_
            refine zw_if2 hm_131 dX11_tokenIs_36 (t := 66) rfl zc2_ge ?_ ?_
            · intro hc
              rw [if_pos hc] at h
              refine zw_push hm_131 dX11_tokenIs_66 (v := .inl (1 : Int32)) rfl ?_
              exact zw_bret hm_131 dX11_tokenIs_67 (by decide) h
            · intro hc
              rw [if_neg hc] at h
              refine zw_push hm_131 dX11_tokenIs_39 (v := .inr (.inr (some 64))) rfl ?_
              refine zw_gf hm_131 dX11_tokenIs_40 (v := .inr (.inr (some 65))) (zT_is hS s_64) (zT_t hS s_64) rfl f_11_9_11 (zT_f hS r_64_0) ?_
              refine zw_push hm_131 dX11_tokenIs_43 (v := .inr (.inr (some 64))) rfl ?_
              refine zw_gf hm_131 dX11_tokenIs_44 (v := .inl (mI S 64 2)) (zT_is hS s_64) (zT_t hS s_64) rfl f_11_92_11 rfl ?_
              refine zw_push hm_131 dX11_tokenIs_47 (v := .inl (2 : Int32)) rfl ?_
              refine zw_stk hm_131 dX11_tokenIs_48 (st₉ := [.inl ((mI S 64 2) + (2 : Int32)), .inr (.inr (some 65))]) rfl rfl ?_
              obtain ⟨hg, h⟩ := h
              refine zw_ba hm_131 dX11_tokenIs_49 (zT_is hS s_65) (zT_h hS s_65) rfl rfl hg ?_
              show ma_wp X d w 131 50 [(2, .inl (2 : Int32)), (0, .inr (.inr (some 64))), (1, .inr (.inr (some 13)))] [.inl (mI S 65 ((mI S 64 2) + (2 : Int32)).toNatClampNeg)] S _
              refine zw_push hm_131 dX11_tokenIs_50 (v := .inr (.inr (some 13))) rfl ?_
              refine zw_push hm_131 dX11_tokenIs_51 (v := .inl (2 : Int32)) rfl ?_
              refine zw_cv hm_131 dX11_tokenIs_52 v_11_293_17 hm_279 [.inl (2 : Int32)] [.inl (mI S 65 ((mI S 64 2) + (2 : Int32)).toNatClampNeg)] rfl rfl ⟨by omega, by omega⟩ rfl (tx_char (v := (114 : Int32)) (by decide) (by omega) (by omega) (by decide) (by decide) (by decide) (by decide) ?_)
              show ma_wp X d w 131 55 [(2, .inl (2 : Int32)), (0, .inr (.inr (some 64))), (1, .inr (.inr (some 13)))] [.inl (114 : Int32), .inl (mI S 65 ((mI S 64 2) + (2 : Int32)).toNatClampNeg)] S _
              refine zw_if2 hm_131 dX11_tokenIs_55 (t := 60) rfl zc2_eq ?_ ?_
              · intro hc
                rw [if_pos hc] at h
                refine zw_sto hm_131 dX11_tokenIs_60 [(2, .inl (3 : Int32)), (0, .inr (.inr (some 64))), (1, .inr (.inr (some 13)))] rfl rfl rfl ?_
                refine zw_goto hm_131 dX11_tokenIs_63 (t := 20) rfl ?_
                refine zw_push hm_131 dX11_tokenIs_20 (v := .inl (3 : Int32)) rfl ?_
                refine zw_push hm_131 dX11_tokenIs_21 (v := .inr (.inr (some 13))) rfl ?_
                refine zw_cv hm_131 dX11_tokenIs_22 v_11_288_17 hm_277 [] [.inl (3 : Int32)] rfl rfl ⟨by omega, by omega⟩ rfl (tx_len (v := (5 : Int32)) (by decide) (by omega) (by omega) rfl rfl ?_)
                show ma_wp X d w 131 25 [(2, .inl (3 : Int32)), (0, .inr (.inr (some 64))), (1, .inr (.inr (some 13)))] [.inl (5 : Int32), .inl (3 : Int32)] S _
                refine zw_if2 hm_131 dX11_tokenIs_25 (t := 66) rfl zc2_ge (fun hc => absurd hc (by decide)) (fun _ => ?_)
                refine zw_push hm_131 dX11_tokenIs_28 (v := .inr (.inr (some 64))) rfl ?_
                refine zw_gf hm_131 dX11_tokenIs_29 (v := .inl (mI S 64 2)) (zT_is hS s_64) (zT_t hS s_64) rfl f_11_92_11 rfl ?_
                refine zw_push hm_131 dX11_tokenIs_32 (v := .inl (3 : Int32)) rfl ?_
                refine zw_stk hm_131 dX11_tokenIs_33 (st₉ := [.inl ((mI S 64 2) + (3 : Int32))]) rfl rfl ?_
                refine zw_push hm_131 dX11_tokenIs_34 (v := .inl (100 : Int32)) rfl ?_
                refine zw_if2 hm_131 dX11_tokenIs_36 (t := 66) rfl zc2_ge ?_ ?_
                · intro hc
                  rw [if_pos hc] at h
                  refine zw_push hm_131 dX11_tokenIs_66 (v := .inl (1 : Int32)) rfl ?_
                  exact zw_bret hm_131 dX11_tokenIs_67 (by decide) h
                · intro hc
                  rw [if_neg hc] at h
                  refine zw_push hm_131 dX11_tokenIs_39 (v := .inr (.inr (some 64))) rfl ?_
                  refine zw_gf hm_131 dX11_tokenIs_40 (v := .inr (.inr (some 65))) (zT_is hS s_64) (zT_t hS s_64) rfl f_11_9_11 (zT_f hS r_64_0) ?_
                  refine zw_push hm_131 dX11_tokenIs_43 (v := .inr (.inr (some 64))) rfl ?_
                  refine zw_gf hm_131 dX11_tokenIs_44 (v := .inl (mI S 64 2)) (zT_is hS s_64) (zT_t hS s_64) rfl f_11_92_11 rfl ?_
                  refine zw_push hm_131 dX11_tokenIs_47 (v := .inl (3 : Int32)) rfl ?_
                  refine zw_stk hm_131 dX11_tokenIs_48 (st₉ := [.inl ((mI S 64 2) + (3 : Int32)), .inr (.inr (some 65))]) rfl rfl ?_
                  obtain ⟨hg, h⟩ := h
                  refine zw_ba hm_131 dX11_tokenIs_49 (zT_is hS s_65) (zT_h hS s_65) rfl rfl hg ?_
                  show ma_wp X d w 131 50 [(2, .inl (3 : Int32)), (0, .inr (.inr (some 64))), (1, .inr (.inr (some 13)))] [.inl (mI S 65 ((mI S 64 2) + (3 : Int32)).toNatClampNeg)] S _
                  refine zw_push hm_131 dX11_tokenIs_50 (v := .inr (.inr (some 13))) rfl ?_
                  refine zw_push hm_131 dX11_tokenIs_51 (v := .inl (3 : Int32)) rfl ?_
                  refine zw_cv hm_131 dX11_tokenIs_52 v_11_293_17 hm_279 [.inl (3 : Int32)] [.inl (mI S 65 ((mI S 64 2) + (3 : Int32)).toNatClampNeg)] rfl rfl ⟨by omega, by omega⟩ rfl (tx_char (v := (115 : Int32)) (by decide) (by omega) (by omega) (by decide) (by decide) (by decide) (by decide) ?_)
                  show ma_wp X d w 131 55 [(2, .inl (3 : Int32)), (0, .inr (.inr (some 64))), (1, .inr (.inr (some 13)))] [.inl (115 : Int32), .inl (mI S 65 ((mI S 64 2) + (3 : Int32)).toNatClampNeg)] S _
                  refine zw_if2 hm_131 dX11_tokenIs_55 (t := 60) rfl zc2_eq ?_ ?_
                  · intro hc
                    rw [if_pos hc] at h
                    refine zw_sto hm_131 dX11_tokenIs_60 [(2, .inl (4 : Int32)), (0, .inr (.inr (some 64))), (1, .inr (.inr (some 13)))] rfl rfl rfl ?_
                    refine zw_goto hm_131 dX11_tokenIs_63 (t := 20) rfl ?_
                    refine zw_push hm_131 dX11_tokenIs_20 (v := .inl (4 : Int32)) rfl ?_
                    refine zw_push hm_131 dX11_tokenIs_21 (v := .inr (.inr (some 13))) rfl ?_
                    refine zw_cv hm_131 dX11_tokenIs_22 v_11_288_17 hm_277 [] [.inl (4 : Int32)] rfl rfl ⟨by omega, by omega⟩ rfl (tx_len (v := (5 : Int32)) (by decide) (by omega) (by omega) rfl rfl ?_)
                    show ma_wp X d w 131 25 [(2, .inl (4 : Int32)), (0, .inr (.inr (some 64))), (1, .inr (.inr (some 13)))] [.inl (5 : Int32), .inl (4 : Int32)] S _
                    refine zw_if2 hm_131 dX11_tokenIs_25 (t := 66) rfl zc2_ge (fun hc => absurd hc (by decide)) (fun _ => ?_)
                    refine zw_push hm_131 dX11_tokenIs_28 (v := .inr (.inr (some 64))) rfl ?_
                    refine zw_gf hm_131 dX11_tokenIs_29 (v := .inl (mI S 64 2)) (zT_is hS s_64) (zT_t hS s_64) rfl f_11_92_11 rfl ?_
                    refine zw_push hm_131 dX11_tokenIs_32 (v := .inl (4 : Int32)) rfl ?_
                    refine zw_stk hm_131 dX11_tokenIs_33 (st₉ := [.inl ((mI S 64 2) + (4 : Int32))]) rfl rfl ?_
                    refine zw_push hm_131 dX11_tokenIs_34 (v := .inl (100 : Int32)) rfl ?_
                    refine zw_if2 hm_131 dX11_tokenIs_36 (t := 66) rfl zc2_ge ?_ ?_
                    · intro hc
                      rw [if_pos hc] at h
                      refine zw_push hm_131 dX11_tokenIs_66 (v := .inl (1 : Int32)) rfl ?_
                      exact zw_bret hm_131 dX11_tokenIs_67 (by decide) h
                    · intro hc
                      rw [if_neg hc] at h
                      refine zw_push hm_131 dX11_tokenIs_39 (v := .inr (.inr (some 64))) rfl ?_
                      refine zw_gf hm_131 dX11_tokenIs_40 (v := .inr (.inr (some 65))) (zT_is hS s_64) (zT_t hS s_64) rfl f_11_9_11 (zT_f hS r_64_0) ?_
                      refine zw_push hm_131 dX11_tokenIs_43 (v := .inr (.inr (some 64))) rfl ?_
                      refine zw_gf hm_131 dX11_tokenIs_44 (v := .inl (mI S 64 2)) (zT_is hS s_64) (zT_t hS s_64) rfl f_11_92_11 rfl ?_
                      refine zw_push hm_131 dX11_tokenIs_47 (v := .inl (4 : Int32)) rfl ?_
                      refine zw_stk hm_131 dX11_tokenIs_48 (st₉ := [.inl ((mI S 64 2) + (4 : Int32)), .inr (.inr (some 65))]) rfl rfl ?_
                      obtain ⟨hg, h⟩ := h
                      refine zw_ba hm_131 dX11_tokenIs_49 (zT_is hS s_65) (zT_h hS s_65) rfl rfl hg ?_
                      show ma_wp X d w 131 50 [(2, .inl (4 : Int32)), (0, .inr (.inr (some 64))), (1, .inr (.inr (some 13)))] [.inl (mI S 65 ((mI S 64 2) + (4 : Int32)).toNatClampNeg)] S _
                      refine zw_push hm_131 dX11_tokenIs_50 (v := .inr (.inr (some 13))) rfl ?_
                      refine zw_push hm_131 dX11_tokenIs_51 (v := .inl (4 : Int32)) rfl ?_
                      refine zw_cv hm_131 dX11_tokenIs_52 v_11_293_17 hm_279 [.inl (4 : Int32)] [.inl (mI S 65 ((mI S 64 2) + (4 : Int32)).toNatClampNeg)] rfl rfl ⟨by omega, by omega⟩ rfl (tx_char (v := (116 : Int32)) (by decide) (by omega) (by omega) (by decide) (by decide) (by decide) (by decide) ?_)
                      show ma_wp X d w 131 55 [(2, .inl (4 : Int32)), (0, .inr (.inr (some 64))), (1, .inr (.inr (some 13)))] [.inl (116 : Int32), .inl (mI S 65 ((mI S 64 2) + (4 : Int32)).toNatClampNeg)] S _
                      refine zw_if2 hm_131 dX11_tokenIs_55 (t := 60) rfl zc2_eq ?_ ?_
                      · intro hc
                        rw [if_pos hc] at h
                        refine zw_sto hm_131 dX11_tokenIs_60 [(2, .inl (5 : Int32)), (0, .inr (.inr (some 64))), (1, .inr (.inr (some 13)))] rfl rfl rfl ?_
                        refine zw_goto hm_131 dX11_tokenIs_63 (t := 20) rfl ?_
                        refine zw_push hm_131 dX11_tokenIs_20 (v := .inl (5 : Int32)) rfl ?_
                        refine zw_push hm_131 dX11_tokenIs_21 (v := .inr (.inr (some 13))) rfl ?_
                        refine zw_cv hm_131 dX11_tokenIs_22 v_11_288_17 hm_277 [] [.inl (5 : Int32)] rfl rfl ⟨by omega, by omega⟩ rfl (tx_len (v := (5 : Int32)) (by decide) (by omega) (by omega) rfl rfl ?_)
                        show ma_wp X d w 131 25 [(2, .inl (5 : Int32)), (0, .inr (.inr (some 64))), (1, .inr (.inr (some 13)))] [.inl (5 : Int32), .inl (5 : Int32)] S _
                        refine zw_if2 hm_131 dX11_tokenIs_25 (t := 66) rfl zc2_ge (fun _ => ?_) (fun hc => absurd (by decide) hc)
                        refine zw_push hm_131 dX11_tokenIs_66 (v := .inl (1 : Int32)) rfl ?_
                        exact zw_bret hm_131 dX11_tokenIs_67 (by decide) h
                      · intro hc
                        rw [if_neg hc] at h
                        refine zw_push hm_131 dX11_tokenIs_58 (v := .inl (0 : Int32)) rfl ?_
                        exact zw_bret hm_131 dX11_tokenIs_59 (by decide) h
                  · intro hc
                    rw [if_neg hc] at h
                    refine zw_push hm_131 dX11_tokenIs_58 (v := .inl (0 : Int32)) rfl ?_
                    exact zw_bret hm_131 dX11_tokenIs_59 (by decide) h
              · intro hc
                rw [if_neg hc] at h
                refine zw_push hm_131 dX11_tokenIs_58 (v := .inl (0 : Int32)) rfl ?_
                exact zw_bret hm_131 dX11_tokenIs_59 (by decide) h
          · intro hc
            rw [if_neg hc] at h
            refine zw_push hm_131 dX11_tokenIs_58 (v := .inl (0 : Int32)) rfl ?_
            exact zw_bret hm_131 dX11_tokenIs_59 (by decide) h
      · intro hc
        rw [if_neg hc] at h
        refine zw_push hm_131 dX11_tokenIs_58 (v := .inl (0 : Int32)) rfl ?_
        exact zw_bret hm_131 dX11_tokenIs_59 (by decide) h
  · intro hc
    rw [if_neg hc] at h
    refine zw_push hm_131 dX11_tokenIs_16 (v := .inl (0 : Int32)) rfl ?_
    exact zw_bret hm_131 dX11_tokenIs_17 (by decide) h
theorem sp_131_64_13_sq {X : Nat × (Nat → Int32)} {d w : Nat} {f : Nat → Nat → Int32} {r : Nat → Nat → Option Nat} {C Z N : Nat} {Q : Option ma_V ⊕ Nat → ma_S → Prop} {I0 : Nat→Nat→Int32} {L0 : Nat→Nat→Int64} {R0 : zRT} {S : ma_S}  (hd : 5 ≤ d) (hw : 100 ≤ w) (hI : zY0 f r C Z N S) (hpre0 : zFm I0 L0 R0 S) (K : ∀ v S₉, zY0 f r C Z N S₉ → (v = 0 ∨ v = 1) → ((v = 1 ∧ zwd (f 65) (f 64 2) ((f 64 3).toInt - (f 64 2).toInt) 102 105 114 115 116 0 0) ∨ (v = 0 ∧ ¬ zwd (f 65) (f 64 2) ((f 64 3).toInt - (f 64 2).toInt) 102 105 114 115 116 0 0)) → (zFm I0 L0 R0 S₉) → Q (.inl (some (.inl v))) S₉) : ma_wp X d w 131 0 [(0, .inr (.inr (some 64))), (1, .inr (.inr (some 13)))] [] S Q := by
  refine g_131_64_13_sq_0  (by omega) (by omega) (zG_T hI) ?_
  have q1 : (mI S 64 3).toInt = (f 64 3).toInt := zG_zi hI rfl
  have f2 := zG_s hI (0) (100) (c := 64) (k := 3) (by decide)
  have q3 : (mI S 64 2).toInt = (f 64 2).toInt := zG_zi hI rfl
  have f4 := zG_s hI (0) (100) (c := 64) (k := 2) (by decide)
  first | have e5 : ((mI S 64 3) - (mI S 64 2)).toInt = (mI S 64 3).toInt - (mI S 64 2).toInt := i_sub (by omega) (by omega) | have b6 := i_bd ((mI S 64 3) - (mI S 64 2))
  have li7 : (5 : Int32).toInt = 5 := rfl
  refine zd (fun h8 => ?_) (fun h8 => ?_)
  · skip
    have g9 := i_eq h8
    have li10 : (100 : Int32).toInt = 100 := rfl
    first | have e11 : ((mI S 64 2) + (0 : Int32)).toInt = (mI S 64 2).toInt + (0) := i_addk rfl (by omega) (by omega) | have b12 := i_bd ((mI S 64 2) + (0 : Int32))
    refine zd (fun h13 => ?_) (fun h13 => ?_)
    · skip
      have g14 := i_le h13
      have li15 : (1 : Int32).toInt = 1 := rfl
      exact K ((1 : Int32)) _ hI (by decide) (show ((1 : Int32) = 1 ∧ zwd (f 65) (f 64 2) ((f 64 3).toInt - (f 64 2).toInt) 102 105 114 115 116 0 0) ∨ ((1 : Int32) = 0 ∧ ¬ zwd (f 65) (f 64 2) ((f 64 3).toInt - (f 64 2).toInt) 102 105 114 115 116 0 0) from by first | (rw [show f 65 = mI S 65 from funext (fun k => (zG_z hI rfl).symm), show f 64 2 = mI S 64 2 from (zG_z hI rfl).symm, show f 64 3 = mI S 64 3 from (zG_z hI rfl).symm]; exact Or.inl ⟨rfl, by rw [if_neg (by decide), if_pos rfl]; omega, (by assumption), (by assumption), (by assumption), (by assumption), Or.inr (by assumption), Or.inr (Or.inl rfl), Or.inr (Or.inl rfl)⟩) | (omega) | (exfalso; omega)) (show zFm I0 L0 R0 S from by first | (exact hpre0))
    · skip
      have g16 := i_nle h13
      refine ⟨i_ix (by omega) (by omega), ?_⟩
      have q17 : (mI S 65 ((mI S 64 2) + (0 : Int32)).toNatClampNeg).toInt = (f 65 ((mI S 64 2) + (0 : Int32)).toNatClampNeg).toInt := zG_zi hI rfl
      have b18 := i_bd (mI S 65 ((mI S 64 2) + (0 : Int32)).toNatClampNeg)
      have li19 : (102 : Int32).toInt = 102 := rfl
      refine zd (fun h20 => ?_) (fun h20 => ?_)
      · skip
        have g21 := i_eq h20
        first | have e22 : ((mI S 64 2) + (1 : Int32)).toInt = (mI S 64 2).toInt + (1) := i_addk rfl (by omega) (by omega) | have b23 := i_bd ((mI S 64 2) + (1 : Int32))
        refine zd (fun h24 => ?_) (fun h24 => ?_)
        · skip
          have g25 := i_le h24
          have li26 : (1 : Int32).toInt = 1 := rfl
          exact K ((1 : Int32)) _ hI (by decide) (show ((1 : Int32) = 1 ∧ zwd (f 65) (f 64 2) ((f 64 3).toInt - (f 64 2).toInt) 102 105 114 115 116 0 0) ∨ ((1 : Int32) = 0 ∧ ¬ zwd (f 65) (f 64 2) ((f 64 3).toInt - (f 64 2).toInt) 102 105 114 115 116 0 0) from by first | (rw [show f 65 = mI S 65 from funext (fun k => (zG_z hI rfl).symm), show f 64 2 = mI S 64 2 from (zG_z hI rfl).symm, show f 64 3 = mI S 64 3 from (zG_z hI rfl).symm]; exact Or.inl ⟨rfl, by rw [if_neg (by decide), if_pos rfl]; omega, (by assumption), (by assumption), (by assumption), (by assumption), Or.inr (by assumption), Or.inr (Or.inl rfl), Or.inr (Or.inl rfl)⟩) | (omega) | (exfalso; omega)) (show zFm I0 L0 R0 S from by first | (exact hpre0))
        · skip
          have g27 := i_nle h24
          refine ⟨i_ix (by omega) (by omega), ?_⟩
          have q28 : (mI S 65 ((mI S 64 2) + (1 : Int32)).toNatClampNeg).toInt = (f 65 ((mI S 64 2) + (1 : Int32)).toNatClampNeg).toInt := zG_zi hI rfl
          have b29 := i_bd (mI S 65 ((mI S 64 2) + (1 : Int32)).toNatClampNeg)
          have li30 : (105 : Int32).toInt = 105 := rfl
          refine zd (fun h31 => ?_) (fun h31 => ?_)
          · skip
            have g32 := i_eq h31
            first | have e33 : ((mI S 64 2) + (2 : Int32)).toInt = (mI S 64 2).toInt + (2) := i_addk rfl (by omega) (by omega) | have b34 := i_bd ((mI S 64 2) + (2 : Int32))
            refine zd (fun h35 => ?_) (fun h35 => ?_)
            · skip
              have g36 := i_le h35
              have li37 : (1 : Int32).toInt = 1 := rfl
              exact K ((1 : Int32)) _ hI (by decide) (show ((1 : Int32) = 1 ∧ zwd (f 65) (f 64 2) ((f 64 3).toInt - (f 64 2).toInt) 102 105 114 115 116 0 0) ∨ ((1 : Int32) = 0 ∧ ¬ zwd (f 65) (f 64 2) ((f 64 3).toInt - (f 64 2).toInt) 102 105 114 115 116 0 0) from by first | (rw [show f 65 = mI S 65 from funext (fun k => (zG_z hI rfl).symm), show f 64 2 = mI S 64 2 from (zG_z hI rfl).symm, show f 64 3 = mI S 64 3 from (zG_z hI rfl).symm]; exact Or.inl ⟨rfl, by rw [if_neg (by decide), if_pos rfl]; omega, (by assumption), (by assumption), (by assumption), (by assumption), Or.inr (by assumption), Or.inr (Or.inl rfl), Or.inr (Or.inl rfl)⟩) | (omega) | (exfalso; omega)) (show zFm I0 L0 R0 S from by first | (exact hpre0))
            · skip
              have g38 := i_nle h35
              refine ⟨i_ix (by omega) (by omega), ?_⟩
              have q39 : (mI S 65 ((mI S 64 2) + (2 : Int32)).toNatClampNeg).toInt = (f 65 ((mI S 64 2) + (2 : Int32)).toNatClampNeg).toInt := zG_zi hI rfl
              have b40 := i_bd (mI S 65 ((mI S 64 2) + (2 : Int32)).toNatClampNeg)
              have li41 : (114 : Int32).toInt = 114 := rfl
              refine zd (fun h42 => ?_) (fun h42 => ?_)
              · skip
                have g43 := i_eq h42
                first | have e44 : ((mI S 64 2) + (3 : Int32)).toInt = (mI S 64 2).toInt + (3) := i_addk rfl (by omega) (by omega) | have b45 := i_bd ((mI S 64 2) + (3 : Int32))
                refine zd (fun h46 => ?_) (fun h46 => ?_)
                · skip
                  have g47 := i_le h46
                  have li48 : (1 : Int32).toInt = 1 := rfl
                  exact K ((1 : Int32)) _ hI (by decide) (show ((1 : Int32) = 1 ∧ zwd (f 65) (f 64 2) ((f 64 3).toInt - (f 64 2).toInt) 102 105 114 115 116 0 0) ∨ ((1 : Int32) = 0 ∧ ¬ zwd (f 65) (f 64 2) ((f 64 3).toInt - (f 64 2).toInt) 102 105 114 115 116 0 0) from by first | (rw [show f 65 = mI S 65 from funext (fun k => (zG_z hI rfl).symm), show f 64 2 = mI S 64 2 from (zG_z hI rfl).symm, show f 64 3 = mI S 64 3 from (zG_z hI rfl).symm]; exact Or.inl ⟨rfl, by rw [if_neg (by decide), if_pos rfl]; omega, (by assumption), (by assumption), (by assumption), (by assumption), Or.inr (by assumption), Or.inr (Or.inl rfl), Or.inr (Or.inl rfl)⟩) | (omega) | (exfalso; omega)) (show zFm I0 L0 R0 S from by first | (exact hpre0))
                · skip
                  have g49 := i_nle h46
                  refine ⟨i_ix (by omega) (by omega), ?_⟩
                  have q50 : (mI S 65 ((mI S 64 2) + (3 : Int32)).toNatClampNeg).toInt = (f 65 ((mI S 64 2) + (3 : Int32)).toNatClampNeg).toInt := zG_zi hI rfl
                  have b51 := i_bd (mI S 65 ((mI S 64 2) + (3 : Int32)).toNatClampNeg)
                  have li52 : (115 : Int32).toInt = 115 := rfl
                  refine zd (fun h53 => ?_) (fun h53 => ?_)
                  · skip
                    have g54 := i_eq h53
                    first | have e55 : ((mI S 64 2) + (4 : Int32)).toInt = (mI S 64 2).toInt + (4) := i_addk rfl (by omega) (by omega) | have b56 := i_bd ((mI S 64 2) + (4 : Int32))
                    refine zd (fun h57 => ?_) (fun h57 => ?_)
                    · skip
                      have g58 := i_le h57
                      have li59 : (1 : Int32).toInt = 1 := rfl
                      exact K ((1 : Int32)) _ hI (by decide) (show ((1 : Int32) = 1 ∧ zwd (f 65) (f 64 2) ((f 64 3).toInt - (f 64 2).toInt) 102 105 114 115 116 0 0) ∨ ((1 : Int32) = 0 ∧ ¬ zwd (f 65) (f 64 2) ((f 64 3).toInt - (f 64 2).toInt) 102 105 114 115 116 0 0) from by first | (rw [show f 65 = mI S 65 from funext (fun k => (zG_z hI rfl).symm), show f 64 2 = mI S 64 2 from (zG_z hI rfl).symm, show f 64 3 = mI S 64 3 from (zG_z hI rfl).symm]; exact Or.inl ⟨rfl, by rw [if_neg (by decide), if_pos rfl]; omega, (by assumption), (by assumption), (by assumption), (by assumption), Or.inr (by assumption), Or.inr (Or.inl rfl), Or.inr (Or.inl rfl)⟩) | (omega) | (exfalso; omega)) (show zFm I0 L0 R0 S from by first | (exact hpre0))
                    · skip
                      have g60 := i_nle h57
                      refine ⟨i_ix (by omega) (by omega), ?_⟩
                      have q61 : (mI S 65 ((mI S 64 2) + (4 : Int32)).toNatClampNeg).toInt = (f 65 ((mI S 64 2) + (4 : Int32)).toNatClampNeg).toInt := zG_zi hI rfl
                      have b62 := i_bd (mI S 65 ((mI S 64 2) + (4 : Int32)).toNatClampNeg)
                      have li63 : (116 : Int32).toInt = 116 := rfl
                      refine zd (fun h64 => ?_) (fun h64 => ?_)
                      · skip
                        have g65 := i_eq h64
                        have li66 : (1 : Int32).toInt = 1 := rfl
                        exact K ((1 : Int32)) _ hI (by decide) (show ((1 : Int32) = 1 ∧ zwd (f 65) (f 64 2) ((f 64 3).toInt - (f 64 2).toInt) 102 105 114 115 116 0 0) ∨ ((1 : Int32) = 0 ∧ ¬ zwd (f 65) (f 64 2) ((f 64 3).toInt - (f 64 2).toInt) 102 105 114 115 116 0 0) from by first | (rw [show f 65 = mI S 65 from funext (fun k => (zG_z hI rfl).symm), show f 64 2 = mI S 64 2 from (zG_z hI rfl).symm, show f 64 3 = mI S 64 3 from (zG_z hI rfl).symm]; exact Or.inl ⟨rfl, by rw [if_neg (by decide), if_pos rfl]; omega, (by assumption), (by assumption), (by assumption), (by assumption), Or.inr (by assumption), Or.inr (Or.inl rfl), Or.inr (Or.inl rfl)⟩) | (omega) | (exfalso; omega)) (show zFm I0 L0 R0 S from by first | (exact hpre0))
                      · skip
                        have g67 := i_ne h64
                        have li68 : (0 : Int32).toInt = 0 := rfl
                        exact K ((0 : Int32)) _ hI (by decide) (show ((0 : Int32) = 1 ∧ zwd (f 65) (f 64 2) ((f 64 3).toInt - (f 64 2).toInt) 102 105 114 115 116 0 0) ∨ ((0 : Int32) = 0 ∧ ¬ zwd (f 65) (f 64 2) ((f 64 3).toInt - (f 64 2).toInt) 102 105 114 115 116 0 0) from by first | (rw [show f 65 = mI S 65 from funext (fun k => (zG_z hI rfl).symm), show f 64 2 = mI S 64 2 from (zG_z hI rfl).symm, show f 64 3 = mI S 64 3 from (zG_z hI rfl).symm]; exact Or.inr ⟨rfl, fun z => absurd z.2.1 (by assumption)⟩) | (rw [show f 65 = mI S 65 from funext (fun k => (zG_z hI rfl).symm), show f 64 2 = mI S 64 2 from (zG_z hI rfl).symm, show f 64 3 = mI S 64 3 from (zG_z hI rfl).symm]; exact Or.inr ⟨rfl, fun z => absurd z.2.2.1 (by assumption)⟩) | (rw [show f 65 = mI S 65 from funext (fun k => (zG_z hI rfl).symm), show f 64 2 = mI S 64 2 from (zG_z hI rfl).symm, show f 64 3 = mI S 64 3 from (zG_z hI rfl).symm]; exact Or.inr ⟨rfl, fun z => absurd z.2.2.2.1 (by assumption)⟩) | (rw [show f 65 = mI S 65 from funext (fun k => (zG_z hI rfl).symm), show f 64 2 = mI S 64 2 from (zG_z hI rfl).symm, show f 64 3 = mI S 64 3 from (zG_z hI rfl).symm]; exact Or.inr ⟨rfl, fun z => absurd z.2.2.2.2.1 (by assumption)⟩) | (rw [show f 65 = mI S 65 from funext (fun k => (zG_z hI rfl).symm), show f 64 2 = mI S 64 2 from (zG_z hI rfl).symm, show f 64 3 = mI S 64 3 from (zG_z hI rfl).symm]; exact Or.inr ⟨rfl, fun z => absurd (z.2.2.2.2.2.1.elim (fun y => absurd y (by decide)) id) (by assumption)⟩) | (rw [show f 65 = mI S 65 from funext (fun k => (zG_z hI rfl).symm), show f 64 2 = mI S 64 2 from (zG_z hI rfl).symm, show f 64 3 = mI S 64 3 from (zG_z hI rfl).symm]; exact Or.inr ⟨rfl, fun z => by have y := z.1; rw [if_neg (by decide), if_pos rfl] at y; omega⟩) | (omega) | (exfalso; omega)) (show zFm I0 L0 R0 S from by first | (exact hpre0))
                  · skip
                    have g69 := i_ne h53
                    have li70 : (0 : Int32).toInt = 0 := rfl
                    exact K ((0 : Int32)) _ hI (by decide) (show ((0 : Int32) = 1 ∧ zwd (f 65) (f 64 2) ((f 64 3).toInt - (f 64 2).toInt) 102 105 114 115 116 0 0) ∨ ((0 : Int32) = 0 ∧ ¬ zwd (f 65) (f 64 2) ((f 64 3).toInt - (f 64 2).toInt) 102 105 114 115 116 0 0) from by first | (rw [show f 65 = mI S 65 from funext (fun k => (zG_z hI rfl).symm), show f 64 2 = mI S 64 2 from (zG_z hI rfl).symm, show f 64 3 = mI S 64 3 from (zG_z hI rfl).symm]; exact Or.inr ⟨rfl, fun z => absurd z.2.1 (by assumption)⟩) | (rw [show f 65 = mI S 65 from funext (fun k => (zG_z hI rfl).symm), show f 64 2 = mI S 64 2 from (zG_z hI rfl).symm, show f 64 3 = mI S 64 3 from (zG_z hI rfl).symm]; exact Or.inr ⟨rfl, fun z => absurd z.2.2.1 (by assumption)⟩) | (rw [show f 65 = mI S 65 from funext (fun k => (zG_z hI rfl).symm), show f 64 2 = mI S 64 2 from (zG_z hI rfl).symm, show f 64 3 = mI S 64 3 from (zG_z hI rfl).symm]; exact Or.inr ⟨rfl, fun z => absurd z.2.2.2.1 (by assumption)⟩) | (rw [show f 65 = mI S 65 from funext (fun k => (zG_z hI rfl).symm), show f 64 2 = mI S 64 2 from (zG_z hI rfl).symm, show f 64 3 = mI S 64 3 from (zG_z hI rfl).symm]; exact Or.inr ⟨rfl, fun z => absurd z.2.2.2.2.1 (by assumption)⟩) | (rw [show f 65 = mI S 65 from funext (fun k => (zG_z hI rfl).symm), show f 64 2 = mI S 64 2 from (zG_z hI rfl).symm, show f 64 3 = mI S 64 3 from (zG_z hI rfl).symm]; exact Or.inr ⟨rfl, fun z => absurd (z.2.2.2.2.2.1.elim (fun y => absurd y (by decide)) id) (by assumption)⟩) | (rw [show f 65 = mI S 65 from funext (fun k => (zG_z hI rfl).symm), show f 64 2 = mI S 64 2 from (zG_z hI rfl).symm, show f 64 3 = mI S 64 3 from (zG_z hI rfl).symm]; exact Or.inr ⟨rfl, fun z => by have y := z.1; rw [if_neg (by decide), if_pos rfl] at y; omega⟩) | (omega) | (exfalso; omega)) (show zFm I0 L0 R0 S from by first | (exact hpre0))
              · skip
                have g71 := i_ne h42
                have li72 : (0 : Int32).toInt = 0 := rfl
                exact K ((0 : Int32)) _ hI (by decide) (show ((0 : Int32) = 1 ∧ zwd (f 65) (f 64 2) ((f 64 3).toInt - (f 64 2).toInt) 102 105 114 115 116 0 0) ∨ ((0 : Int32) = 0 ∧ ¬ zwd (f 65) (f 64 2) ((f 64 3).toInt - (f 64 2).toInt) 102 105 114 115 116 0 0) from by first | (rw [show f 65 = mI S 65 from funext (fun k => (zG_z hI rfl).symm), show f 64 2 = mI S 64 2 from (zG_z hI rfl).symm, show f 64 3 = mI S 64 3 from (zG_z hI rfl).symm]; exact Or.inr ⟨rfl, fun z => absurd z.2.1 (by assumption)⟩) | (rw [show f 65 = mI S 65 from funext (fun k => (zG_z hI rfl).symm), show f 64 2 = mI S 64 2 from (zG_z hI rfl).symm, show f 64 3 = mI S 64 3 from (zG_z hI rfl).symm]; exact Or.inr ⟨rfl, fun z => absurd z.2.2.1 (by assumption)⟩) | (rw [show f 65 = mI S 65 from funext (fun k => (zG_z hI rfl).symm), show f 64 2 = mI S 64 2 from (zG_z hI rfl).symm, show f 64 3 = mI S 64 3 from (zG_z hI rfl).symm]; exact Or.inr ⟨rfl, fun z => absurd z.2.2.2.1 (by assumption)⟩) | (rw [show f 65 = mI S 65 from funext (fun k => (zG_z hI rfl).symm), show f 64 2 = mI S 64 2 from (zG_z hI rfl).symm, show f 64 3 = mI S 64 3 from (zG_z hI rfl).symm]; exact Or.inr ⟨rfl, fun z => absurd z.2.2.2.2.1 (by assumption)⟩) | (rw [show f 65 = mI S 65 from funext (fun k => (zG_z hI rfl).symm), show f 64 2 = mI S 64 2 from (zG_z hI rfl).symm, show f 64 3 = mI S 64 3 from (zG_z hI rfl).symm]; exact Or.inr ⟨rfl, fun z => absurd (z.2.2.2.2.2.1.elim (fun y => absurd y (by decide)) id) (by assumption)⟩) | (rw [show f 65 = mI S 65 from funext (fun k => (zG_z hI rfl).symm), show f 64 2 = mI S 64 2 from (zG_z hI rfl).symm, show f 64 3 = mI S 64 3 from (zG_z hI rfl).symm]; exact Or.inr ⟨rfl, fun z => by have y := z.1; rw [if_neg (by decide), if_pos rfl] at y; omega⟩) | (omega) | (exfalso; omega)) (show zFm I0 L0 R0 S from by first | (exact hpre0))
          · skip
            have g73 := i_ne h31
            have li74 : (0 : Int32).toInt = 0 := rfl
            exact K ((0 : Int32)) _ hI (by decide) (show ((0 : Int32) = 1 ∧ zwd (f 65) (f 64 2) ((f 64 3).toInt - (f 64 2).toInt) 102 105 114 115 116 0 0) ∨ ((0 : Int32) = 0 ∧ ¬ zwd (f 65) (f 64 2) ((f 64 3).toInt - (f 64 2).toInt) 102 105 114 115 116 0 0) from by first | (rw [show f 65 = mI S 65 from funext (fun k => (zG_z hI rfl).symm), show f 64 2 = mI S 64 2 from (zG_z hI rfl).symm, show f 64 3 = mI S 64 3 from (zG_z hI rfl).symm]; exact Or.inr ⟨rfl, fun z => absurd z.2.1 (by assumption)⟩) | (rw [show f 65 = mI S 65 from funext (fun k => (zG_z hI rfl).symm), show f 64 2 = mI S 64 2 from (zG_z hI rfl).symm, show f 64 3 = mI S 64 3 from (zG_z hI rfl).symm]; exact Or.inr ⟨rfl, fun z => absurd z.2.2.1 (by assumption)⟩) | (rw [show f 65 = mI S 65 from funext (fun k => (zG_z hI rfl).symm), show f 64 2 = mI S 64 2 from (zG_z hI rfl).symm, show f 64 3 = mI S 64 3 from (zG_z hI rfl).symm]; exact Or.inr ⟨rfl, fun z => absurd z.2.2.2.1 (by assumption)⟩) | (rw [show f 65 = mI S 65 from funext (fun k => (zG_z hI rfl).symm), show f 64 2 = mI S 64 2 from (zG_z hI rfl).symm, show f 64 3 = mI S 64 3 from (zG_z hI rfl).symm]; exact Or.inr ⟨rfl, fun z => absurd z.2.2.2.2.1 (by assumption)⟩) | (rw [show f 65 = mI S 65 from funext (fun k => (zG_z hI rfl).symm), show f 64 2 = mI S 64 2 from (zG_z hI rfl).symm, show f 64 3 = mI S 64 3 from (zG_z hI rfl).symm]; exact Or.inr ⟨rfl, fun z => absurd (z.2.2.2.2.2.1.elim (fun y => absurd y (by decide)) id) (by assumption)⟩) | (rw [show f 65 = mI S 65 from funext (fun k => (zG_z hI rfl).symm), show f 64 2 = mI S 64 2 from (zG_z hI rfl).symm, show f 64 3 = mI S 64 3 from (zG_z hI rfl).symm]; exact Or.inr ⟨rfl, fun z => by have y := z.1; rw [if_neg (by decide), if_pos rfl] at y; omega⟩) | (omega) | (exfalso; omega)) (show zFm I0 L0 R0 S from by first | (exact hpre0))
      · skip
        have g75 := i_ne h20
        have li76 : (0 : Int32).toInt = 0 := rfl
        exact K ((0 : Int32)) _ hI (by decide) (show ((0 : Int32) = 1 ∧ zwd (f 65) (f 64 2) ((f 64 3).toInt - (f 64 2).toInt) 102 105 114 115 116 0 0) ∨ ((0 : Int32) = 0 ∧ ¬ zwd (f 65) (f 64 2) ((f 64 3).toInt - (f 64 2).toInt) 102 105 114 115 116 0 0) from by first | (rw [show f 65 = mI S 65 from funext (fun k => (zG_z hI rfl).symm), show f 64 2 = mI S 64 2 from (zG_z hI rfl).symm, show f 64 3 = mI S 64 3 from (zG_z hI rfl).symm]; exact Or.inr ⟨rfl, fun z => absurd z.2.1 (by assumption)⟩) | (rw [show f 65 = mI S 65 from funext (fun k => (zG_z hI rfl).symm), show f 64 2 = mI S 64 2 from (zG_z hI rfl).symm, show f 64 3 = mI S 64 3 from (zG_z hI rfl).symm]; exact Or.inr ⟨rfl, fun z => absurd z.2.2.1 (by assumption)⟩) | (rw [show f 65 = mI S 65 from funext (fun k => (zG_z hI rfl).symm), show f 64 2 = mI S 64 2 from (zG_z hI rfl).symm, show f 64 3 = mI S 64 3 from (zG_z hI rfl).symm]; exact Or.inr ⟨rfl, fun z => absurd z.2.2.2.1 (by assumption)⟩) | (rw [show f 65 = mI S 65 from funext (fun k => (zG_z hI rfl).symm), show f 64 2 = mI S 64 2 from (zG_z hI rfl).symm, show f 64 3 = mI S 64 3 from (zG_z hI rfl).symm]; exact Or.inr ⟨rfl, fun z => absurd z.2.2.2.2.1 (by assumption)⟩) | (rw [show f 65 = mI S 65 from funext (fun k => (zG_z hI rfl).symm), show f 64 2 = mI S 64 2 from (zG_z hI rfl).symm, show f 64 3 = mI S 64 3 from (zG_z hI rfl).symm]; exact Or.inr ⟨rfl, fun z => absurd (z.2.2.2.2.2.1.elim (fun y => absurd y (by decide)) id) (by assumption)⟩) | (rw [show f 65 = mI S 65 from funext (fun k => (zG_z hI rfl).symm), show f 64 2 = mI S 64 2 from (zG_z hI rfl).symm, show f 64 3 = mI S 64 3 from (zG_z hI rfl).symm]; exact Or.inr ⟨rfl, fun z => by have y := z.1; rw [if_neg (by decide), if_pos rfl] at y; omega⟩) | (omega) | (exfalso; omega)) (show zFm I0 L0 R0 S from by first | (exact hpre0))
  · skip
    have g77 := i_ne h8
    have li78 : (0 : Int32).toInt = 0 := rfl
    exact K ((0 : Int32)) _ hI (by decide) (show ((0 : Int32) = 1 ∧ zwd (f 65) (f 64 2) ((f 64 3).toInt - (f 64 2).toInt) 102 105 114 115 116 0 0) ∨ ((0 : Int32) = 0 ∧ ¬ zwd (f 65) (f 64 2) ((f 64 3).toInt - (f 64 2).toInt) 102 105 114 115 116 0 0) from by first | (rw [show f 65 = mI S 65 from funext (fun k => (zG_z hI rfl).symm), show f 64 2 = mI S 64 2 from (zG_z hI rfl).symm, show f 64 3 = mI S 64 3 from (zG_z hI rfl).symm]; exact Or.inr ⟨rfl, fun z => absurd z.2.1 (by assumption)⟩) | (rw [show f 65 = mI S 65 from funext (fun k => (zG_z hI rfl).symm), show f 64 2 = mI S 64 2 from (zG_z hI rfl).symm, show f 64 3 = mI S 64 3 from (zG_z hI rfl).symm]; exact Or.inr ⟨rfl, fun z => absurd z.2.2.1 (by assumption)⟩) | (rw [show f 65 = mI S 65 from funext (fun k => (zG_z hI rfl).symm), show f 64 2 = mI S 64 2 from (zG_z hI rfl).symm, show f 64 3 = mI S 64 3 from (zG_z hI rfl).symm]; exact Or.inr ⟨rfl, fun z => absurd z.2.2.2.1 (by assumption)⟩) | (rw [show f 65 = mI S 65 from funext (fun k => (zG_z hI rfl).symm), show f 64 2 = mI S 64 2 from (zG_z hI rfl).symm, show f 64 3 = mI S 64 3 from (zG_z hI rfl).symm]; exact Or.inr ⟨rfl, fun z => absurd z.2.2.2.2.1 (by assumption)⟩) | (rw [show f 65 = mI S 65 from funext (fun k => (zG_z hI rfl).symm), show f 64 2 = mI S 64 2 from (zG_z hI rfl).symm, show f 64 3 = mI S 64 3 from (zG_z hI rfl).symm]; exact Or.inr ⟨rfl, fun z => absurd (z.2.2.2.2.2.1.elim (fun y => absurd y (by decide)) id) (by assumption)⟩) | (rw [show f 65 = mI S 65 from funext (fun k => (zG_z hI rfl).symm), show f 64 2 = mI S 64 2 from (zG_z hI rfl).symm, show f 64 3 = mI S 64 3 from (zG_z hI rfl).symm]; exact Or.inr ⟨rfl, fun z => by have y := z.1; rw [if_neg (by decide), if_pos rfl] at y; omega⟩) | (omega) | (exfalso; omega)) (show zFm I0 L0 R0 S from by first | (exact hpre0))

/-! from 95.i19 -/
/-! the class opens a heap (written by wip/tools/gen18c.py) -/
theorem g_131_64_14_sq_0 {X : Nat × (Nat → Int32)} {d w : Nat} {S : ma_S} {Q : Option ma_V ⊕ Nat → ma_S → Prop}  (hd : 5 ≤ d) (hw : 100 ≤ w) (hS : zT S) (h : if ((mI S 64 3) - (mI S 64 2)) = (4 : Int32) then (if (100 : Int32) ≤ ((mI S 64 2) + (0 : Int32)) then (Q (.inl (some (.inl (1 : Int32)))) S) else ((0 ≤ ((mI S 64 2) + (0 : Int32)) ∧ ((mI S 64 2) + (0 : Int32)).toNatClampNeg < 100) ∧ (if (mI S 65 ((mI S 64 2) + (0 : Int32)).toNatClampNeg) = (110 : Int32) then (if (100 : Int32) ≤ ((mI S 64 2) + (1 : Int32)) then (Q (.inl (some (.inl (1 : Int32)))) S) else ((0 ≤ ((mI S 64 2) + (1 : Int32)) ∧ ((mI S 64 2) + (1 : Int32)).toNatClampNeg < 100) ∧ (if (mI S 65 ((mI S 64 2) + (1 : Int32)).toNatClampNeg) = (101 : Int32) then (if (100 : Int32) ≤ ((mI S 64 2) + (2 : Int32)) then (Q (.inl (some (.inl (1 : Int32)))) S) else ((0 ≤ ((mI S 64 2) + (2 : Int32)) ∧ ((mI S 64 2) + (2 : Int32)).toNatClampNeg < 100) ∧ (if (mI S 65 ((mI S 64 2) + (2 : Int32)).toNatClampNeg) = (120 : Int32) then (if (100 : Int32) ≤ ((mI S 64 2) + (3 : Int32)) then (Q (.inl (some (.inl (1 : Int32)))) S) else ((0 ≤ ((mI S 64 2) + (3 : Int32)) ∧ ((mI S 64 2) + (3 : Int32)).toNatClampNeg < 100) ∧ (if (mI S 65 ((mI S 64 2) + (3 : Int32)).toNatClampNeg) = (116 : Int32) then (Q (.inl (some (.inl (1 : Int32)))) S) else (Q (.inl (some (.inl (0 : Int32)))) S)))) else (Q (.inl (some (.inl (0 : Int32)))) S)))) else (Q (.inl (some (.inl (0 : Int32)))) S)))) else (Q (.inl (some (.inl (0 : Int32)))) S)))) else (Q (.inl (some (.inl (0 : Int32)))) S)) : ma_wp X d w 131 0 [(0, .inr (.inr (some 64))), (1, .inr (.inr (some 14)))] [] S Q := by
  refine zw_push hm_131 dX11_tokenIs_0 (v := .inr (.inr (some 64))) rfl ?_
  refine zw_gf hm_131 dX11_tokenIs_1 (v := .inl (mI S 64 3)) (zT_is hS s_64) (zT_t hS s_64) rfl f_11_275_11 rfl ?_
  refine zw_push hm_131 dX11_tokenIs_4 (v := .inr (.inr (some 64))) rfl ?_
  refine zw_gf hm_131 dX11_tokenIs_5 (v := .inl (mI S 64 2)) (zT_is hS s_64) (zT_t hS s_64) rfl f_11_92_11 rfl ?_
  refine zw_stk hm_131 dX11_tokenIs_8 (st₉ := [.inl ((mI S 64 3) - (mI S 64 2))]) rfl rfl ?_
  refine zw_push hm_131 dX11_tokenIs_9 (v := .inr (.inr (some 14))) rfl ?_
  refine zw_cv hm_131 dX11_tokenIs_10 v_11_288_17 hm_277 [] [.inl ((mI S 64 3) - (mI S 64 2))] rfl rfl ⟨by omega, by omega⟩ rfl (tx_len (v := (4 : Int32)) (by decide) (by omega) (by omega) rfl rfl ?_)
  show ma_wp X d w 131 13 [(0, .inr (.inr (some 64))), (1, .inr (.inr (some 14)))] [.inl (4 : Int32), .inl ((mI S 64 3) - (mI S 64 2))] S _
  refine zw_if2 hm_131 dX11_tokenIs_13 (t := 18) rfl zc2_eq ?_ ?_
  · intro hc
    rw [if_pos hc] at h
    refine zw_push hm_131 dX11_tokenIs_18 (v := .inl (0 : Int32)) rfl ?_
    refine zw_sto hm_131 dX11_tokenIs_19 [(2, .inl (0 : Int32)), (0, .inr (.inr (some 64))), (1, .inr (.inr (some 14)))] rfl rfl rfl ?_
    refine zw_push hm_131 dX11_tokenIs_20 (v := .inl (0 : Int32)) rfl ?_
    refine zw_push hm_131 dX11_tokenIs_21 (v := .inr (.inr (some 14))) rfl ?_
    refine zw_cv hm_131 dX11_tokenIs_22 v_11_288_17 hm_277 [] [.inl (0 : Int32)] rfl rfl ⟨by omega, by omega⟩ rfl (tx_len (v := (4 : Int32)) (by decide) (by omega) (by omega) rfl rfl ?_)
    show ma_wp X d w 131 25 [(2, .inl (0 : Int32)), (0, .inr (.inr (some 64))), (1, .inr (.inr (some 14)))] [.inl (4 : Int32), .inl (0 : Int32)] S _
    refine zw_if2 hm_131 dX11_tokenIs_25 (t := 66) rfl zc2_ge (fun hc => absurd hc (by decide)) (fun _ => ?_)
    refine zw_push hm_131 dX11_tokenIs_28 (v := .inr (.inr (some 64))) rfl ?_
    refine zw_gf hm_131 dX11_tokenIs_29 (v := .inl (mI S 64 2)) (zT_is hS s_64) (zT_t hS s_64) rfl f_11_92_11 rfl ?_
    refine zw_push hm_131 dX11_tokenIs_32 (v := .inl (0 : Int32)) rfl ?_
    refine zw_stk hm_131 dX11_tokenIs_33 (st₉ := [.inl ((mI S 64 2) + (0 : Int32))]) rfl rfl ?_
    refine zw_push hm_131 dX11_tokenIs_34 (v := .inl (100 : Int32)) rfl ?_
    refine zw_if2 hm_131 dX11_tokenIs_36 (t := 66) rfl zc2_ge ?_ ?_
    · intro hc
      rw [if_pos hc] at h
      refine zw_push hm_131 dX11_tokenIs_66 (v := .inl (1 : Int32)) rfl ?_
      exact zw_bret hm_131 dX11_tokenIs_67 (by decide) h
    · intro hc
      rw [if_neg hc] at h
      refine zw_push hm_131 dX11_tokenIs_39 (v := .inr (.inr (some 64))) rfl ?_
      refine zw_gf hm_131 dX11_tokenIs_40 (v := .inr (.inr (some 65))) (zT_is hS s_64) (zT_t hS s_64) rfl f_11_9_11 (zT_f hS r_64_0) ?_
      refine zw_push hm_131 dX11_tokenIs_43 (v := .inr (.inr (some 64))) rfl ?_
      refine zw_gf hm_131 dX11_tokenIs_44 (v := .inl (mI S 64 2)) (zT_is hS s_64) (zT_t hS s_64) rfl f_11_92_11 rfl ?_
      refine zw_push hm_131 dX11_tokenIs_47 (v := .inl (0 : Int32)) rfl ?_
      refine zw_stk hm_131 dX11_tokenIs_48 (st₉ := [.inl ((mI S 64 2) + (0 : Int32)), .inr (.inr (some 65))]) rfl rfl ?_
      obtain ⟨hg, h⟩ := h
      refine zw_ba hm_131 dX11_tokenIs_49 (zT_is hS s_65) (zT_h hS s_65) rfl rfl hg ?_
      show ma_wp X d w 131 50 [(2, .inl (0 : Int32)), (0, .inr (.inr (some 64))), (1, .inr (.inr (some 14)))] [.inl (mI S 65 ((mI S 64 2) + (0 : Int32)).toNatClampNeg)] S _
      refine zw_push hm_131 dX11_tokenIs_50 (v := .inr (.inr (some 14))) rfl ?_
      refine zw_push hm_131 dX11_tokenIs_51 (v := .inl (0 : Int32)) rfl ?_
      refine zw_cv hm_131 dX11_tokenIs_52 v_11_293_17 hm_279 [.inl (0 : Int32)] [.inl (mI S 65 ((mI S 64 2) + (0 : Int32)).toNatClampNeg)] rfl rfl ⟨by omega, by omega⟩ rfl (tx_char (v := (110 : Int32)) (by decide) (by omega) (by omega) (by decide) (by decide) (by decide) (by decide) ?_)
      show ma_wp X d w 131 55 [(2, .inl (0 : Int32)), (0, .inr (.inr (some 64))), (1, .inr (.inr (some 14)))] [.inl (110 : Int32), .inl (mI S 65 ((mI S 64 2) + (0 : Int32)).toNatClampNeg)] S _
      refine zw_if2 hm_131 dX11_tokenIs_55 (t := 60) rfl zc2_eq ?_ ?_
      · intro hc
        rw [if_pos hc] at h
        refine zw_sto hm_131 dX11_tokenIs_60 [(2, .inl (1 : Int32)), (0, .inr (.inr (some 64))), (1, .inr (.inr (some 14)))] rfl rfl rfl ?_
        refine zw_goto hm_131 dX11_tokenIs_63 (t := 20) rfl ?_
        refine zw_push hm_131 dX11_tokenIs_20 (v := .inl (1 : Int32)) rfl ?_
        refine zw_push hm_131 dX11_tokenIs_21 (v := .inr (.inr (some 14))) rfl ?_
        refine zw_cv hm_131 dX11_tokenIs_22 v_11_288_17 hm_277 [] [.inl (1 : Int32)] rfl rfl ⟨by omega, by omega⟩ rfl (tx_len (v := (4 : Int32)) (by decide) (by omega) (by omega) rfl rfl ?_)
        show ma_wp X d w 131 25 [(2, .inl (1 : Int32)), (0, .inr (.inr (some 64))), (1, .inr (.inr (some 14)))] [.inl (4 : Int32), .inl (1 : Int32)] S _
        refine zw_if2 hm_131 dX11_tokenIs_25 (t := 66) rfl zc2_ge (fun hc => absurd hc (by decide)) (fun _ => ?_)
        refine zw_push hm_131 dX11_tokenIs_28 (v := .inr (.inr (some 64))) rfl ?_
        refine zw_gf hm_131 dX11_tokenIs_29 (v := .inl (mI S 64 2)) (zT_is hS s_64) (zT_t hS s_64) rfl f_11_92_11 rfl ?_
        refine zw_push hm_131 dX11_tokenIs_32 (v := .inl (1 : Int32)) rfl ?_
        refine zw_stk hm_131 dX11_tokenIs_33 (st₉ := [.inl ((mI S 64 2) + (1 : Int32))]) rfl rfl ?_
        refine zw_push hm_131 dX11_tokenIs_34 (v := .inl (100 : Int32)) rfl ?_
        refine zw_if2 hm_131 dX11_tokenIs_36 (t := 66) rfl zc2_ge ?_ ?_
        · intro hc
          rw [if_pos hc] at h
          refine zw_push hm_131 dX11_tokenIs_66 (v := .inl (1 : Int32)) rfl ?_
          exact zw_bret hm_131 dX11_tokenIs_67 (by decide) h
        · intro hc
          rw [if_neg hc] at h
          refine zw_push hm_131 dX11_tokenIs_39 (v := .inr (.inr (some 64))) rfl ?_
          refine zw_gf hm_131 dX11_tokenIs_40 (v := .inr (.inr (some 65))) (zT_is hS s_64) (zT_t hS s_64) rfl f_11_9_11 (zT_f hS r_64_0) ?_
          refine zw_push hm_131 dX11_tokenIs_43 (v := .inr (.inr (some 64))) rfl ?_
          refine zw_gf hm_131 dX11_tokenIs_44 (v := .inl (mI S 64 2)) (zT_is hS s_64) (zT_t hS s_64) rfl f_11_92_11 rfl ?_
          refine zw_push hm_131 dX11_tokenIs_47 (v := .inl (1 : Int32)) rfl ?_
          refine zw_stk hm_131 dX11_tokenIs_48 (st₉ := [.inl ((mI S 64 2) + (1 : Int32)), .inr (.inr (some 65))]) rfl rfl ?_
          obtain ⟨hg, h⟩ := h
          refine zw_ba hm_131 dX11_tokenIs_49 (zT_is hS s_65) (zT_h hS s_65) rfl rfl hg ?_
          show ma_wp X d w 131 50 [(2, .inl (1 : Int32)), (0, .inr (.inr (some 64))), (1, .inr (.inr (some 14)))] [.inl (mI S 65 ((mI S 64 2) + (1 : Int32)).toNatClampNeg)] S _
          refine zw_push hm_131 dX11_tokenIs_50 (v := .inr (.inr (some 14))) rfl ?_
          refine zw_push hm_131 dX11_tokenIs_51 (v := .inl (1 : Int32)) rfl ?_
          refine zw_cv hm_131 dX11_tokenIs_52 v_11_293_17 hm_279 [.inl (1 : Int32)] [.inl (mI S 65 ((mI S 64 2) + (1 : Int32)).toNatClampNeg)] rfl rfl ⟨by omega, by omega⟩ rfl (tx_char (v := (101 : Int32)) (by decide) (by omega) (by omega) (by decide) (by decide) (by decide) (by decide) ?_)
          show ma_wp X d w 131 55 [(2, .inl (1 : Int32)), (0, .inr (.inr (some 64))), (1, .inr (.inr (some 14)))] [.inl (101 : Int32), .inl (mI S 65 ((mI S 64 2) + (1 : Int32)).toNatClampNeg)] S _
          refine zw_if2 hm_131 dX11_tokenIs_55 (t := 60) rfl zc2_eq ?_ ?_
          · intro hc
            rw [if_pos hc] at h
            refine zw_sto hm_131 dX11_tokenIs_60 [(2, .inl (2 : Int32)), (0, .inr (.inr (some 64))), (1, .inr (.inr (some 14)))] rfl rfl rfl ?_
            refine zw_goto hm_131 dX11_tokenIs_63 (t := 20) rfl ?_
            refine zw_push hm_131 dX11_tokenIs_20 (v := .inl (2 : Int32)) rfl ?_
            refine zw_push hm_131 dX11_tokenIs_21 (v := .inr (.inr (some 14))) rfl ?_
            refine zw_cv hm_131 dX11_tokenIs_22 v_11_288_17 hm_277 [] [.inl (2 : Int32)] rfl rfl ⟨by omega, by omega⟩ rfl (tx_len (v := (4 : Int32)) (by decide) (by omega) (by omega) rfl rfl ?_)
            show ma_wp X d w 131 25 [(2, .inl (2 : Int32)), (0, .inr (.inr (some 64))), (1, .inr (.inr (some 14)))] [.inl (4 : Int32), .inl (2 : Int32)] S _
            refine zw_if2 hm_131 dX11_tokenIs_25 (t := 66) rfl zc2_ge (fun hc => absurd hc (by decide)) (fun _ => ?_)
            refine zw_push hm_131 dX11_tokenIs_28 (v := .inr (.inr (some 64))) rfl ?_
            refine zw_gf hm_131 dX11_tokenIs_29 (v := .inl (mI S 64 2)) (zT_is hS s_64) (zT_t hS s_64) rfl f_11_92_11 rfl ?_
            refine zw_push hm_131 dX11_tokenIs_32 (v := .inl (2 : Int32)) rfl ?_
            refine zw_stk hm_131 dX11_tokenIs_33 (st₉ := [.inl ((mI S 64 2) + (2 : Int32))]) rfl rfl ?_
            refine zw_push hm_131 dX11_tokenIs_34 (v := .inl (100 : Int32)) rfl ?_
            refine zw_if2 hm_131 dX11_tokenIs_36 (t := 66) rfl zc2_ge ?_ ?_
            · intro hc
              rw [if_pos hc] at h
              refine zw_push hm_131 dX11_tokenIs_66 (v := .inl (1 : Int32)) rfl ?_
              exact zw_bret hm_131 dX11_tokenIs_67 (by decide) h
            · intro hc
              rw [if_neg hc] at h
              refine zw_push hm_131 dX11_tokenIs_39 (v := .inr (.inr (some 64))) rfl ?_
              refine zw_gf hm_131 dX11_tokenIs_40 (v := .inr (.inr (some 65))) (zT_is hS s_64) (zT_t hS s_64) rfl f_11_9_11 (zT_f hS r_64_0) ?_
              refine zw_push hm_131 dX11_tokenIs_43 (v := .inr (.inr (some 64))) rfl ?_
              refine zw_gf hm_131 dX11_tokenIs_44 (v := .inl (mI S 64 2)) (zT_is hS s_64) (zT_t hS s_64) rfl f_11_92_11 rfl ?_
              refine zw_push hm_131 dX11_tokenIs_47 (v := .inl (2 : Int32)) rfl ?_
              refine zw_stk hm_131 dX11_tokenIs_48 (st₉ := [.inl ((mI S 64 2) + (2 : Int32)), .inr (.inr (some 65))]) rfl rfl ?_
              obtain ⟨hg, h⟩ := h
              refine zw_ba hm_131 dX11_tokenIs_49 (zT_is hS s_65) (zT_h hS s_65) rfl rfl hg ?_
              show ma_wp X d w 131 50 [(2, .inl (2 : Int32)), (0, .inr (.inr (some 64))), (1, .inr (.inr (some 14)))] [.inl (mI S 65 ((mI S 64 2) + (2 : Int32)).toNatClampNeg)] S _
              refine zw_push hm_131 dX11_tokenIs_50 (v := .inr (.inr (some 14))) rfl ?_
              refine zw_push hm_131 dX11_tokenIs_51 (v := .inl (2 : Int32)) rfl ?_
              refine zw_cv hm_131 dX11_tokenIs_52 v_11_293_17 hm_279 [.inl (2 : Int32)] [.inl (mI S 65 ((mI S 64 2) + (2 : Int32)).toNatClampNeg)] rfl rfl ⟨by omega, by omega⟩ rfl (tx_char (v := (120 : Int32)) (by decide) (by omega) (by omega) (by decide) (by decide) (by decide) (by decide) ?_)
              show ma_wp X d w 131 55 [(2, .inl (2 : Int32)), (0, .inr (.inr (some 64))), (1, .inr (.inr (some 14)))] [.inl (120 : Int32), .inl (mI S 65 ((mI S 64 2) + (2 : Int32)).toNatClampNeg)] S _
              refine zw_if2 hm_131 dX11_tokenIs_55 (t := 60) rfl zc2_eq ?_ ?_
              · intro hc
                rw [if_pos hc] at h
                refine zw_sto hm_131 dX11_tokenIs_60 [(2, .inl (3 : Int32)), (0, .inr (.inr (some 64))), (1, .inr (.inr (some 14)))] rfl rfl rfl ?_
                refine zw_goto hm_131 dX11_tokenIs_63 (t := 20) rfl ?_
                refine zw_push hm_131 dX11_tokenIs_20 (v := .inl (3 : Int32)) rfl ?_
                refine zw_push hm_131 dX11_tokenIs_21 (v := .inr (.inr (some 14))) rfl ?_
                refine zw_cv hm_131 dX11_tokenIs_22 v_11_288_17 hm_277 [] [.inl (3 : Int32)] rfl rfl ⟨by omega, by omega⟩ rfl (tx_len (v := (4 : Int32)) (by decide) (by omega) (by omega) rfl rfl ?_)
                show ma_wp X d w 131 25 [(2, .inl (3 : Int32)), (0, .inr (.inr (some 64))), (1, .inr (.inr (some 14)))] [.inl (4 : Int32), .inl (3 : Int32)] S _
                refine zw_if2 hm_131 dX11_tokenIs_25 (t := 66) rfl zc2_ge (fun hc => absurd hc (by decide)) (fun _ => ?_)
                refine zw_push hm_131 dX11_tokenIs_28 (v := .inr (.inr (some 64))) rfl ?_
                refine zw_gf hm_131 dX11_tokenIs_29 (v := .inl (mI S 64 2)) (zT_is hS s_64) (zT_t hS s_64) rfl f_11_92_11 rfl ?_
                refine zw_push hm_131 dX11_tokenIs_32 (v := .inl (3 : Int32)) rfl ?_
                refine zw_stk hm_131 dX11_tokenIs_33 (st₉ := [.inl ((mI S 64 2) + (3 : Int32))]) rfl rfl ?_
                refine zw_push hm_131 dX11_tokenIs_34 (v := .inl (100 : Int32)) rfl ?_
                refine zw_if2 hm_131 dX11_tokenIs_36 (t := 66) rfl zc2_ge ?_ ?_
                · intro hc
                  rw [if_pos hc] at h
                  refine zw_push hm_131 dX11_tokenIs_66 (v := .inl (1 : Int32)) rfl ?_
                  exact zw_bret hm_131 dX11_tokenIs_67 (by decide) h
                · intro hc
                  rw [if_neg hc] at h
                  refine zw_push hm_131 dX11_tokenIs_39 (v := .inr (.inr (some 64))) rfl ?_
                  refine zw_gf hm_131 dX11_tokenIs_40 (v := .inr (.inr (some 65))) (zT_is hS s_64) (zT_t hS s_64) rfl f_11_9_11 (zT_f hS r_64_0) ?_
                  refine zw_push hm_131 dX11_tokenIs_43 (v := .inr (.inr (some 64))) rfl ?_
                  refine zw_gf hm_131 dX11_tokenIs_44 (v := .inl (mI S 64 2)) (zT_is hS s_64) (zT_t hS s_64) rfl f_11_92_11 rfl ?_
                  refine zw_push hm_131 dX11_tokenIs_47 (v := .inl (3 : Int32)) rfl ?_
                  refine zw_stk hm_131 dX11_tokenIs_48 (st₉ := [.inl ((mI S 64 2) + (3 : Int32)), .inr (.inr (some 65))]) rfl rfl ?_
                  obtain ⟨hg, h⟩ := h
                  refine zw_ba hm_131 dX11_tokenIs_49 (zT_is hS s_65) (zT_h hS s_65) rfl rfl hg ?_
                  show ma_wp X d w 131 50 [(2, .inl (3 : Int32)), (0, .inr (.inr (some 64))), (1, .inr (.inr (some 14)))] [.inl (mI S 65 ((mI S 64 2) + (3 : Int32)).toNatClampNeg)] S _
                  refine zw_push hm_131 dX11_tokenIs_50 (v := .inr (.inr (some 14))) rfl ?_
                  refine zw_push hm_131 dX11_tokenIs_51 (v := .inl (3 : Int32)) rfl ?_
                  refine zw_cv hm_131 dX11_tokenIs_52 v_11_293_17 hm_279 [.inl (3 : Int32)] [.inl (mI S 65 ((mI S 64 2) + (3 : Int32)).toNatClampNeg)] rfl rfl ⟨by omega, by omega⟩ rfl (tx_char (v := (116 : Int32)) (by decide) (by omega) (by omega) (by decide) (by decide) (by decide) (by decide) ?_)
                  show ma_wp X d w 131 55 [(2, .inl (3 : Int32)), (0, .inr (.inr (some 64))), (1, .inr (.inr (some 14)))] [.inl (116 : Int32), .inl (mI S 65 ((mI S 64 2) + (3 : Int32)).toNatClampNeg)] S _
                  refine zw_if2 hm_131 dX11_tokenIs_55 (t := 60) rfl zc2_eq ?_ ?_
                  · intro hc
                    rw [if_pos hc] at h
                    refine zw_sto hm_131 dX11_tokenIs_60 [(2, .inl (4 : Int32)), (0, .inr (.inr (some 64))), (1, .inr (.inr (some 14)))] rfl rfl rfl ?_
                    refine zw_goto hm_131 dX11_tokenIs_63 (t := 20) rfl ?_
                    refine zw_push hm_131 dX11_tokenIs_20 (v := .inl (4 : Int32)) rfl ?_
                    refine zw_push hm_131 dX11_tokenIs_21 (v := .inr (.inr (some 14))) rfl ?_
                    refine zw_cv hm_131 dX11_tokenIs_22 v_11_288_17 hm_277 [] [.inl (4 : Int32)] rfl rfl ⟨by omega, by omega⟩ rfl (tx_len (v := (4 : Int32)) (by decide) (by omega) (by omega) rfl rfl ?_)
                    show ma_wp X d w 131 25 [(2, .inl (4 : Int32)), (0, .inr (.inr (some 64))), (1, .inr (.inr (some 14)))] [.inl (4 : Int32), .inl (4 : Int32)] S _
                    refine zw_if2 hm_131 dX11_tokenIs_25 (t := 66) rfl zc2_ge (fun _ => ?_) (fun hc => absurd (by decide) hc)
                    refine zw_push hm_131 dX11_tokenIs_66 (v := .inl (1 : Int32)) rfl ?_
                    exact zw_bret hm_131 dX11_tokenIs_67 (by decide) h
                  · intro hc
                    rw [if_neg hc] at h
                    refine zw_push hm_131 dX11_tokenIs_58 (v := .inl (0 : Int32)) rfl ?_
                    exact zw_bret hm_131 dX11_tokenIs_59 (by decide) h
              · intro hc
                rw [if_neg hc] at h
                refine zw_push hm_131 dX11_tokenIs_58 (v := .inl (0 : Int32)) rfl ?_
                exact zw_bret hm_131 dX11_tokenIs_59 (by decide) h
          · intro hc
            rw [if_neg hc] at h
            refine zw_push hm_131 dX11_tokenIs_58 (v := .inl (0 : Int32)) rfl ?_
            exact zw_bret hm_131 dX11_tokenIs_59 (by decide) h
      · intro hc
        rw [if_neg hc] at h
        refine zw_push hm_131 dX11_tokenIs_58 (v := .inl (0 : Int32)) rfl ?_
        exact zw_bret hm_131 dX11_tokenIs_59 (by decide) h
  · intro hc
    rw [if_neg hc] at h
    refine zw_push hm_131 dX11_tokenIs_16 (v := .inl (0 : Int32)) rfl ?_
    exact zw_bret hm_131 dX11_tokenIs_17 (by decide) h
theorem sp_131_64_14_sq {X : Nat × (Nat → Int32)} {d w : Nat} {f : Nat → Nat → Int32} {r : Nat → Nat → Option Nat} {C Z N : Nat} {Q : Option ma_V ⊕ Nat → ma_S → Prop} {I0 : Nat→Nat→Int32} {L0 : Nat→Nat→Int64} {R0 : zRT} {S : ma_S}  (hd : 5 ≤ d) (hw : 100 ≤ w) (hI : zY0 f r C Z N S) (hpre0 : zFm I0 L0 R0 S) (K : ∀ v S₉, zY0 f r C Z N S₉ → (v = 0 ∨ v = 1) → ((v = 1 ∧ zwd (f 65) (f 64 2) ((f 64 3).toInt - (f 64 2).toInt) 110 101 120 116 0 0 0) ∨ (v = 0 ∧ ¬ zwd (f 65) (f 64 2) ((f 64 3).toInt - (f 64 2).toInt) 110 101 120 116 0 0 0)) → (zFm I0 L0 R0 S₉) → Q (.inl (some (.inl v))) S₉) : ma_wp X d w 131 0 [(0, .inr (.inr (some 64))), (1, .inr (.inr (some 14)))] [] S Q := by
  refine g_131_64_14_sq_0  (by omega) (by omega) (zG_T hI) ?_
  have q1 : (mI S 64 3).toInt = (f 64 3).toInt := zG_zi hI rfl
  have f2 := zG_s hI (0) (100) (c := 64) (k := 3) (by decide)
  have q3 : (mI S 64 2).toInt = (f 64 2).toInt := zG_zi hI rfl
  have f4 := zG_s hI (0) (100) (c := 64) (k := 2) (by decide)
  first | have e5 : ((mI S 64 3) - (mI S 64 2)).toInt = (mI S 64 3).toInt - (mI S 64 2).toInt := i_sub (by omega) (by omega) | have b6 := i_bd ((mI S 64 3) - (mI S 64 2))
  have li7 : (4 : Int32).toInt = 4 := rfl
  refine zd (fun h8 => ?_) (fun h8 => ?_)
  · skip
    have g9 := i_eq h8
    have li10 : (100 : Int32).toInt = 100 := rfl
    first | have e11 : ((mI S 64 2) + (0 : Int32)).toInt = (mI S 64 2).toInt + (0) := i_addk rfl (by omega) (by omega) | have b12 := i_bd ((mI S 64 2) + (0 : Int32))
    refine zd (fun h13 => ?_) (fun h13 => ?_)
    · skip
      have g14 := i_le h13
      have li15 : (1 : Int32).toInt = 1 := rfl
      exact K ((1 : Int32)) _ hI (by decide) (show ((1 : Int32) = 1 ∧ zwd (f 65) (f 64 2) ((f 64 3).toInt - (f 64 2).toInt) 110 101 120 116 0 0 0) ∨ ((1 : Int32) = 0 ∧ ¬ zwd (f 65) (f 64 2) ((f 64 3).toInt - (f 64 2).toInt) 110 101 120 116 0 0 0) from by first | (rw [show f 65 = mI S 65 from funext (fun k => (zG_z hI rfl).symm), show f 64 2 = mI S 64 2 from (zG_z hI rfl).symm, show f 64 3 = mI S 64 3 from (zG_z hI rfl).symm]; exact Or.inl ⟨rfl, by rw [if_pos rfl]; omega, (by assumption), (by assumption), (by assumption), (by assumption), Or.inl rfl, Or.inl rfl, Or.inl rfl⟩) | (omega) | (exfalso; omega)) (show zFm I0 L0 R0 S from by first | (exact hpre0))
    · skip
      have g16 := i_nle h13
      refine ⟨i_ix (by omega) (by omega), ?_⟩
      have q17 : (mI S 65 ((mI S 64 2) + (0 : Int32)).toNatClampNeg).toInt = (f 65 ((mI S 64 2) + (0 : Int32)).toNatClampNeg).toInt := zG_zi hI rfl
      have b18 := i_bd (mI S 65 ((mI S 64 2) + (0 : Int32)).toNatClampNeg)
      have li19 : (110 : Int32).toInt = 110 := rfl
      refine zd (fun h20 => ?_) (fun h20 => ?_)
      · skip
        have g21 := i_eq h20
        first | have e22 : ((mI S 64 2) + (1 : Int32)).toInt = (mI S 64 2).toInt + (1) := i_addk rfl (by omega) (by omega) | have b23 := i_bd ((mI S 64 2) + (1 : Int32))
        refine zd (fun h24 => ?_) (fun h24 => ?_)
        · skip
          have g25 := i_le h24
          have li26 : (1 : Int32).toInt = 1 := rfl
          exact K ((1 : Int32)) _ hI (by decide) (show ((1 : Int32) = 1 ∧ zwd (f 65) (f 64 2) ((f 64 3).toInt - (f 64 2).toInt) 110 101 120 116 0 0 0) ∨ ((1 : Int32) = 0 ∧ ¬ zwd (f 65) (f 64 2) ((f 64 3).toInt - (f 64 2).toInt) 110 101 120 116 0 0 0) from by first | (rw [show f 65 = mI S 65 from funext (fun k => (zG_z hI rfl).symm), show f 64 2 = mI S 64 2 from (zG_z hI rfl).symm, show f 64 3 = mI S 64 3 from (zG_z hI rfl).symm]; exact Or.inl ⟨rfl, by rw [if_pos rfl]; omega, (by assumption), (by assumption), (by assumption), (by assumption), Or.inl rfl, Or.inl rfl, Or.inl rfl⟩) | (omega) | (exfalso; omega)) (show zFm I0 L0 R0 S from by first | (exact hpre0))
        · skip
          have g27 := i_nle h24
          refine ⟨i_ix (by omega) (by omega), ?_⟩
          have q28 : (mI S 65 ((mI S 64 2) + (1 : Int32)).toNatClampNeg).toInt = (f 65 ((mI S 64 2) + (1 : Int32)).toNatClampNeg).toInt := zG_zi hI rfl
          have b29 := i_bd (mI S 65 ((mI S 64 2) + (1 : Int32)).toNatClampNeg)
          have li30 : (101 : Int32).toInt = 101 := rfl
          refine zd (fun h31 => ?_) (fun h31 => ?_)
          · skip
            have g32 := i_eq h31
            first | have e33 : ((mI S 64 2) + (2 : Int32)).toInt = (mI S 64 2).toInt + (2) := i_addk rfl (by omega) (by omega) | have b34 := i_bd ((mI S 64 2) + (2 : Int32))
            refine zd (fun h35 => ?_) (fun h35 => ?_)
            · skip
              have g36 := i_le h35
              have li37 : (1 : Int32).toInt = 1 := rfl
              exact K ((1 : Int32)) _ hI (by decide) (show ((1 : Int32) = 1 ∧ zwd (f 65) (f 64 2) ((f 64 3).toInt - (f 64 2).toInt) 110 101 120 116 0 0 0) ∨ ((1 : Int32) = 0 ∧ ¬ zwd (f 65) (f 64 2) ((f 64 3).toInt - (f 64 2).toInt) 110 101 120 116 0 0 0) from by first | (rw [show f 65 = mI S 65 from funext (fun k => (zG_z hI rfl).symm), show f 64 2 = mI S 64 2 from (zG_z hI rfl).symm, show f 64 3 = mI S 64 3 from (zG_z hI rfl).symm]; exact Or.inl ⟨rfl, by rw [if_pos rfl]; omega, (by assumption), (by assumption), (by assumption), (by assumption), Or.inl rfl, Or.inl rfl, Or.inl rfl⟩) | (omega) | (exfalso; omega)) (show zFm I0 L0 R0 S from by first | (exact hpre0))
            · skip
              have g38 := i_nle h35
              refine ⟨i_ix (by omega) (by omega), ?_⟩
              have q39 : (mI S 65 ((mI S 64 2) + (2 : Int32)).toNatClampNeg).toInt = (f 65 ((mI S 64 2) + (2 : Int32)).toNatClampNeg).toInt := zG_zi hI rfl
              have b40 := i_bd (mI S 65 ((mI S 64 2) + (2 : Int32)).toNatClampNeg)
              have li41 : (120 : Int32).toInt = 120 := rfl
              refine zd (fun h42 => ?_) (fun h42 => ?_)
              · skip
                have g43 := i_eq h42
                first | have e44 : ((mI S 64 2) + (3 : Int32)).toInt = (mI S 64 2).toInt + (3) := i_addk rfl (by omega) (by omega) | have b45 := i_bd ((mI S 64 2) + (3 : Int32))
                refine zd (fun h46 => ?_) (fun h46 => ?_)
                · skip
                  have g47 := i_le h46
                  have li48 : (1 : Int32).toInt = 1 := rfl
                  exact K ((1 : Int32)) _ hI (by decide) (show ((1 : Int32) = 1 ∧ zwd (f 65) (f 64 2) ((f 64 3).toInt - (f 64 2).toInt) 110 101 120 116 0 0 0) ∨ ((1 : Int32) = 0 ∧ ¬ zwd (f 65) (f 64 2) ((f 64 3).toInt - (f 64 2).toInt) 110 101 120 116 0 0 0) from by first | (rw [show f 65 = mI S 65 from funext (fun k => (zG_z hI rfl).symm), show f 64 2 = mI S 64 2 from (zG_z hI rfl).symm, show f 64 3 = mI S 64 3 from (zG_z hI rfl).symm]; exact Or.inl ⟨rfl, by rw [if_pos rfl]; omega, (by assumption), (by assumption), (by assumption), (by assumption), Or.inl rfl, Or.inl rfl, Or.inl rfl⟩) | (omega) | (exfalso; omega)) (show zFm I0 L0 R0 S from by first | (exact hpre0))
                · skip
                  have g49 := i_nle h46
                  refine ⟨i_ix (by omega) (by omega), ?_⟩
                  have q50 : (mI S 65 ((mI S 64 2) + (3 : Int32)).toNatClampNeg).toInt = (f 65 ((mI S 64 2) + (3 : Int32)).toNatClampNeg).toInt := zG_zi hI rfl
                  have b51 := i_bd (mI S 65 ((mI S 64 2) + (3 : Int32)).toNatClampNeg)
                  have li52 : (116 : Int32).toInt = 116 := rfl
                  refine zd (fun h53 => ?_) (fun h53 => ?_)
                  · skip
                    have g54 := i_eq h53
                    have li55 : (1 : Int32).toInt = 1 := rfl
                    exact K ((1 : Int32)) _ hI (by decide) (show ((1 : Int32) = 1 ∧ zwd (f 65) (f 64 2) ((f 64 3).toInt - (f 64 2).toInt) 110 101 120 116 0 0 0) ∨ ((1 : Int32) = 0 ∧ ¬ zwd (f 65) (f 64 2) ((f 64 3).toInt - (f 64 2).toInt) 110 101 120 116 0 0 0) from by first | (rw [show f 65 = mI S 65 from funext (fun k => (zG_z hI rfl).symm), show f 64 2 = mI S 64 2 from (zG_z hI rfl).symm, show f 64 3 = mI S 64 3 from (zG_z hI rfl).symm]; exact Or.inl ⟨rfl, by rw [if_pos rfl]; omega, (by assumption), (by assumption), (by assumption), (by assumption), Or.inl rfl, Or.inl rfl, Or.inl rfl⟩) | (omega) | (exfalso; omega)) (show zFm I0 L0 R0 S from by first | (exact hpre0))
                  · skip
                    have g56 := i_ne h53
                    have li57 : (0 : Int32).toInt = 0 := rfl
                    exact K ((0 : Int32)) _ hI (by decide) (show ((0 : Int32) = 1 ∧ zwd (f 65) (f 64 2) ((f 64 3).toInt - (f 64 2).toInt) 110 101 120 116 0 0 0) ∨ ((0 : Int32) = 0 ∧ ¬ zwd (f 65) (f 64 2) ((f 64 3).toInt - (f 64 2).toInt) 110 101 120 116 0 0 0) from by first | (rw [show f 65 = mI S 65 from funext (fun k => (zG_z hI rfl).symm), show f 64 2 = mI S 64 2 from (zG_z hI rfl).symm, show f 64 3 = mI S 64 3 from (zG_z hI rfl).symm]; exact Or.inr ⟨rfl, fun z => absurd z.2.1 (by assumption)⟩) | (rw [show f 65 = mI S 65 from funext (fun k => (zG_z hI rfl).symm), show f 64 2 = mI S 64 2 from (zG_z hI rfl).symm, show f 64 3 = mI S 64 3 from (zG_z hI rfl).symm]; exact Or.inr ⟨rfl, fun z => absurd z.2.2.1 (by assumption)⟩) | (rw [show f 65 = mI S 65 from funext (fun k => (zG_z hI rfl).symm), show f 64 2 = mI S 64 2 from (zG_z hI rfl).symm, show f 64 3 = mI S 64 3 from (zG_z hI rfl).symm]; exact Or.inr ⟨rfl, fun z => absurd z.2.2.2.1 (by assumption)⟩) | (rw [show f 65 = mI S 65 from funext (fun k => (zG_z hI rfl).symm), show f 64 2 = mI S 64 2 from (zG_z hI rfl).symm, show f 64 3 = mI S 64 3 from (zG_z hI rfl).symm]; exact Or.inr ⟨rfl, fun z => absurd z.2.2.2.2.1 (by assumption)⟩) | (rw [show f 65 = mI S 65 from funext (fun k => (zG_z hI rfl).symm), show f 64 2 = mI S 64 2 from (zG_z hI rfl).symm, show f 64 3 = mI S 64 3 from (zG_z hI rfl).symm]; exact Or.inr ⟨rfl, fun z => by have y := z.1; rw [if_pos rfl] at y; omega⟩) | (omega) | (exfalso; omega)) (show zFm I0 L0 R0 S from by first | (exact hpre0))
              · skip
                have g58 := i_ne h42
                have li59 : (0 : Int32).toInt = 0 := rfl
                exact K ((0 : Int32)) _ hI (by decide) (show ((0 : Int32) = 1 ∧ zwd (f 65) (f 64 2) ((f 64 3).toInt - (f 64 2).toInt) 110 101 120 116 0 0 0) ∨ ((0 : Int32) = 0 ∧ ¬ zwd (f 65) (f 64 2) ((f 64 3).toInt - (f 64 2).toInt) 110 101 120 116 0 0 0) from by first | (rw [show f 65 = mI S 65 from funext (fun k => (zG_z hI rfl).symm), show f 64 2 = mI S 64 2 from (zG_z hI rfl).symm, show f 64 3 = mI S 64 3 from (zG_z hI rfl).symm]; exact Or.inr ⟨rfl, fun z => absurd z.2.1 (by assumption)⟩) | (rw [show f 65 = mI S 65 from funext (fun k => (zG_z hI rfl).symm), show f 64 2 = mI S 64 2 from (zG_z hI rfl).symm, show f 64 3 = mI S 64 3 from (zG_z hI rfl).symm]; exact Or.inr ⟨rfl, fun z => absurd z.2.2.1 (by assumption)⟩) | (rw [show f 65 = mI S 65 from funext (fun k => (zG_z hI rfl).symm), show f 64 2 = mI S 64 2 from (zG_z hI rfl).symm, show f 64 3 = mI S 64 3 from (zG_z hI rfl).symm]; exact Or.inr ⟨rfl, fun z => absurd z.2.2.2.1 (by assumption)⟩) | (rw [show f 65 = mI S 65 from funext (fun k => (zG_z hI rfl).symm), show f 64 2 = mI S 64 2 from (zG_z hI rfl).symm, show f 64 3 = mI S 64 3 from (zG_z hI rfl).symm]; exact Or.inr ⟨rfl, fun z => absurd z.2.2.2.2.1 (by assumption)⟩) | (rw [show f 65 = mI S 65 from funext (fun k => (zG_z hI rfl).symm), show f 64 2 = mI S 64 2 from (zG_z hI rfl).symm, show f 64 3 = mI S 64 3 from (zG_z hI rfl).symm]; exact Or.inr ⟨rfl, fun z => by have y := z.1; rw [if_pos rfl] at y; omega⟩) | (omega) | (exfalso; omega)) (show zFm I0 L0 R0 S from by first | (exact hpre0))
          · skip
            have g60 := i_ne h31
            have li61 : (0 : Int32).toInt = 0 := rfl
            exact K ((0 : Int32)) _ hI (by decide) (show ((0 : Int32) = 1 ∧ zwd (f 65) (f 64 2) ((f 64 3).toInt - (f 64 2).toInt) 110 101 120 116 0 0 0) ∨ ((0 : Int32) = 0 ∧ ¬ zwd (f 65) (f 64 2) ((f 64 3).toInt - (f 64 2).toInt) 110 101 120 116 0 0 0) from by first | (rw [show f 65 = mI S 65 from funext (fun k => (zG_z hI rfl).symm), show f 64 2 = mI S 64 2 from (zG_z hI rfl).symm, show f 64 3 = mI S 64 3 from (zG_z hI rfl).symm]; exact Or.inr ⟨rfl, fun z => absurd z.2.1 (by assumption)⟩) | (rw [show f 65 = mI S 65 from funext (fun k => (zG_z hI rfl).symm), show f 64 2 = mI S 64 2 from (zG_z hI rfl).symm, show f 64 3 = mI S 64 3 from (zG_z hI rfl).symm]; exact Or.inr ⟨rfl, fun z => absurd z.2.2.1 (by assumption)⟩) | (rw [show f 65 = mI S 65 from funext (fun k => (zG_z hI rfl).symm), show f 64 2 = mI S 64 2 from (zG_z hI rfl).symm, show f 64 3 = mI S 64 3 from (zG_z hI rfl).symm]; exact Or.inr ⟨rfl, fun z => absurd z.2.2.2.1 (by assumption)⟩) | (rw [show f 65 = mI S 65 from funext (fun k => (zG_z hI rfl).symm), show f 64 2 = mI S 64 2 from (zG_z hI rfl).symm, show f 64 3 = mI S 64 3 from (zG_z hI rfl).symm]; exact Or.inr ⟨rfl, fun z => absurd z.2.2.2.2.1 (by assumption)⟩) | (rw [show f 65 = mI S 65 from funext (fun k => (zG_z hI rfl).symm), show f 64 2 = mI S 64 2 from (zG_z hI rfl).symm, show f 64 3 = mI S 64 3 from (zG_z hI rfl).symm]; exact Or.inr ⟨rfl, fun z => by have y := z.1; rw [if_pos rfl] at y; omega⟩) | (omega) | (exfalso; omega)) (show zFm I0 L0 R0 S from by first | (exact hpre0))
      · skip
        have g62 := i_ne h20
        have li63 : (0 : Int32).toInt = 0 := rfl
        exact K ((0 : Int32)) _ hI (by decide) (show ((0 : Int32) = 1 ∧ zwd (f 65) (f 64 2) ((f 64 3).toInt - (f 64 2).toInt) 110 101 120 116 0 0 0) ∨ ((0 : Int32) = 0 ∧ ¬ zwd (f 65) (f 64 2) ((f 64 3).toInt - (f 64 2).toInt) 110 101 120 116 0 0 0) from by first | (rw [show f 65 = mI S 65 from funext (fun k => (zG_z hI rfl).symm), show f 64 2 = mI S 64 2 from (zG_z hI rfl).symm, show f 64 3 = mI S 64 3 from (zG_z hI rfl).symm]; exact Or.inr ⟨rfl, fun z => absurd z.2.1 (by assumption)⟩) | (rw [show f 65 = mI S 65 from funext (fun k => (zG_z hI rfl).symm), show f 64 2 = mI S 64 2 from (zG_z hI rfl).symm, show f 64 3 = mI S 64 3 from (zG_z hI rfl).symm]; exact Or.inr ⟨rfl, fun z => absurd z.2.2.1 (by assumption)⟩) | (rw [show f 65 = mI S 65 from funext (fun k => (zG_z hI rfl).symm), show f 64 2 = mI S 64 2 from (zG_z hI rfl).symm, show f 64 3 = mI S 64 3 from (zG_z hI rfl).symm]; exact Or.inr ⟨rfl, fun z => absurd z.2.2.2.1 (by assumption)⟩) | (rw [show f 65 = mI S 65 from funext (fun k => (zG_z hI rfl).symm), show f 64 2 = mI S 64 2 from (zG_z hI rfl).symm, show f 64 3 = mI S 64 3 from (zG_z hI rfl).symm]; exact Or.inr ⟨rfl, fun z => absurd z.2.2.2.2.1 (by assumption)⟩) | (rw [show f 65 = mI S 65 from funext (fun k => (zG_z hI rfl).symm), show f 64 2 = mI S 64 2 from (zG_z hI rfl).symm, show f 64 3 = mI S 64 3 from (zG_z hI rfl).symm]; exact Or.inr ⟨rfl, fun z => by have y := z.1; rw [if_pos rfl] at y; omega⟩) | (omega) | (exfalso; omega)) (show zFm I0 L0 R0 S from by first | (exact hpre0))
  · skip
    have g64 := i_ne h8
    have li65 : (0 : Int32).toInt = 0 := rfl
    exact K ((0 : Int32)) _ hI (by decide) (show ((0 : Int32) = 1 ∧ zwd (f 65) (f 64 2) ((f 64 3).toInt - (f 64 2).toInt) 110 101 120 116 0 0 0) ∨ ((0 : Int32) = 0 ∧ ¬ zwd (f 65) (f 64 2) ((f 64 3).toInt - (f 64 2).toInt) 110 101 120 116 0 0 0) from by first | (rw [show f 65 = mI S 65 from funext (fun k => (zG_z hI rfl).symm), show f 64 2 = mI S 64 2 from (zG_z hI rfl).symm, show f 64 3 = mI S 64 3 from (zG_z hI rfl).symm]; exact Or.inr ⟨rfl, fun z => absurd z.2.1 (by assumption)⟩) | (rw [show f 65 = mI S 65 from funext (fun k => (zG_z hI rfl).symm), show f 64 2 = mI S 64 2 from (zG_z hI rfl).symm, show f 64 3 = mI S 64 3 from (zG_z hI rfl).symm]; exact Or.inr ⟨rfl, fun z => absurd z.2.2.1 (by assumption)⟩) | (rw [show f 65 = mI S 65 from funext (fun k => (zG_z hI rfl).symm), show f 64 2 = mI S 64 2 from (zG_z hI rfl).symm, show f 64 3 = mI S 64 3 from (zG_z hI rfl).symm]; exact Or.inr ⟨rfl, fun z => absurd z.2.2.2.1 (by assumption)⟩) | (rw [show f 65 = mI S 65 from funext (fun k => (zG_z hI rfl).symm), show f 64 2 = mI S 64 2 from (zG_z hI rfl).symm, show f 64 3 = mI S 64 3 from (zG_z hI rfl).symm]; exact Or.inr ⟨rfl, fun z => absurd z.2.2.2.2.1 (by assumption)⟩) | (rw [show f 65 = mI S 65 from funext (fun k => (zG_z hI rfl).symm), show f 64 2 = mI S 64 2 from (zG_z hI rfl).symm, show f 64 3 = mI S 64 3 from (zG_z hI rfl).symm]; exact Or.inr ⟨rfl, fun z => by have y := z.1; rw [if_pos rfl] at y; omega⟩) | (omega) | (exfalso; omega)) (show zFm I0 L0 R0 S from by first | (exact hpre0))

/-! from 95.i20 -/
/-! the class opens a heap (written by wip/tools/gen18c.py) -/
theorem g_131_64_15_sq_0 {X : Nat × (Nat → Int32)} {d w : Nat} {S : ma_S} {Q : Option ma_V ⊕ Nat → ma_S → Prop}  (hd : 5 ≤ d) (hw : 100 ≤ w) (hS : zT S) (h : if ((mI S 64 3) - (mI S 64 2)) = (4 : Int32) then (if (100 : Int32) ≤ ((mI S 64 2) + (0 : Int32)) then (Q (.inl (some (.inl (1 : Int32)))) S) else ((0 ≤ ((mI S 64 2) + (0 : Int32)) ∧ ((mI S 64 2) + (0 : Int32)).toNatClampNeg < 100) ∧ (if (mI S 65 ((mI S 64 2) + (0 : Int32)).toNatClampNeg) = (98 : Int32) then (if (100 : Int32) ≤ ((mI S 64 2) + (1 : Int32)) then (Q (.inl (some (.inl (1 : Int32)))) S) else ((0 ≤ ((mI S 64 2) + (1 : Int32)) ∧ ((mI S 64 2) + (1 : Int32)).toNatClampNeg < 100) ∧ (if (mI S 65 ((mI S 64 2) + (1 : Int32)).toNatClampNeg) = (101 : Int32) then (if (100 : Int32) ≤ ((mI S 64 2) + (2 : Int32)) then (Q (.inl (some (.inl (1 : Int32)))) S) else ((0 ≤ ((mI S 64 2) + (2 : Int32)) ∧ ((mI S 64 2) + (2 : Int32)).toNatClampNeg < 100) ∧ (if (mI S 65 ((mI S 64 2) + (2 : Int32)).toNatClampNeg) = (115 : Int32) then (if (100 : Int32) ≤ ((mI S 64 2) + (3 : Int32)) then (Q (.inl (some (.inl (1 : Int32)))) S) else ((0 ≤ ((mI S 64 2) + (3 : Int32)) ∧ ((mI S 64 2) + (3 : Int32)).toNatClampNeg < 100) ∧ (if (mI S 65 ((mI S 64 2) + (3 : Int32)).toNatClampNeg) = (116 : Int32) then (Q (.inl (some (.inl (1 : Int32)))) S) else (Q (.inl (some (.inl (0 : Int32)))) S)))) else (Q (.inl (some (.inl (0 : Int32)))) S)))) else (Q (.inl (some (.inl (0 : Int32)))) S)))) else (Q (.inl (some (.inl (0 : Int32)))) S)))) else (Q (.inl (some (.inl (0 : Int32)))) S)) : ma_wp X d w 131 0 [(0, .inr (.inr (some 64))), (1, .inr (.inr (some 15)))] [] S Q := by
  refine zw_push hm_131 dX11_tokenIs_0 (v := .inr (.inr (some 64))) rfl ?_
  refine zw_gf hm_131 dX11_tokenIs_1 (v := .inl (mI S 64 3)) (zT_is hS s_64) (zT_t hS s_64) rfl f_11_275_11 rfl ?_
  refine zw_push hm_131 dX11_tokenIs_4 (v := .inr (.inr (some 64))) rfl ?_
  refine zw_gf hm_131 dX11_tokenIs_5 (v := .inl (mI S 64 2)) (zT_is hS s_64) (zT_t hS s_64) rfl f_11_92_11 rfl ?_
  refine zw_stk hm_131 dX11_tokenIs_8 (st₉ := [.inl ((mI S 64 3) - (mI S 64 2))]) rfl rfl ?_
  refine zw_push hm_131 dX11_tokenIs_9 (v := .inr (.inr (some 15))) rfl ?_
  refine zw_cv hm_131 dX11_tokenIs_10 v_11_288_17 hm_277 [] [.inl ((mI S 64 3) - (mI S 64 2))] rfl rfl ⟨by omega, by omega⟩ rfl (tx_len (v := (4 : Int32)) (by decide) (by omega) (by omega) rfl rfl ?_)
  show ma_wp X d w 131 13 [(0, .inr (.inr (some 64))), (1, .inr (.inr (some 15)))] [.inl (4 : Int32), .inl ((mI S 64 3) - (mI S 64 2))] S _
  refine zw_if2 hm_131 dX11_tokenIs_13 (t := 18) rfl zc2_eq ?_ ?_
  · intro hc
    rw [if_pos hc] at h
    refine zw_push hm_131 dX11_tokenIs_18 (v := .inl (0 : Int32)) rfl ?_
    refine zw_sto hm_131 dX11_tokenIs_19 [(2, .inl (0 : Int32)), (0, .inr (.inr (some 64))), (1, .inr (.inr (some 15)))] rfl rfl rfl ?_
    refine zw_push hm_131 dX11_tokenIs_20 (v := .inl (0 : Int32)) rfl ?_
    refine zw_push hm_131 dX11_tokenIs_21 (v := .inr (.inr (some 15))) rfl ?_
    refine zw_cv hm_131 dX11_tokenIs_22 v_11_288_17 hm_277 [] [.inl (0 : Int32)] rfl rfl ⟨by omega, by omega⟩ rfl (tx_len (v := (4 : Int32)) (by decide) (by omega) (by omega) rfl rfl ?_)
    show ma_wp X d w 131 25 [(2, .inl (0 : Int32)), (0, .inr (.inr (some 64))), (1, .inr (.inr (some 15)))] [.inl (4 : Int32), .inl (0 : Int32)] S _
    refine zw_if2 hm_131 dX11_tokenIs_25 (t := 66) rfl zc2_ge (fun hc => absurd hc (by decide)) (fun _ => ?_)
    refine zw_push hm_131 dX11_tokenIs_28 (v := .inr (.inr (some 64))) rfl ?_
    refine zw_gf hm_131 dX11_tokenIs_29 (v := .inl (mI S 64 2)) (zT_is hS s_64) (zT_t hS s_64) rfl f_11_92_11 rfl ?_
    refine zw_push hm_131 dX11_tokenIs_32 (v := .inl (0 : Int32)) rfl ?_
    refine zw_stk hm_131 dX11_tokenIs_33 (st₉ := [.inl ((mI S 64 2) + (0 : Int32))]) rfl rfl ?_
    refine zw_push hm_131 dX11_tokenIs_34 (v := .inl (100 : Int32)) rfl ?_
    refine zw_if2 hm_131 dX11_tokenIs_36 (t := 66) rfl zc2_ge ?_ ?_
    · intro hc
      rw [if_pos hc] at h
      refine zw_push hm_131 dX11_tokenIs_66 (v := .inl (1 : Int32)) rfl ?_
      exact zw_bret hm_131 dX11_tokenIs_67 (by decide) h
    · intro hc
      rw [if_neg hc] at h
      refine zw_push hm_131 dX11_tokenIs_39 (v := .inr (.inr (some 64))) rfl ?_
      refine zw_gf hm_131 dX11_tokenIs_40 (v := .inr (.inr (some 65))) (zT_is hS s_64) (zT_t hS s_64) rfl f_11_9_11 (zT_f hS r_64_0) ?_
      refine zw_push hm_131 dX11_tokenIs_43 (v := .inr (.inr (some 64))) rfl ?_
      refine zw_gf hm_131 dX11_tokenIs_44 (v := .inl (mI S 64 2)) (zT_is hS s_64) (zT_t hS s_64) rfl f_11_92_11 rfl ?_
      refine zw_push hm_131 dX11_tokenIs_47 (v := .inl (0 : Int32)) rfl ?_
      refine zw_stk hm_131 dX11_tokenIs_48 (st₉ := [.inl ((mI S 64 2) + (0 : Int32)), .inr (.inr (some 65))]) rfl rfl ?_
      obtain ⟨hg, h⟩ := h
      refine zw_ba hm_131 dX11_tokenIs_49 (zT_is hS s_65) (zT_h hS s_65) rfl rfl hg ?_
      show ma_wp X d w 131 50 [(2, .inl (0 : Int32)), (0, .inr (.inr (some 64))), (1, .inr (.inr (some 15)))] [.inl (mI S 65 ((mI S 64 2) + (0 : Int32)).toNatClampNeg)] S _
      refine zw_push hm_131 dX11_tokenIs_50 (v := .inr (.inr (some 15))) rfl ?_
      refine zw_push hm_131 dX11_tokenIs_51 (v := .inl (0 : Int32)) rfl ?_
      refine zw_cv hm_131 dX11_tokenIs_52 v_11_293_17 hm_279 [.inl (0 : Int32)] [.inl (mI S 65 ((mI S 64 2) + (0 : Int32)).toNatClampNeg)] rfl rfl ⟨by omega, by omega⟩ rfl (tx_char (v := (98 : Int32)) (by decide) (by omega) (by omega) (by decide) (by decide) (by decide) (by decide) ?_)
      show ma_wp X d w 131 55 [(2, .inl (0 : Int32)), (0, .inr (.inr (some 64))), (1, .inr (.inr (some 15)))] [.inl (98 : Int32), .inl (mI S 65 ((mI S 64 2) + (0 : Int32)).toNatClampNeg)] S _
      refine zw_if2 hm_131 dX11_tokenIs_55 (t := 60) rfl zc2_eq ?_ ?_
      · intro hc
        rw [if_pos hc] at h
        refine zw_sto hm_131 dX11_tokenIs_60 [(2, .inl (1 : Int32)), (0, .inr (.inr (some 64))), (1, .inr (.inr (some 15)))] rfl rfl rfl ?_
        refine zw_goto hm_131 dX11_tokenIs_63 (t := 20) rfl ?_
        refine zw_push hm_131 dX11_tokenIs_20 (v := .inl (1 : Int32)) rfl ?_
        refine zw_push hm_131 dX11_tokenIs_21 (v := .inr (.inr (some 15))) rfl ?_
        refine zw_cv hm_131 dX11_tokenIs_22 v_11_288_17 hm_277 [] [.inl (1 : Int32)] rfl rfl ⟨by omega, by omega⟩ rfl (tx_len (v := (4 : Int32)) (by decide) (by omega) (by omega) rfl rfl ?_)
        show ma_wp X d w 131 25 [(2, .inl (1 : Int32)), (0, .inr (.inr (some 64))), (1, .inr (.inr (some 15)))] [.inl (4 : Int32), .inl (1 : Int32)] S _
        refine zw_if2 hm_131 dX11_tokenIs_25 (t := 66) rfl zc2_ge (fun hc => absurd hc (by decide)) (fun _ => ?_)
        refine zw_push hm_131 dX11_tokenIs_28 (v := .inr (.inr (some 64))) rfl ?_
        refine zw_gf hm_131 dX11_tokenIs_29 (v := .inl (mI S 64 2)) (zT_is hS s_64) (zT_t hS s_64) rfl f_11_92_11 rfl ?_
        refine zw_push hm_131 dX11_tokenIs_32 (v := .inl (1 : Int32)) rfl ?_
        refine zw_stk hm_131 dX11_tokenIs_33 (st₉ := [.inl ((mI S 64 2) + (1 : Int32))]) rfl rfl ?_
        refine zw_push hm_131 dX11_tokenIs_34 (v := .inl (100 : Int32)) rfl ?_
        refine zw_if2 hm_131 dX11_tokenIs_36 (t := 66) rfl zc2_ge ?_ ?_
        · intro hc
          rw [if_pos hc] at h
          refine zw_push hm_131 dX11_tokenIs_66 (v := .inl (1 : Int32)) rfl ?_
          exact zw_bret hm_131 dX11_tokenIs_67 (by decide) h
        · intro hc
          rw [if_neg hc] at h
          refine zw_push hm_131 dX11_tokenIs_39 (v := .inr (.inr (some 64))) rfl ?_
          refine zw_gf hm_131 dX11_tokenIs_40 (v := .inr (.inr (some 65))) (zT_is hS s_64) (zT_t hS s_64) rfl f_11_9_11 (zT_f hS r_64_0) ?_
          refine zw_push hm_131 dX11_tokenIs_43 (v := .inr (.inr (some 64))) rfl ?_
          refine zw_gf hm_131 dX11_tokenIs_44 (v := .inl (mI S 64 2)) (zT_is hS s_64) (zT_t hS s_64) rfl f_11_92_11 rfl ?_
          refine zw_push hm_131 dX11_tokenIs_47 (v := .inl (1 : Int32)) rfl ?_
          refine zw_stk hm_131 dX11_tokenIs_48 (st₉ := [.inl ((mI S 64 2) + (1 : Int32)), .inr (.inr (some 65))]) rfl rfl ?_
          obtain ⟨hg, h⟩ := h
          refine zw_ba hm_131 dX11_tokenIs_49 (zT_is hS s_65) (zT_h hS s_65) rfl rfl hg ?_
          show ma_wp X d w 131 50 [(2, .inl (1 : Int32)), (0, .inr (.inr (some 64))), (1, .inr (.inr (some 15)))] [.inl (mI S 65 ((mI S 64 2) + (1 : Int32)).toNatClampNeg)] S _
          refine zw_push hm_131 dX11_tokenIs_50 (v := .inr (.inr (some 15))) rfl ?_
          refine zw_push hm_131 dX11_tokenIs_51 (v := .inl (1 : Int32)) rfl ?_
          refine zw_cv hm_131 dX11_tokenIs_52 v_11_293_17 hm_279 [.inl (1 : Int32)] [.inl (mI S 65 ((mI S 64 2) + (1 : Int32)).toNatClampNeg)] rfl rfl ⟨by omega, by omega⟩ rfl (tx_char (v := (101 : Int32)) (by decide) (by omega) (by omega) (by decide) (by decide) (by decide) (by decide) ?_)
          show ma_wp X d w 131 55 [(2, .inl (1 : Int32)), (0, .inr (.inr (some 64))), (1, .inr (.inr (some 15)))] [.inl (101 : Int32), .inl (mI S 65 ((mI S 64 2) + (1 : Int32)).toNatClampNeg)] S _
          refine zw_if2 hm_131 dX11_tokenIs_55 (t := 60) rfl zc2_eq ?_ ?_
          · intro hc
            rw [if_pos hc] at h
            refine zw_sto hm_131 dX11_tokenIs_60 [(2, .inl (2 : Int32)), (0, .inr (.inr (some 64))), (1, .inr (.inr (some 15)))] rfl rfl rfl ?_
            refine zw_goto hm_131 dX11_tokenIs_63 (t := 20) rfl ?_
            refine zw_push hm_131 dX11_tokenIs_20 (v := .inl (2 : Int32)) rfl ?_
            refine zw_push hm_131 dX11_tokenIs_21 (v := .inr (.inr (some 15))) rfl ?_
            refine zw_cv hm_131 dX11_tokenIs_22 v_11_288_17 hm_277 [] [.inl (2 : Int32)] rfl rfl ⟨by omega, by omega⟩ rfl (tx_len (v := (4 : Int32)) (by decide) (by omega) (by omega) rfl rfl ?_)
            show ma_wp X d w 131 25 [(2, .inl (2 : Int32)), (0, .inr (.inr (some 64))), (1, .inr (.inr (some 15)))] [.inl (4 : Int32), .inl (2 : Int32)] S _
            refine zw_if2 hm_131 dX11_tokenIs_25 (t := 66) rfl zc2_ge (fun hc => absurd hc (by decide)) (fun _ => ?_)
            refine zw_push hm_131 dX11_tokenIs_28 (v := .inr (.inr (some 64))) rfl ?_
            refine zw_gf hm_131 dX11_tokenIs_29 (v := .inl (mI S 64 2)) (zT_is hS s_64) (zT_t hS s_64) rfl f_11_92_11 rfl ?_
            refine zw_push hm_131 dX11_tokenIs_32 (v := .inl (2 : Int32)) rfl ?_
            refine zw_stk hm_131 dX11_tokenIs_33 (st₉ := [.inl ((mI S 64 2) + (2 : Int32))]) rfl rfl ?_
            refine zw_push hm_131 dX11_tokenIs_34 (v := .inl (100 : Int32)) rfl ?_
            refine zw_if2 hm_131 dX11_tokenIs_36 (t := 66) rfl zc2_ge ?_ ?_
            · intro hc
              rw [if_pos hc] at h
              refine zw_push hm_131 dX11_tokenIs_66 (v := .inl (1 : Int32)) rfl ?_
              exact zw_bret hm_131 dX11_tokenIs_67 (by decide) h
            · intro hc
              rw [if_neg hc] at h
              refine zw_push hm_131 dX11_tokenIs_39 (v := .inr (.inr (some 64))) rfl ?_
              refine zw_gf hm_131 dX11_tokenIs_40 (v := .inr (.inr (some 65))) (zT_is hS s_64) (zT_t hS s_64) rfl f_11_9_11 (zT_f hS r_64_0) ?_
              refine zw_push hm_131 dX11_tokenIs_43 (v := .inr (.inr (some 64))) rfl ?_
              refine zw_gf hm_131 dX11_tokenIs_44 (v := .inl (mI S 64 2)) (zT_is hS s_64) (zT_t hS s_64) rfl f_11_92_11 rfl ?_
              refine zw_push hm_131 dX11_tokenIs_47 (v := .inl (2 : Int32)) rfl ?_
              refine zw_stk hm_131 dX11_tokenIs_48 (st₉ := [.inl ((mI S 64 2) + (2 : Int32)), .inr (.inr (some 65))]) rfl rfl ?_
              obtain ⟨hg, h⟩ := h
              refine zw_ba hm_131 dX11_tokenIs_49 (zT_is hS s_65) (zT_h hS s_65) rfl rfl hg ?_
              show ma_wp X d w 131 50 [(2, .inl (2 : Int32)), (0, .inr (.inr (some 64))), (1, .inr (.inr (some 15)))] [.inl (mI S 65 ((mI S 64 2) + (2 : Int32)).toNatClampNeg)] S _
              refine zw_push hm_131 dX11_tokenIs_50 (v := .inr (.inr (some 15))) rfl ?_
              refine zw_push hm_131 dX11_tokenIs_51 (v := .inl (2 : Int32)) rfl ?_
              refine zw_cv hm_131 dX11_tokenIs_52 v_11_293_17 hm_279 [.inl (2 : Int32)] [.inl (mI S 65 ((mI S 64 2) + (2 : Int32)).toNatClampNeg)] rfl rfl ⟨by omega, by omega⟩ rfl (tx_char (v := (115 : Int32)) (by decide) (by omega) (by omega) (by decide) (by decide) (by decide) (by decide) ?_)
              show ma_wp X d w 131 55 [(2, .inl (2 : Int32)), (0, .inr (.inr (some 64))), (1, .inr (.inr (some 15)))] [.inl (115 : Int32), .inl (mI S 65 ((mI S 64 2) + (2 : Int32)).toNatClampNeg)] S _
              refine zw_if2 hm_131 dX11_tokenIs_55 (t := 60) rfl zc2_eq ?_ ?_
              · intro hc
                rw [if_pos hc] at h
                refine zw_sto hm_131 dX11_tokenIs_60 [(2, .inl (3 : Int32)), (0, .inr (.inr (some 64))), (1, .inr (.inr (some 15)))] rfl rfl rfl ?_
                refine zw_goto hm_131 dX11_tokenIs_63 (t := 20) rfl ?_
                refine zw_push hm_131 dX11_tokenIs_20 (v := .inl (3 : Int32)) rfl ?_
                refine zw_push hm_131 dX11_tokenIs_21 (v := .inr (.inr (some 15))) rfl ?_
                refine zw_cv hm_131 dX11_tokenIs_22 v_11_288_17 hm_277 [] [.inl (3 : Int32)] rfl rfl ⟨by omega, by omega⟩ rfl (tx_len (v := (4 : Int32)) (by decide) (by omega) (by omega) rfl rfl ?_)
                show ma_wp X d w 131 25 [(2, .inl (3 : Int32)), (0, .inr (.inr (some 64))), (1, .inr (.inr (some 15)))] [.inl (4 : Int32), .inl (3 : Int32)] S _
                refine zw_if2 hm_131 dX11_tokenIs_25 (t := 66) rfl zc2_ge (fun hc => absurd hc (by decide)) (fun _ => ?_)
                refine zw_push hm_131 dX11_tokenIs_28 (v := .inr (.inr (some 64))) rfl ?_
                refine zw_gf hm_131 dX11_tokenIs_29 (v := .inl (mI S 64 2)) (zT_is hS s_64) (zT_t hS s_64) rfl f_11_92_11 rfl ?_
                refine zw_push hm_131 dX11_tokenIs_32 (v := .inl (3 : Int32)) rfl ?_
                refine zw_stk hm_131 dX11_tokenIs_33 (st₉ := [.inl ((mI S 64 2) + (3 : Int32))]) rfl rfl ?_
                refine zw_push hm_131 dX11_tokenIs_34 (v := .inl (100 : Int32)) rfl ?_
                refine zw_if2 hm_131 dX11_tokenIs_36 (t := 66) rfl zc2_ge ?_ ?_
                · intro hc
                  rw [if_pos hc] at h
                  refine zw_push hm_131 dX11_tokenIs_66 (v := .inl (1 : Int32)) rfl ?_
                  exact zw_bret hm_131 dX11_tokenIs_67 (by decide) h
                · intro hc
                  rw [if_neg hc] at h
                  refine zw_push hm_131 dX11_tokenIs_39 (v := .inr (.inr (some 64))) rfl ?_
                  refine zw_gf hm_131 dX11_tokenIs_40 (v := .inr (.inr (some 65))) (zT_is hS s_64) (zT_t hS s_64) rfl f_11_9_11 (zT_f hS r_64_0) ?_
                  refine zw_push hm_131 dX11_tokenIs_43 (v := .inr (.inr (some 64))) rfl ?_
                  refine zw_gf hm_131 dX11_tokenIs_44 (v := .inl (mI S 64 2)) (zT_is hS s_64) (zT_t hS s_64) rfl f_11_92_11 rfl ?_
                  refine zw_push hm_131 dX11_tokenIs_47 (v := .inl (3 : Int32)) rfl ?_
                  refine zw_stk hm_131 dX11_tokenIs_48 (st₉ := [.inl ((mI S 64 2) + (3 : Int32)), .inr (.inr (some 65))]) rfl rfl ?_
                  obtain ⟨hg, h⟩ := h
                  refine zw_ba hm_131 dX11_tokenIs_49 (zT_is hS s_65) (zT_h hS s_65) rfl rfl hg ?_
                  show ma_wp X d w 131 50 [(2, .inl (3 : Int32)), (0, .inr (.inr (some 64))), (1, .inr (.inr (some 15)))] [.inl (mI S 65 ((mI S 64 2) + (3 : Int32)).toNatClampNeg)] S _
                  refine zw_push hm_131 dX11_tokenIs_50 (v := .inr (.inr (some 15))) rfl ?_
                  refine zw_push hm_131 dX11_tokenIs_51 (v := .inl (3 : Int32)) rfl ?_
                  refine zw_cv hm_131 dX11_tokenIs_52 v_11_293_17 hm_279 [.inl (3 : Int32)] [.inl (mI S 65 ((mI S 64 2) + (3 : Int32)).toNatClampNeg)] rfl rfl ⟨by omega, by omega⟩ rfl (tx_char (v := (116 : Int32)) (by decide) (by omega) (by omega) (by decide) (by decide) (by decide) (by decide) ?_)
                  show ma_wp X d w 131 55 [(2, .inl (3 : Int32)), (0, .inr (.inr (some 64))), (1, .inr (.inr (some 15)))] [.inl (116 : Int32), .inl (mI S 65 ((mI S 64 2) + (3 : Int32)).toNatClampNeg)] S _
                  refine zw_if2 hm_131 dX11_tokenIs_55 (t := 60) rfl zc2_eq ?_ ?_
                  · intro hc
                    rw [if_pos hc] at h
                    refine zw_sto hm_131 dX11_tokenIs_60 [(2, .inl (4 : Int32)), (0, .inr (.inr (some 64))), (1, .inr (.inr (some 15)))] rfl rfl rfl ?_
                    refine zw_goto hm_131 dX11_tokenIs_63 (t := 20) rfl ?_
                    refine zw_push hm_131 dX11_tokenIs_20 (v := .inl (4 : Int32)) rfl ?_
                    refine zw_push hm_131 dX11_tokenIs_21 (v := .inr (.inr (some 15))) rfl ?_
                    refine zw_cv hm_131 dX11_tokenIs_22 v_11_288_17 hm_277 [] [.inl (4 : Int32)] rfl rfl ⟨by omega, by omega⟩ rfl (tx_len (v := (4 : Int32)) (by decide) (by omega) (by omega) rfl rfl ?_)
                    show ma_wp X d w 131 25 [(2, .inl (4 : Int32)), (0, .inr (.inr (some 64))), (1, .inr (.inr (some 15)))] [.inl (4 : Int32), .inl (4 : Int32)] S _
                    refine zw_if2 hm_131 dX11_tokenIs_25 (t := 66) rfl zc2_ge (fun _ => ?_) (fun hc => absurd (by decide) hc)
                    refine zw_push hm_131 dX11_tokenIs_66 (v := .inl (1 : Int32)) rfl ?_
                    exact zw_bret hm_131 dX11_tokenIs_67 (by decide) h
                  · intro hc
                    rw [if_neg hc] at h
                    refine zw_push hm_131 dX11_tokenIs_58 (v := .inl (0 : Int32)) rfl ?_
                    exact zw_bret hm_131 dX11_tokenIs_59 (by decide) h
              · intro hc
                rw [if_neg hc] at h
                refine zw_push hm_131 dX11_tokenIs_58 (v := .inl (0 : Int32)) rfl ?_
                exact zw_bret hm_131 dX11_tokenIs_59 (by decide) h
          · intro hc
            rw [if_neg hc] at h
            refine zw_push hm_131 dX11_tokenIs_58 (v := .inl (0 : Int32)) rfl ?_
            exact zw_bret hm_131 dX11_tokenIs_59 (by decide) h
      · intro hc
        rw [if_neg hc] at h
        refine zw_push hm_131 dX11_tokenIs_58 (v := .inl (0 : Int32)) rfl ?_
        exact zw_bret hm_131 dX11_tokenIs_59 (by decide) h
  · intro hc
    rw [if_neg hc] at h
    refine zw_push hm_131 dX11_tokenIs_16 (v := .inl (0 : Int32)) rfl ?_
    exact zw_bret hm_131 dX11_tokenIs_17 (by decide) h
theorem sp_131_64_15_sq {X : Nat × (Nat → Int32)} {d w : Nat} {f : Nat → Nat → Int32} {r : Nat → Nat → Option Nat} {C Z N : Nat} {Q : Option ma_V ⊕ Nat → ma_S → Prop} {I0 : Nat→Nat→Int32} {L0 : Nat→Nat→Int64} {R0 : zRT} {S : ma_S}  (hd : 5 ≤ d) (hw : 100 ≤ w) (hI : zY0 f r C Z N S) (hpre0 : zFm I0 L0 R0 S) (K : ∀ v S₉, zY0 f r C Z N S₉ → (v = 0 ∨ v = 1) → ((v = 1 ∧ zwd (f 65) (f 64 2) ((f 64 3).toInt - (f 64 2).toInt) 98 101 115 116 0 0 0) ∨ (v = 0 ∧ ¬ zwd (f 65) (f 64 2) ((f 64 3).toInt - (f 64 2).toInt) 98 101 115 116 0 0 0)) → (zFm I0 L0 R0 S₉) → Q (.inl (some (.inl v))) S₉) : ma_wp X d w 131 0 [(0, .inr (.inr (some 64))), (1, .inr (.inr (some 15)))] [] S Q := by
  refine g_131_64_15_sq_0  (by omega) (by omega) (zG_T hI) ?_
  have q1 : (mI S 64 3).toInt = (f 64 3).toInt := zG_zi hI rfl
  have f2 := zG_s hI (0) (100) (c := 64) (k := 3) (by decide)
  have q3 : (mI S 64 2).toInt = (f 64 2).toInt := zG_zi hI rfl
  have f4 := zG_s hI (0) (100) (c := 64) (k := 2) (by decide)
  first | have e5 : ((mI S 64 3) - (mI S 64 2)).toInt = (mI S 64 3).toInt - (mI S 64 2).toInt := i_sub (by omega) (by omega) | have b6 := i_bd ((mI S 64 3) - (mI S 64 2))
  have li7 : (4 : Int32).toInt = 4 := rfl
  refine zd (fun h8 => ?_) (fun h8 => ?_)
  · skip
    have g9 := i_eq h8
    have li10 : (100 : Int32).toInt = 100 := rfl
    first | have e11 : ((mI S 64 2) + (0 : Int32)).toInt = (mI S 64 2).toInt + (0) := i_addk rfl (by omega) (by omega) | have b12 := i_bd ((mI S 64 2) + (0 : Int32))
    refine zd (fun h13 => ?_) (fun h13 => ?_)
    · skip
      have g14 := i_le h13
      have li15 : (1 : Int32).toInt = 1 := rfl
      exact K ((1 : Int32)) _ hI (by decide) (show ((1 : Int32) = 1 ∧ zwd (f 65) (f 64 2) ((f 64 3).toInt - (f 64 2).toInt) 98 101 115 116 0 0 0) ∨ ((1 : Int32) = 0 ∧ ¬ zwd (f 65) (f 64 2) ((f 64 3).toInt - (f 64 2).toInt) 98 101 115 116 0 0 0) from by first | (rw [show f 65 = mI S 65 from funext (fun k => (zG_z hI rfl).symm), show f 64 2 = mI S 64 2 from (zG_z hI rfl).symm, show f 64 3 = mI S 64 3 from (zG_z hI rfl).symm]; exact Or.inl ⟨rfl, by rw [if_pos rfl]; omega, (by assumption), (by assumption), (by assumption), (by assumption), Or.inl rfl, Or.inl rfl, Or.inl rfl⟩) | (omega) | (exfalso; omega)) (show zFm I0 L0 R0 S from by first | (exact hpre0))
    · skip
      have g16 := i_nle h13
      refine ⟨i_ix (by omega) (by omega), ?_⟩
      have q17 : (mI S 65 ((mI S 64 2) + (0 : Int32)).toNatClampNeg).toInt = (f 65 ((mI S 64 2) + (0 : Int32)).toNatClampNeg).toInt := zG_zi hI rfl
      have b18 := i_bd (mI S 65 ((mI S 64 2) + (0 : Int32)).toNatClampNeg)
      have li19 : (98 : Int32).toInt = 98 := rfl
      refine zd (fun h20 => ?_) (fun h20 => ?_)
      · skip
        have g21 := i_eq h20
        first | have e22 : ((mI S 64 2) + (1 : Int32)).toInt = (mI S 64 2).toInt + (1) := i_addk rfl (by omega) (by omega) | have b23 := i_bd ((mI S 64 2) + (1 : Int32))
        refine zd (fun h24 => ?_) (fun h24 => ?_)
        · skip
          have g25 := i_le h24
          have li26 : (1 : Int32).toInt = 1 := rfl
          exact K ((1 : Int32)) _ hI (by decide) (show ((1 : Int32) = 1 ∧ zwd (f 65) (f 64 2) ((f 64 3).toInt - (f 64 2).toInt) 98 101 115 116 0 0 0) ∨ ((1 : Int32) = 0 ∧ ¬ zwd (f 65) (f 64 2) ((f 64 3).toInt - (f 64 2).toInt) 98 101 115 116 0 0 0) from by first | (rw [show f 65 = mI S 65 from funext (fun k => (zG_z hI rfl).symm), show f 64 2 = mI S 64 2 from (zG_z hI rfl).symm, show f 64 3 = mI S 64 3 from (zG_z hI rfl).symm]; exact Or.inl ⟨rfl, by rw [if_pos rfl]; omega, (by assumption), (by assumption), (by assumption), (by assumption), Or.inl rfl, Or.inl rfl, Or.inl rfl⟩) | (omega) | (exfalso; omega)) (show zFm I0 L0 R0 S from by first | (exact hpre0))
        · skip
          have g27 := i_nle h24
          refine ⟨i_ix (by omega) (by omega), ?_⟩
          have q28 : (mI S 65 ((mI S 64 2) + (1 : Int32)).toNatClampNeg).toInt = (f 65 ((mI S 64 2) + (1 : Int32)).toNatClampNeg).toInt := zG_zi hI rfl
          have b29 := i_bd (mI S 65 ((mI S 64 2) + (1 : Int32)).toNatClampNeg)
          have li30 : (101 : Int32).toInt = 101 := rfl
          refine zd (fun h31 => ?_) (fun h31 => ?_)
          · skip
            have g32 := i_eq h31
            first | have e33 : ((mI S 64 2) + (2 : Int32)).toInt = (mI S 64 2).toInt + (2) := i_addk rfl (by omega) (by omega) | have b34 := i_bd ((mI S 64 2) + (2 : Int32))
            refine zd (fun h35 => ?_) (fun h35 => ?_)
            · skip
              have g36 := i_le h35
              have li37 : (1 : Int32).toInt = 1 := rfl
              exact K ((1 : Int32)) _ hI (by decide) (show ((1 : Int32) = 1 ∧ zwd (f 65) (f 64 2) ((f 64 3).toInt - (f 64 2).toInt) 98 101 115 116 0 0 0) ∨ ((1 : Int32) = 0 ∧ ¬ zwd (f 65) (f 64 2) ((f 64 3).toInt - (f 64 2).toInt) 98 101 115 116 0 0 0) from by first | (rw [show f 65 = mI S 65 from funext (fun k => (zG_z hI rfl).symm), show f 64 2 = mI S 64 2 from (zG_z hI rfl).symm, show f 64 3 = mI S 64 3 from (zG_z hI rfl).symm]; exact Or.inl ⟨rfl, by rw [if_pos rfl]; omega, (by assumption), (by assumption), (by assumption), (by assumption), Or.inl rfl, Or.inl rfl, Or.inl rfl⟩) | (omega) | (exfalso; omega)) (show zFm I0 L0 R0 S from by first | (exact hpre0))
            · skip
              have g38 := i_nle h35
              refine ⟨i_ix (by omega) (by omega), ?_⟩
              have q39 : (mI S 65 ((mI S 64 2) + (2 : Int32)).toNatClampNeg).toInt = (f 65 ((mI S 64 2) + (2 : Int32)).toNatClampNeg).toInt := zG_zi hI rfl
              have b40 := i_bd (mI S 65 ((mI S 64 2) + (2 : Int32)).toNatClampNeg)
              have li41 : (115 : Int32).toInt = 115 := rfl
              refine zd (fun h42 => ?_) (fun h42 => ?_)
              · skip
                have g43 := i_eq h42
                first | have e44 : ((mI S 64 2) + (3 : Int32)).toInt = (mI S 64 2).toInt + (3) := i_addk rfl (by omega) (by omega) | have b45 := i_bd ((mI S 64 2) + (3 : Int32))
                refine zd (fun h46 => ?_) (fun h46 => ?_)
                · skip
                  have g47 := i_le h46
                  have li48 : (1 : Int32).toInt = 1 := rfl
                  exact K ((1 : Int32)) _ hI (by decide) (show ((1 : Int32) = 1 ∧ zwd (f 65) (f 64 2) ((f 64 3).toInt - (f 64 2).toInt) 98 101 115 116 0 0 0) ∨ ((1 : Int32) = 0 ∧ ¬ zwd (f 65) (f 64 2) ((f 64 3).toInt - (f 64 2).toInt) 98 101 115 116 0 0 0) from by first | (rw [show f 65 = mI S 65 from funext (fun k => (zG_z hI rfl).symm), show f 64 2 = mI S 64 2 from (zG_z hI rfl).symm, show f 64 3 = mI S 64 3 from (zG_z hI rfl).symm]; exact Or.inl ⟨rfl, by rw [if_pos rfl]; omega, (by assumption), (by assumption), (by assumption), (by assumption), Or.inl rfl, Or.inl rfl, Or.inl rfl⟩) | (omega) | (exfalso; omega)) (show zFm I0 L0 R0 S from by first | (exact hpre0))
                · skip
                  have g49 := i_nle h46
                  refine ⟨i_ix (by omega) (by omega), ?_⟩
                  have q50 : (mI S 65 ((mI S 64 2) + (3 : Int32)).toNatClampNeg).toInt = (f 65 ((mI S 64 2) + (3 : Int32)).toNatClampNeg).toInt := zG_zi hI rfl
                  have b51 := i_bd (mI S 65 ((mI S 64 2) + (3 : Int32)).toNatClampNeg)
                  have li52 : (116 : Int32).toInt = 116 := rfl
                  refine zd (fun h53 => ?_) (fun h53 => ?_)
                  · skip
                    have g54 := i_eq h53
                    have li55 : (1 : Int32).toInt = 1 := rfl
                    exact K ((1 : Int32)) _ hI (by decide) (show ((1 : Int32) = 1 ∧ zwd (f 65) (f 64 2) ((f 64 3).toInt - (f 64 2).toInt) 98 101 115 116 0 0 0) ∨ ((1 : Int32) = 0 ∧ ¬ zwd (f 65) (f 64 2) ((f 64 3).toInt - (f 64 2).toInt) 98 101 115 116 0 0 0) from by first | (rw [show f 65 = mI S 65 from funext (fun k => (zG_z hI rfl).symm), show f 64 2 = mI S 64 2 from (zG_z hI rfl).symm, show f 64 3 = mI S 64 3 from (zG_z hI rfl).symm]; exact Or.inl ⟨rfl, by rw [if_pos rfl]; omega, (by assumption), (by assumption), (by assumption), (by assumption), Or.inl rfl, Or.inl rfl, Or.inl rfl⟩) | (omega) | (exfalso; omega)) (show zFm I0 L0 R0 S from by first | (exact hpre0))
                  · skip
                    have g56 := i_ne h53
                    have li57 : (0 : Int32).toInt = 0 := rfl
                    exact K ((0 : Int32)) _ hI (by decide) (show ((0 : Int32) = 1 ∧ zwd (f 65) (f 64 2) ((f 64 3).toInt - (f 64 2).toInt) 98 101 115 116 0 0 0) ∨ ((0 : Int32) = 0 ∧ ¬ zwd (f 65) (f 64 2) ((f 64 3).toInt - (f 64 2).toInt) 98 101 115 116 0 0 0) from by first | (rw [show f 65 = mI S 65 from funext (fun k => (zG_z hI rfl).symm), show f 64 2 = mI S 64 2 from (zG_z hI rfl).symm, show f 64 3 = mI S 64 3 from (zG_z hI rfl).symm]; exact Or.inr ⟨rfl, fun z => absurd z.2.1 (by assumption)⟩) | (rw [show f 65 = mI S 65 from funext (fun k => (zG_z hI rfl).symm), show f 64 2 = mI S 64 2 from (zG_z hI rfl).symm, show f 64 3 = mI S 64 3 from (zG_z hI rfl).symm]; exact Or.inr ⟨rfl, fun z => absurd z.2.2.1 (by assumption)⟩) | (rw [show f 65 = mI S 65 from funext (fun k => (zG_z hI rfl).symm), show f 64 2 = mI S 64 2 from (zG_z hI rfl).symm, show f 64 3 = mI S 64 3 from (zG_z hI rfl).symm]; exact Or.inr ⟨rfl, fun z => absurd z.2.2.2.1 (by assumption)⟩) | (rw [show f 65 = mI S 65 from funext (fun k => (zG_z hI rfl).symm), show f 64 2 = mI S 64 2 from (zG_z hI rfl).symm, show f 64 3 = mI S 64 3 from (zG_z hI rfl).symm]; exact Or.inr ⟨rfl, fun z => absurd z.2.2.2.2.1 (by assumption)⟩) | (rw [show f 65 = mI S 65 from funext (fun k => (zG_z hI rfl).symm), show f 64 2 = mI S 64 2 from (zG_z hI rfl).symm, show f 64 3 = mI S 64 3 from (zG_z hI rfl).symm]; exact Or.inr ⟨rfl, fun z => by have y := z.1; rw [if_pos rfl] at y; omega⟩) | (omega) | (exfalso; omega)) (show zFm I0 L0 R0 S from by first | (exact hpre0))
              · skip
                have g58 := i_ne h42
                have li59 : (0 : Int32).toInt = 0 := rfl
                exact K ((0 : Int32)) _ hI (by decide) (show ((0 : Int32) = 1 ∧ zwd (f 65) (f 64 2) ((f 64 3).toInt - (f 64 2).toInt) 98 101 115 116 0 0 0) ∨ ((0 : Int32) = 0 ∧ ¬ zwd (f 65) (f 64 2) ((f 64 3).toInt - (f 64 2).toInt) 98 101 115 116 0 0 0) from by first | (rw [show f 65 = mI S 65 from funext (fun k => (zG_z hI rfl).symm), show f 64 2 = mI S 64 2 from (zG_z hI rfl).symm, show f 64 3 = mI S 64 3 from (zG_z hI rfl).symm]; exact Or.inr ⟨rfl, fun z => absurd z.2.1 (by assumption)⟩) | (rw [show f 65 = mI S 65 from funext (fun k => (zG_z hI rfl).symm), show f 64 2 = mI S 64 2 from (zG_z hI rfl).symm, show f 64 3 = mI S 64 3 from (zG_z hI rfl).symm]; exact Or.inr ⟨rfl, fun z => absurd z.2.2.1 (by assumption)⟩) | (rw [show f 65 = mI S 65 from funext (fun k => (zG_z hI rfl).symm), show f 64 2 = mI S 64 2 from (zG_z hI rfl).symm, show f 64 3 = mI S 64 3 from (zG_z hI rfl).symm]; exact Or.inr ⟨rfl, fun z => absurd z.2.2.2.1 (by assumption)⟩) | (rw [show f 65 = mI S 65 from funext (fun k => (zG_z hI rfl).symm), show f 64 2 = mI S 64 2 from (zG_z hI rfl).symm, show f 64 3 = mI S 64 3 from (zG_z hI rfl).symm]; exact Or.inr ⟨rfl, fun z => absurd z.2.2.2.2.1 (by assumption)⟩) | (rw [show f 65 = mI S 65 from funext (fun k => (zG_z hI rfl).symm), show f 64 2 = mI S 64 2 from (zG_z hI rfl).symm, show f 64 3 = mI S 64 3 from (zG_z hI rfl).symm]; exact Or.inr ⟨rfl, fun z => by have y := z.1; rw [if_pos rfl] at y; omega⟩) | (omega) | (exfalso; omega)) (show zFm I0 L0 R0 S from by first | (exact hpre0))
          · skip
            have g60 := i_ne h31
            have li61 : (0 : Int32).toInt = 0 := rfl
            exact K ((0 : Int32)) _ hI (by decide) (show ((0 : Int32) = 1 ∧ zwd (f 65) (f 64 2) ((f 64 3).toInt - (f 64 2).toInt) 98 101 115 116 0 0 0) ∨ ((0 : Int32) = 0 ∧ ¬ zwd (f 65) (f 64 2) ((f 64 3).toInt - (f 64 2).toInt) 98 101 115 116 0 0 0) from by first | (rw [show f 65 = mI S 65 from funext (fun k => (zG_z hI rfl).symm), show f 64 2 = mI S 64 2 from (zG_z hI rfl).symm, show f 64 3 = mI S 64 3 from (zG_z hI rfl).symm]; exact Or.inr ⟨rfl, fun z => absurd z.2.1 (by assumption)⟩) | (rw [show f 65 = mI S 65 from funext (fun k => (zG_z hI rfl).symm), show f 64 2 = mI S 64 2 from (zG_z hI rfl).symm, show f 64 3 = mI S 64 3 from (zG_z hI rfl).symm]; exact Or.inr ⟨rfl, fun z => absurd z.2.2.1 (by assumption)⟩) | (rw [show f 65 = mI S 65 from funext (fun k => (zG_z hI rfl).symm), show f 64 2 = mI S 64 2 from (zG_z hI rfl).symm, show f 64 3 = mI S 64 3 from (zG_z hI rfl).symm]; exact Or.inr ⟨rfl, fun z => absurd z.2.2.2.1 (by assumption)⟩) | (rw [show f 65 = mI S 65 from funext (fun k => (zG_z hI rfl).symm), show f 64 2 = mI S 64 2 from (zG_z hI rfl).symm, show f 64 3 = mI S 64 3 from (zG_z hI rfl).symm]; exact Or.inr ⟨rfl, fun z => absurd z.2.2.2.2.1 (by assumption)⟩) | (rw [show f 65 = mI S 65 from funext (fun k => (zG_z hI rfl).symm), show f 64 2 = mI S 64 2 from (zG_z hI rfl).symm, show f 64 3 = mI S 64 3 from (zG_z hI rfl).symm]; exact Or.inr ⟨rfl, fun z => by have y := z.1; rw [if_pos rfl] at y; omega⟩) | (omega) | (exfalso; omega)) (show zFm I0 L0 R0 S from by first | (exact hpre0))
      · skip
        have g62 := i_ne h20
        have li63 : (0 : Int32).toInt = 0 := rfl
        exact K ((0 : Int32)) _ hI (by decide) (show ((0 : Int32) = 1 ∧ zwd (f 65) (f 64 2) ((f 64 3).toInt - (f 64 2).toInt) 98 101 115 116 0 0 0) ∨ ((0 : Int32) = 0 ∧ ¬ zwd (f 65) (f 64 2) ((f 64 3).toInt - (f 64 2).toInt) 98 101 115 116 0 0 0) from by first | (rw [show f 65 = mI S 65 from funext (fun k => (zG_z hI rfl).symm), show f 64 2 = mI S 64 2 from (zG_z hI rfl).symm, show f 64 3 = mI S 64 3 from (zG_z hI rfl).symm]; exact Or.inr ⟨rfl, fun z => absurd z.2.1 (by assumption)⟩) | (rw [show f 65 = mI S 65 from funext (fun k => (zG_z hI rfl).symm), show f 64 2 = mI S 64 2 from (zG_z hI rfl).symm, show f 64 3 = mI S 64 3 from (zG_z hI rfl).symm]; exact Or.inr ⟨rfl, fun z => absurd z.2.2.1 (by assumption)⟩) | (rw [show f 65 = mI S 65 from funext (fun k => (zG_z hI rfl).symm), show f 64 2 = mI S 64 2 from (zG_z hI rfl).symm, show f 64 3 = mI S 64 3 from (zG_z hI rfl).symm]; exact Or.inr ⟨rfl, fun z => absurd z.2.2.2.1 (by assumption)⟩) | (rw [show f 65 = mI S 65 from funext (fun k => (zG_z hI rfl).symm), show f 64 2 = mI S 64 2 from (zG_z hI rfl).symm, show f 64 3 = mI S 64 3 from (zG_z hI rfl).symm]; exact Or.inr ⟨rfl, fun z => absurd z.2.2.2.2.1 (by assumption)⟩) | (rw [show f 65 = mI S 65 from funext (fun k => (zG_z hI rfl).symm), show f 64 2 = mI S 64 2 from (zG_z hI rfl).symm, show f 64 3 = mI S 64 3 from (zG_z hI rfl).symm]; exact Or.inr ⟨rfl, fun z => by have y := z.1; rw [if_pos rfl] at y; omega⟩) | (omega) | (exfalso; omega)) (show zFm I0 L0 R0 S from by first | (exact hpre0))
  · skip
    have g64 := i_ne h8
    have li65 : (0 : Int32).toInt = 0 := rfl
    exact K ((0 : Int32)) _ hI (by decide) (show ((0 : Int32) = 1 ∧ zwd (f 65) (f 64 2) ((f 64 3).toInt - (f 64 2).toInt) 98 101 115 116 0 0 0) ∨ ((0 : Int32) = 0 ∧ ¬ zwd (f 65) (f 64 2) ((f 64 3).toInt - (f 64 2).toInt) 98 101 115 116 0 0 0) from by first | (rw [show f 65 = mI S 65 from funext (fun k => (zG_z hI rfl).symm), show f 64 2 = mI S 64 2 from (zG_z hI rfl).symm, show f 64 3 = mI S 64 3 from (zG_z hI rfl).symm]; exact Or.inr ⟨rfl, fun z => absurd z.2.1 (by assumption)⟩) | (rw [show f 65 = mI S 65 from funext (fun k => (zG_z hI rfl).symm), show f 64 2 = mI S 64 2 from (zG_z hI rfl).symm, show f 64 3 = mI S 64 3 from (zG_z hI rfl).symm]; exact Or.inr ⟨rfl, fun z => absurd z.2.2.1 (by assumption)⟩) | (rw [show f 65 = mI S 65 from funext (fun k => (zG_z hI rfl).symm), show f 64 2 = mI S 64 2 from (zG_z hI rfl).symm, show f 64 3 = mI S 64 3 from (zG_z hI rfl).symm]; exact Or.inr ⟨rfl, fun z => absurd z.2.2.2.1 (by assumption)⟩) | (rw [show f 65 = mI S 65 from funext (fun k => (zG_z hI rfl).symm), show f 64 2 = mI S 64 2 from (zG_z hI rfl).symm, show f 64 3 = mI S 64 3 from (zG_z hI rfl).symm]; exact Or.inr ⟨rfl, fun z => absurd z.2.2.2.2.1 (by assumption)⟩) | (rw [show f 65 = mI S 65 from funext (fun k => (zG_z hI rfl).symm), show f 64 2 = mI S 64 2 from (zG_z hI rfl).symm, show f 64 3 = mI S 64 3 from (zG_z hI rfl).symm]; exact Or.inr ⟨rfl, fun z => by have y := z.1; rw [if_pos rfl] at y; omega⟩) | (omega) | (exfalso; omega)) (show zFm I0 L0 R0 S from by first | (exact hpre0))

/-! from 95.i21 -/
/-! the class opens a heap (written by wip/tools/gen18c.py) -/
theorem g_131_64_16_sq_0 {X : Nat × (Nat → Int32)} {d w : Nat} {S : ma_S} {Q : Option ma_V ⊕ Nat → ma_S → Prop}  (hd : 5 ≤ d) (hw : 100 ≤ w) (hS : zT S) (h : if ((mI S 64 3) - (mI S 64 2)) = (5 : Int32) then (if (100 : Int32) ≤ ((mI S 64 2) + (0 : Int32)) then (Q (.inl (some (.inl (1 : Int32)))) S) else ((0 ≤ ((mI S 64 2) + (0 : Int32)) ∧ ((mI S 64 2) + (0 : Int32)).toNatClampNeg < 100) ∧ (if (mI S 65 ((mI S 64 2) + (0 : Int32)).toNatClampNeg) = (119 : Int32) then (if (100 : Int32) ≤ ((mI S 64 2) + (1 : Int32)) then (Q (.inl (some (.inl (1 : Int32)))) S) else ((0 ≤ ((mI S 64 2) + (1 : Int32)) ∧ ((mI S 64 2) + (1 : Int32)).toNatClampNeg < 100) ∧ (if (mI S 65 ((mI S 64 2) + (1 : Int32)).toNatClampNeg) = (111 : Int32) then (if (100 : Int32) ≤ ((mI S 64 2) + (2 : Int32)) then (Q (.inl (some (.inl (1 : Int32)))) S) else ((0 ≤ ((mI S 64 2) + (2 : Int32)) ∧ ((mI S 64 2) + (2 : Int32)).toNatClampNeg < 100) ∧ (if (mI S 65 ((mI S 64 2) + (2 : Int32)).toNatClampNeg) = (114 : Int32) then (if (100 : Int32) ≤ ((mI S 64 2) + (3 : Int32)) then (Q (.inl (some (.inl (1 : Int32)))) S) else ((0 ≤ ((mI S 64 2) + (3 : Int32)) ∧ ((mI S 64 2) + (3 : Int32)).toNatClampNeg < 100) ∧ (if (mI S 65 ((mI S 64 2) + (3 : Int32)).toNatClampNeg) = (115 : Int32) then (if (100 : Int32) ≤ ((mI S 64 2) + (4 : Int32)) then (Q (.inl (some (.inl (1 : Int32)))) S) else ((0 ≤ ((mI S 64 2) + (4 : Int32)) ∧ ((mI S 64 2) + (4 : Int32)).toNatClampNeg < 100) ∧ (if (mI S 65 ((mI S 64 2) + (4 : Int32)).toNatClampNeg) = (116 : Int32) then (Q (.inl (some (.inl (1 : Int32)))) S) else (Q (.inl (some (.inl (0 : Int32)))) S)))) else (Q (.inl (some (.inl (0 : Int32)))) S)))) else (Q (.inl (some (.inl (0 : Int32)))) S)))) else (Q (.inl (some (.inl (0 : Int32)))) S)))) else (Q (.inl (some (.inl (0 : Int32)))) S)))) else (Q (.inl (some (.inl (0 : Int32)))) S)) : ma_wp X d w 131 0 [(0, .inr (.inr (some 64))), (1, .inr (.inr (some 16)))] [] S Q := by
  refine zw_push hm_131 dX11_tokenIs_0 (v := .inr (.inr (some 64))) rfl ?_
  refine zw_gf hm_131 dX11_tokenIs_1 (v := .inl (mI S 64 3)) (zT_is hS s_64) (zT_t hS s_64) rfl f_11_275_11 rfl ?_
  refine zw_push hm_131 dX11_tokenIs_4 (v := .inr (.inr (some 64))) rfl ?_
  refine zw_gf hm_131 dX11_tokenIs_5 (v := .inl (mI S 64 2)) (zT_is hS s_64) (zT_t hS s_64) rfl f_11_92_11 rfl ?_
  refine zw_stk hm_131 dX11_tokenIs_8 (st₉ := [.inl ((mI S 64 3) - (mI S 64 2))]) rfl rfl ?_
  refine zw_push hm_131 dX11_tokenIs_9 (v := .inr (.inr (some 16))) rfl ?_
  refine zw_cv hm_131 dX11_tokenIs_10 v_11_288_17 hm_277 [] [.inl ((mI S 64 3) - (mI S 64 2))] rfl rfl ⟨by omega, by omega⟩ rfl (tx_len (v := (5 : Int32)) (by decide) (by omega) (by omega) rfl rfl ?_)
  show ma_wp X d w 131 13 [(0, .inr (.inr (some 64))), (1, .inr (.inr (some 16)))] [.inl (5 : Int32), .inl ((mI S 64 3) - (mI S 64 2))] S _
  refine zw_if2 hm_131 dX11_tokenIs_13 (t := 18) rfl zc2_eq ?_ ?_
  · intro hc
    rw [if_pos hc] at h
    refine zw_push hm_131 dX11_tokenIs_18 (v := .inl (0 : Int32)) rfl ?_
    refine zw_sto hm_131 dX11_tokenIs_19 [(2, .inl (0 : Int32)), (0, .inr (.inr (some 64))), (1, .inr (.inr (some 16)))] rfl rfl rfl ?_
    refine zw_push hm_131 dX11_tokenIs_20 (v := .inl (0 : Int32)) rfl ?_
    refine zw_push hm_131 dX11_tokenIs_21 (v := .inr (.inr (some 16))) rfl ?_
    refine zw_cv hm_131 dX11_tokenIs_22 v_11_288_17 hm_277 [] [.inl (0 : Int32)] rfl rfl ⟨by omega, by omega⟩ rfl (tx_len (v := (5 : Int32)) (by decide) (by omega) (by omega) rfl rfl ?_)
    show ma_wp X d w 131 25 [(2, .inl (0 : Int32)), (0, .inr (.inr (some 64))), (1, .inr (.inr (some 16)))] [.inl (5 : Int32), .inl (0 : Int32)] S _
    refine zw_if2 hm_131 dX11_tokenIs_25 (t := 66) rfl zc2_ge (fun hc => absurd hc (by decide)) (fun _ => ?_)
    refine zw_push hm_131 dX11_tokenIs_28 (v := .inr (.inr (some 64))) rfl ?_
    refine zw_gf hm_131 dX11_tokenIs_29 (v := .inl (mI S 64 2)) (zT_is hS s_64) (zT_t hS s_64) rfl f_11_92_11 rfl ?_
    refine zw_push hm_131 dX11_tokenIs_32 (v := .inl (0 : Int32)) rfl ?_
    refine zw_stk hm_131 dX11_tokenIs_33 (st₉ := [.inl ((mI S 64 2) + (0 : Int32))]) rfl rfl ?_
    refine zw_push hm_131 dX11_tokenIs_34 (v := .inl (100 : Int32)) rfl ?_
    refine zw_if2 hm_131 dX11_tokenIs_36 (t := 66) rfl zc2_ge ?_ ?_
    · intro hc
      rw [if_pos hc] at h
      refine zw_push hm_131 dX11_tokenIs_66 (v := .inl (1 : Int32)) rfl ?_
      exact zw_bret hm_131 dX11_tokenIs_67 (by decide) h
    · intro hc
      rw [if_neg hc] at h
      refine zw_push hm_131 dX11_tokenIs_39 (v := .inr (.inr (some 64))) rfl ?_
      refine zw_gf hm_131 dX11_tokenIs_40 (v := .inr (.inr (some 65))) (zT_is hS s_64) (zT_t hS s_64) rfl f_11_9_11 (zT_f hS r_64_0) ?_
      refine zw_push hm_131 dX11_tokenIs_43 (v := .inr (.inr (some 64))) rfl ?_
      refine zw_gf hm_131 dX11_tokenIs_44 (v := .inl (mI S 64 2)) (zT_is hS s_64) (zT_t hS s_64) rfl f_11_92_11 rfl ?_
      refine zw_push hm_131 dX11_tokenIs_47 (v := .inl (0 : Int32)) rfl ?_
      refine zw_stk hm_131 dX11_tokenIs_48 (st₉ := [.inl ((mI S 64 2) + (0 : Int32)), .inr (.inr (some 65))]) rfl rfl ?_
      obtain ⟨hg, h⟩ := h
      refine zw_ba hm_131 dX11_tokenIs_49 (zT_is hS s_65) (zT_h hS s_65) rfl rfl hg ?_
      show ma_wp X d w 131 50 [(2, .inl (0 : Int32)), (0, .inr (.inr (some 64))), (1, .inr (.inr (some 16)))] [.inl (mI S 65 ((mI S 64 2) + (0 : Int32)).toNatClampNeg)] S _
      refine zw_push hm_131 dX11_tokenIs_50 (v := .inr (.inr (some 16))) rfl ?_
      refine zw_push hm_131 dX11_tokenIs_51 (v := .inl (0 : Int32)) rfl ?_
      refine zw_cv hm_131 dX11_tokenIs_52 v_11_293_17 hm_279 [.inl (0 : Int32)] [.inl (mI S 65 ((mI S 64 2) + (0 : Int32)).toNatClampNeg)] rfl rfl ⟨by omega, by omega⟩ rfl (tx_char (v := (119 : Int32)) (by decide) (by omega) (by omega) (by decide) (by decide) (by decide) (by decide) ?_)
      show ma_wp X d w 131 55 [(2, .inl (0 : Int32)), (0, .inr (.inr (some 64))), (1, .inr (.inr (some 16)))] [.inl (119 : Int32), .inl (mI S 65 ((mI S 64 2) + (0 : Int32)).toNatClampNeg)] S _
      refine zw_if2 hm_131 dX11_tokenIs_55 (t := 60) rfl zc2_eq ?_ ?_
      · intro hc
        rw [if_pos hc] at h
        refine zw_sto hm_131 dX11_tokenIs_60 [(2, .inl (1 : Int32)), (0, .inr (.inr (some 64))), (1, .inr (.inr (some 16)))] rfl rfl rfl ?_
        refine zw_goto hm_131 dX11_tokenIs_63 (t := 20) rfl ?_
        refine zw_push hm_131 dX11_tokenIs_20 (v := .inl (1 : Int32)) rfl ?_
        refine zw_push hm_131 dX11_tokenIs_21 (v := .inr (.inr (some 16))) rfl ?_
        refine zw_cv hm_131 dX11_tokenIs_22 v_11_288_17 hm_277 [] [.inl (1 : Int32)] rfl rfl ⟨by omega, by omega⟩ rfl (tx_len (v := (5 : Int32)) (by decide) (by omega) (by omega) rfl rfl ?_)
        show ma_wp X d w 131 25 [(2, .inl (1 : Int32)), (0, .inr (.inr (some 64))), (1, .inr (.inr (some 16)))] [.inl (5 : Int32), .inl (1 : Int32)] S _
        refine zw_if2 hm_131 dX11_tokenIs_25 (t := 66) rfl zc2_ge (fun hc => absurd hc (by decide)) (fun _ => ?_)
        refine zw_push hm_131 dX11_tokenIs_28 (v := .inr (.inr (some 64))) rfl ?_
        refine zw_gf hm_131 dX11_tokenIs_29 (v := .inl (mI S 64 2)) (zT_is hS s_64) (zT_t hS s_64) rfl f_11_92_11 rfl ?_
        refine zw_push hm_131 dX11_tokenIs_32 (v := .inl (1 : Int32)) rfl ?_
        refine zw_stk hm_131 dX11_tokenIs_33 (st₉ := [.inl ((mI S 64 2) + (1 : Int32))]) rfl rfl ?_
        refine zw_push hm_131 dX11_tokenIs_34 (v := .inl (100 : Int32)) rfl ?_
        refine zw_if2 hm_131 dX11_tokenIs_36 (t := 66) rfl zc2_ge ?_ ?_
        · intro hc
          rw [if_pos hc] at h
          refine zw_push hm_131 dX11_tokenIs_66 (v := .inl (1 : Int32)) rfl ?_
          exact zw_bret hm_131 dX11_tokenIs_67 (by decide) h
        · intro hc
          rw [if_neg hc] at h
          refine zw_push hm_131 dX11_tokenIs_39 (v := .inr (.inr (some 64))) rfl ?_
          refine zw_gf hm_131 dX11_tokenIs_40 (v := .inr (.inr (some 65))) (zT_is hS s_64) (zT_t hS s_64) rfl f_11_9_11 (zT_f hS r_64_0) ?_
          refine zw_push hm_131 dX11_tokenIs_43 (v := .inr (.inr (some 64))) rfl ?_
          refine zw_gf hm_131 dX11_tokenIs_44 (v := .inl (mI S 64 2)) (zT_is hS s_64) (zT_t hS s_64) rfl f_11_92_11 rfl ?_
          refine zw_push hm_131 dX11_tokenIs_47 (v := .inl (1 : Int32)) rfl ?_
          refine zw_stk hm_131 dX11_tokenIs_48 (st₉ := [.inl ((mI S 64 2) + (1 : Int32)), .inr (.inr (some 65))]) rfl rfl ?_
          obtain ⟨hg, h⟩ := h
          refine zw_ba hm_131 dX11_tokenIs_49 (zT_is hS s_65) (zT_h hS s_65) rfl rfl hg ?_
          show ma_wp X d w 131 50 [(2, .inl (1 : Int32)), (0, .inr (.inr (some 64))), (1, .inr (.inr (some 16)))] [.inl (mI S 65 ((mI S 64 2) + (1 : Int32)).toNatClampNeg)] S _
          refine zw_push hm_131 dX11_tokenIs_50 (v := .inr (.inr (some 16))) rfl ?_
          refine zw_push hm_131 dX11_tokenIs_51 (v := .inl (1 : Int32)) rfl ?_
          refine zw_cv hm_131 dX11_tokenIs_52 v_11_293_17 hm_279 [.inl (1 : Int32)] [.inl (mI S 65 ((mI S 64 2) + (1 : Int32)).toNatClampNeg)] rfl rfl ⟨by omega, by omega⟩ rfl (tx_char (v := (111 : Int32)) (by decide) (by omega) (by omega) (by decide) (by decide) (by decide) (by decide) ?_)
          show ma_wp X d w 131 55 [(2, .inl (1 : Int32)), (0, .inr (.inr (some 64))), (1, .inr (.inr (some 16)))] [.inl (111 : Int32), .inl (mI S 65 ((mI S 64 2) + (1 : Int32)).toNatClampNeg)] S _
          refine zw_if2 hm_131 dX11_tokenIs_55 (t := 60) rfl zc2_eq ?_ ?_
          · intro hc
            rw [if_pos hc] at h
            refine zw_sto hm_131 dX11_tokenIs_60 [(2, .inl (2 : Int32)), (0, .inr (.inr (some 64))), (1, .inr (.inr (some 16)))] rfl rfl rfl ?_
            refine zw_goto hm_131 dX11_tokenIs_63 (t := 20) rfl ?_
            refine zw_push hm_131 dX11_tokenIs_20 (v := .inl (2 : Int32)) rfl ?_
            refine zw_push hm_131 dX11_tokenIs_21 (v := .inr (.inr (some 16))) rfl ?_
            refine zw_cv hm_131 dX11_tokenIs_22 v_11_288_17 hm_277 [] [.inl (2 : Int32)] rfl rfl ⟨by omega, by omega⟩ rfl (tx_len (v := (5 : Int32)) (by decide) (by omega) (by omega) rfl rfl ?_)
            show ma_wp X d w 131 25 [(2, .inl (2 : Int32)), (0, .inr (.inr (some 64))), (1, .inr (.inr (some 16)))] [.inl (5 : Int32), .inl (2 : Int32)] S _
            refine zw_if2 hm_131 dX11_tokenIs_25 (t := 66) rfl zc2_ge (fun hc => absurd hc (by decide)) (fun _ => ?_)
            refine zw_push hm_131 dX11_tokenIs_28 (v := .inr (.inr (some 64))) rfl ?_
            refine zw_gf hm_131 dX11_tokenIs_29 (v := .inl (mI S 64 2)) (zT_is hS s_64) (zT_t hS s_64) rfl f_11_92_11 rfl ?_
            refine zw_push hm_131 dX11_tokenIs_32 (v := .inl (2 : Int32)) rfl ?_
            refine zw_stk hm_131 dX11_tokenIs_33 (st₉ := [.inl ((mI S 64 2) + (2 : Int32))]) rfl rfl ?_
            refine zw_push hm_131 dX11_tokenIs_34 (v := .inl (100 : Int32)) rfl ?_
            refine zw_if2 hm_131 dX11_tokenIs_36 (t := 66) rfl zc2_ge ?_ ?_
            · intro hc
              rw [if_pos hc] at h
              refine zw_push hm_131 dX11_tokenIs_66 (v := .inl (1 : Int32)) rfl ?_
              exact zw_bret hm_131 dX11_tokenIs_67 (by decide) h
            · intro hc
              rw [if_neg hc] at h
              refine zw_push hm_131 dX11_tokenIs_39 (v := .inr (.inr (some 64))) rfl ?_
              refine zw_gf hm_131 dX11_tokenIs_40 (v := .inr (.inr (some 65))) (zT_is hS s_64) (zT_t hS s_64) rfl f_11_9_11 (zT_f hS r_64_0) ?_
              refine zw_push hm_131 dX11_tokenIs_43 (v := .inr (.inr (some 64))) rfl ?_
              refine zw_gf hm_131 dX11_tokenIs_44 (v := .inl (mI S 64 2)) (zT_is hS s_64) (zT_t hS s_64) rfl f_11_92_11 rfl ?_
              refine zw_push hm_131 dX11_tokenIs_47 (v := .inl (2 : Int32)) rfl ?_
              refine zw_stk hm_131 dX11_tokenIs_48 (st₉ := [.inl ((mI S 64 2) + (2 : Int32)), .inr (.inr (some 65))]) rfl rfl ?_
              obtain ⟨hg, h⟩ := h
              refine zw_ba hm_131 dX11_tokenIs_49 (zT_is hS s_65) (zT_h hS s_65) rfl rfl hg ?_
              show ma_wp X d w 131 50 [(2, .inl (2 : Int32)), (0, .inr (.inr (some 64))), (1, .inr (.inr (some 16)))] [.inl (mI S 65 ((mI S 64 2) + (2 : Int32)).toNatClampNeg)] S _
              refine zw_push hm_131 dX11_tokenIs_50 (v := .inr (.inr (some 16))) rfl ?_
              refine zw_push hm_131 dX11_tokenIs_51 (v := .inl (2 : Int32)) rfl ?_
              refine zw_cv hm_131 dX11_tokenIs_52 v_11_293_17 hm_279 [.inl (2 : Int32)] [.inl (mI S 65 ((mI S 64 2) + (2 : Int32)).toNatClampNeg)] rfl rfl ⟨by omega, by omega⟩ rfl (tx_char (v := (114 : Int32)) (by decide) (by omega) (by omega) (by decide) (by decide) (by decide) (by decide) ?_)
              show ma_wp X d w 131 55 [(2, .inl (2 : Int32)), (0, .inr (.inr (some 64))), (1, .inr (.inr (some 16)))] [.inl (114 : Int32), .inl (mI S 65 ((mI S 64 2) + (2 : Int32)).toNatClampNeg)] S _
              refine zw_if2 hm_131 dX11_tokenIs_55 (t := 60) rfl zc2_eq ?_ ?_
              · intro hc
                rw [if_pos hc] at h
                refine zw_sto hm_131 dX11_tokenIs_60 [(2, .inl (3 : Int32)), (0, .inr (.inr (some 64))), (1, .inr (.inr (some 16)))] rfl rfl rfl ?_
                refine zw_goto hm_131 dX11_tokenIs_63 (t := 20) rfl ?_
                refine zw_push hm_131 dX11_tokenIs_20 (v := .inl (3 : Int32)) rfl ?_
                refine zw_push hm_131 dX11_tokenIs_21 (v := .inr (.inr (some 16))) rfl ?_
                refine zw_cv hm_131 dX11_tokenIs_22 v_11_288_17 hm_277 [] [.inl (3 : Int32)] rfl rfl ⟨by omega, by omega⟩ rfl (tx_len (v := (5 : Int32)) (by decide) (by omega) (by omega) rfl rfl ?_)
                show ma_wp X d w 131 25 [(2, .inl (3 : Int32)), (0, .inr (.inr (some 64))), (1, .inr (.inr (some 16)))] [.inl (5 : Int32), .inl (3 : Int32)] S _
                refine zw_if2 hm_131 dX11_tokenIs_25 (t := 66) rfl zc2_ge (fun hc => absurd hc (by decide)) (fun _ => ?_)
                refine zw_push hm_131 dX11_tokenIs_28 (v := .inr (.inr (some 64))) rfl ?_
                refine zw_gf hm_131 dX11_tokenIs_29 (v := .inl (mI S 64 2)) (zT_is hS s_64) (zT_t hS s_64) rfl f_11_92_11 rfl ?_
                refine zw_push hm_131 dX11_tokenIs_32 (v := .inl (3 : Int32)) rfl ?_
                refine zw_stk hm_131 dX11_tokenIs_33 (st₉ := [.inl ((mI S 64 2) + (3 : Int32))]) rfl rfl ?_
                refine zw_push hm_131 dX11_tokenIs_34 (v := .inl (100 : Int32)) rfl ?_
                refine zw_if2 hm_131 dX11_tokenIs_36 (t := 66) rfl zc2_ge ?_ ?_
                · intro hc
                  rw [if_pos hc] at h
                  refine zw_push hm_131 dX11_tokenIs_66 (v := .inl (1 : Int32)) rfl ?_
                  exact zw_bret hm_131 dX11_tokenIs_67 (by decide) h
                · intro hc
                  rw [if_neg hc] at h
                  refine zw_push hm_131 dX11_tokenIs_39 (v := .inr (.inr (some 64))) rfl ?_
                  refine zw_gf hm_131 dX11_tokenIs_40 (v := .inr (.inr (some 65))) (zT_is hS s_64) (zT_t hS s_64) rfl f_11_9_11 (zT_f hS r_64_0) ?_
                  refine zw_push hm_131 dX11_tokenIs_43 (v := .inr (.inr (some 64))) rfl ?_
                  refine zw_gf hm_131 dX11_tokenIs_44 (v := .inl (mI S 64 2)) (zT_is hS s_64) (zT_t hS s_64) rfl f_11_92_11 rfl ?_
                  refine zw_push hm_131 dX11_tokenIs_47 (v := .inl (3 : Int32)) rfl ?_
                  refine zw_stk hm_131 dX11_tokenIs_48 (st₉ := [.inl ((mI S 64 2) + (3 : Int32)), .inr (.inr (some 65))]) rfl rfl ?_
                  obtain ⟨hg, h⟩ := h
                  refine zw_ba hm_131 dX11_tokenIs_49 (zT_is hS s_65) (zT_h hS s_65) rfl rfl hg ?_
                  show ma_wp X d w 131 50 [(2, .inl (3 : Int32)), (0, .inr (.inr (some 64))), (1, .inr (.inr (some 16)))] [.inl (mI S 65 ((mI S 64 2) + (3 : Int32)).toNatClampNeg)] S _
                  refine zw_push hm_131 dX11_tokenIs_50 (v := .inr (.inr (some 16))) rfl ?_
                  refine zw_push hm_131 dX11_tokenIs_51 (v := .inl (3 : Int32)) rfl ?_
                  refine zw_cv hm_131 dX11_tokenIs_52 v_11_293_17 hm_279 [.inl (3 : Int32)] [.inl (mI S 65 ((mI S 64 2) + (3 : Int32)).toNatClampNeg)] rfl rfl ⟨by omega, by omega⟩ rfl (tx_char (v := (115 : Int32)) (by decide) (by omega) (by omega) (by decide) (by decide) (by decide) (by decide) ?_)
                  show ma_wp X d w 131 55 [(2, .inl (3 : Int32)), (0, .inr (.inr (some 64))), (1, .inr (.inr (some 16)))] [.inl (115 : Int32), .inl (mI S 65 ((mI S 64 2) + (3 : Int32)).toNatClampNeg)] S _
                  refine zw_if2 hm_131 dX11_tokenIs_55 (t := 60) rfl zc2_eq ?_ ?_
                  · intro hc
                    rw [if_pos hc] at h
                    refine zw_sto hm_131 dX11_tokenIs_60 [(2, .inl (4 : Int32)), (0, .inr (.inr (some 64))), (1, .inr (.inr (some 16)))] rfl rfl rfl ?_
                    refine zw_goto hm_131 dX11_tokenIs_63 (t := 20) rfl ?_
                    refine zw_push hm_131 dX11_tokenIs_20 (v := .inl (4 : Int32)) rfl ?_
                    refine zw_push hm_131 dX11_tokenIs_21 (v := .inr (.inr (some 16))) rfl ?_
                    refine zw_cv hm_131 dX11_tokenIs_22 v_11_288_17 hm_277 [] [.inl (4 : Int32)] rfl rfl ⟨by omega, by omega⟩ rfl (tx_len (v := (5 : Int32)) (by decide) (by omega) (by omega) rfl rfl ?_)
                    show ma_wp X d w 131 25 [(2, .inl (4 : Int32)), (0, .inr (.inr (some 64))), (1, .inr (.inr (some 16)))] [.inl (5 : Int32), .inl (4 : Int32)] S _
                    refine zw_if2 hm_131 dX11_tokenIs_25 (t := 66) rfl zc2_ge (fun hc => absurd hc (by decide)) (fun _ => ?_)
                    refine zw_push hm_131 dX11_tokenIs_28 (v := .inr (.inr (some 64))) rfl ?_
                    refine zw_gf hm_131 dX11_tokenIs_29 (v := .inl (mI S 64 2)) (zT_is hS s_64) (zT_t hS s_64) rfl f_11_92_11 rfl ?_
                    refine zw_push hm_131 dX11_tokenIs_32 (v := .inl (4 : Int32)) rfl ?_
                    refine zw_stk hm_131 dX11_tokenIs_33 (st₉ := [.inl ((mI S 64 2) + (4 : Int32))]) rfl rfl ?_
                    refine zw_push hm_131 dX11_tokenIs_34 (v := .inl (100 : Int32)) rfl ?_
                    refine zw_if2 hm_131 dX11_tokenIs_36 (t := 66) rfl zc2_ge ?_ ?_
                    · intro hc
                      rw [if_pos hc] at h
                      refine zw_push hm_131 dX11_tokenIs_66 (v := .inl (1 : Int32)) rfl ?_
                      exact zw_bret hm_131 dX11_tokenIs_67 (by decide) h
                    · intro hc
                      rw [if_neg hc] at h
                      refine zw_push hm_131 dX11_tokenIs_39 (v := .inr (.inr (some 64))) rfl ?_
                      refine zw_gf hm_131 dX11_tokenIs_40 (v := .inr (.inr (some 65))) (zT_is hS s_64) (zT_t hS s_64) rfl f_11_9_11 (zT_f hS r_64_0) ?_
                      refine zw_push hm_131 dX11_tokenIs_43 (v := .inr (.inr (some 64))) rfl ?_
                      refine zw_gf hm_131 dX11_tokenIs_44 (v := .inl (mI S 64 2)) (zT_is hS s_64) (zT_t hS s_64) rfl f_11_92_11 rfl ?_
                      refine zw_push hm_131 dX11_tokenIs_47 (v := .inl (4 : Int32)) rfl ?_
                      refine zw_stk hm_131 dX11_tokenIs_48 (st₉ := [.inl ((mI S 64 2) + (4 : Int32)), .inr (.inr (some 65))]) rfl rfl ?_
                      obtain ⟨hg, h⟩ := h
                      refine zw_ba hm_131 dX11_tokenIs_49 (zT_is hS s_65) (zT_h hS s_65) rfl rfl hg ?_
                      show ma_wp X d w 131 50 [(2, .inl (4 : Int32)), (0, .inr (.inr (some 64))), (1, .inr (.inr (some 16)))] [.inl (mI S 65 ((mI S 64 2) + (4 : Int32)).toNatClampNeg)] S _
                      refine zw_push hm_131 dX11_tokenIs_50 (v := .inr (.inr (some 16))) rfl ?_
                      refine zw_push hm_131 dX11_tokenIs_51 (v := .inl (4 : Int32)) rfl ?_
                      refine zw_cv hm_131 dX11_tokenIs_52 v_11_293_17 hm_279 [.inl (4 : Int32)] [.inl (mI S 65 ((mI S 64 2) + (4 : Int32)).toNatClampNeg)] rfl rfl ⟨by omega, by omega⟩ rfl (tx_char (v := (116 : Int32)) (by decide) (by omega) (by omega) (by decide) (by decide) (by decide) (by decide) ?_)
                      show ma_wp X d w 131 55 [(2, .inl (4 : Int32)), (0, .inr (.inr (some 64))), (1, .inr (.inr (some 16)))] [.inl (116 : Int32), .inl (mI S 65 ((mI S 64 2) + (4 : Int32)).toNatClampNeg)] S _
                      refine zw_if2 hm_131 dX11_tokenIs_55 (t := 60) rfl zc2_eq ?_ ?_
                      · intro hc
                        rw [if_pos hc] at h
                        refine zw_sto hm_131 dX11_tokenIs_60 [(2, .inl (5 : Int32)), (0, .inr (.inr (some 64))), (1, .inr (.inr (some 16)))] rfl rfl rfl ?_
                        refine zw_goto hm_131 dX11_tokenIs_63 (t := 20) rfl ?_
                        refine zw_push hm_131 dX11_tokenIs_20 (v := .inl (5 : Int32)) rfl ?_
                        refine zw_push hm_131 dX11_tokenIs_21 (v := .inr (.inr (some 16))) rfl ?_
                        refine zw_cv hm_131 dX11_tokenIs_22 v_11_288_17 hm_277 [] [.inl (5 : Int32)] rfl rfl ⟨by omega, by omega⟩ rfl (tx_len (v := (5 : Int32)) (by decide) (by omega) (by omega) rfl rfl ?_)
                        show ma_wp X d w 131 25 [(2, .inl (5 : Int32)), (0, .inr (.inr (some 64))), (1, .inr (.inr (some 16)))] [.inl (5 : Int32), .inl (5 : Int32)] S _
                        refine zw_if2 hm_131 dX11_tokenIs_25 (t := 66) rfl zc2_ge (fun _ => ?_) (fun hc => absurd (by decide) hc)
                        refine zw_push hm_131 dX11_tokenIs_66 (v := .inl (1 : Int32)) rfl ?_
                        exact zw_bret hm_131 dX11_tokenIs_67 (by decide) h
                      · intro hc
                        rw [if_neg hc] at h
                        refine zw_push hm_131 dX11_tokenIs_58 (v := .inl (0 : Int32)) rfl ?_
                        exact zw_bret hm_131 dX11_tokenIs_59 (by decide) h
                  · intro hc
                    rw [if_neg hc] at h
                    refine zw_push hm_131 dX11_tokenIs_58 (v := .inl (0 : Int32)) rfl ?_
                    exact zw_bret hm_131 dX11_tokenIs_59 (by decide) h
              · intro hc
                rw [if_neg hc] at h
                refine zw_push hm_131 dX11_tokenIs_58 (v := .inl (0 : Int32)) rfl ?_
                exact zw_bret hm_131 dX11_tokenIs_59 (by decide) h
          · intro hc
            rw [if_neg hc] at h
            refine zw_push hm_131 dX11_tokenIs_58 (v := .inl (0 : Int32)) rfl ?_
            exact zw_bret hm_131 dX11_tokenIs_59 (by decide) h
      · intro hc
        rw [if_neg hc] at h
        refine zw_push hm_131 dX11_tokenIs_58 (v := .inl (0 : Int32)) rfl ?_
        exact zw_bret hm_131 dX11_tokenIs_59 (by decide) h
  · intro hc
    rw [if_neg hc] at h
    refine zw_push hm_131 dX11_tokenIs_16 (v := .inl (0 : Int32)) rfl ?_
    exact zw_bret hm_131 dX11_tokenIs_17 (by decide) h
theorem sp_131_64_16_sq {X : Nat × (Nat → Int32)} {d w : Nat} {f : Nat → Nat → Int32} {r : Nat → Nat → Option Nat} {C Z N : Nat} {Q : Option ma_V ⊕ Nat → ma_S → Prop} {I0 : Nat→Nat→Int32} {L0 : Nat→Nat→Int64} {R0 : zRT} {S : ma_S}  (hd : 5 ≤ d) (hw : 100 ≤ w) (hI : zY0 f r C Z N S) (hpre0 : zFm I0 L0 R0 S) (K : ∀ v S₉, zY0 f r C Z N S₉ → (v = 0 ∨ v = 1) → ((v = 1 ∧ zwd (f 65) (f 64 2) ((f 64 3).toInt - (f 64 2).toInt) 119 111 114 115 116 0 0) ∨ (v = 0 ∧ ¬ zwd (f 65) (f 64 2) ((f 64 3).toInt - (f 64 2).toInt) 119 111 114 115 116 0 0)) → (zFm I0 L0 R0 S₉) → Q (.inl (some (.inl v))) S₉) : ma_wp X d w 131 0 [(0, .inr (.inr (some 64))), (1, .inr (.inr (some 16)))] [] S Q := by
  refine g_131_64_16_sq_0  (by omega) (by omega) (zG_T hI) ?_
  have q1 : (mI S 64 3).toInt = (f 64 3).toInt := zG_zi hI rfl
  have f2 := zG_s hI (0) (100) (c := 64) (k := 3) (by decide)
  have q3 : (mI S 64 2).toInt = (f 64 2).toInt := zG_zi hI rfl
  have f4 := zG_s hI (0) (100) (c := 64) (k := 2) (by decide)
  first | have e5 : ((mI S 64 3) - (mI S 64 2)).toInt = (mI S 64 3).toInt - (mI S 64 2).toInt := i_sub (by omega) (by omega) | have b6 := i_bd ((mI S 64 3) - (mI S 64 2))
  have li7 : (5 : Int32).toInt = 5 := rfl
  refine zd (fun h8 => ?_) (fun h8 => ?_)
  · skip
    have g9 := i_eq h8
    have li10 : (100 : Int32).toInt = 100 := rfl
    first | have e11 : ((mI S 64 2) + (0 : Int32)).toInt = (mI S 64 2).toInt + (0) := i_addk rfl (by omega) (by omega) | have b12 := i_bd ((mI S 64 2) + (0 : Int32))
    refine zd (fun h13 => ?_) (fun h13 => ?_)
    · skip
      have g14 := i_le h13
      have li15 : (1 : Int32).toInt = 1 := rfl
      exact K ((1 : Int32)) _ hI (by decide) (show ((1 : Int32) = 1 ∧ zwd (f 65) (f 64 2) ((f 64 3).toInt - (f 64 2).toInt) 119 111 114 115 116 0 0) ∨ ((1 : Int32) = 0 ∧ ¬ zwd (f 65) (f 64 2) ((f 64 3).toInt - (f 64 2).toInt) 119 111 114 115 116 0 0) from by first | (rw [show f 65 = mI S 65 from funext (fun k => (zG_z hI rfl).symm), show f 64 2 = mI S 64 2 from (zG_z hI rfl).symm, show f 64 3 = mI S 64 3 from (zG_z hI rfl).symm]; exact Or.inl ⟨rfl, by rw [if_neg (by decide), if_pos rfl]; omega, (by assumption), (by assumption), (by assumption), (by assumption), Or.inr (by assumption), Or.inr (Or.inl rfl), Or.inr (Or.inl rfl)⟩) | (omega) | (exfalso; omega)) (show zFm I0 L0 R0 S from by first | (exact hpre0))
    · skip
      have g16 := i_nle h13
      refine ⟨i_ix (by omega) (by omega), ?_⟩
      have q17 : (mI S 65 ((mI S 64 2) + (0 : Int32)).toNatClampNeg).toInt = (f 65 ((mI S 64 2) + (0 : Int32)).toNatClampNeg).toInt := zG_zi hI rfl
      have b18 := i_bd (mI S 65 ((mI S 64 2) + (0 : Int32)).toNatClampNeg)
      have li19 : (119 : Int32).toInt = 119 := rfl
      refine zd (fun h20 => ?_) (fun h20 => ?_)
      · skip
        have g21 := i_eq h20
        first | have e22 : ((mI S 64 2) + (1 : Int32)).toInt = (mI S 64 2).toInt + (1) := i_addk rfl (by omega) (by omega) | have b23 := i_bd ((mI S 64 2) + (1 : Int32))
        refine zd (fun h24 => ?_) (fun h24 => ?_)
        · skip
          have g25 := i_le h24
          have li26 : (1 : Int32).toInt = 1 := rfl
          exact K ((1 : Int32)) _ hI (by decide) (show ((1 : Int32) = 1 ∧ zwd (f 65) (f 64 2) ((f 64 3).toInt - (f 64 2).toInt) 119 111 114 115 116 0 0) ∨ ((1 : Int32) = 0 ∧ ¬ zwd (f 65) (f 64 2) ((f 64 3).toInt - (f 64 2).toInt) 119 111 114 115 116 0 0) from by first | (rw [show f 65 = mI S 65 from funext (fun k => (zG_z hI rfl).symm), show f 64 2 = mI S 64 2 from (zG_z hI rfl).symm, show f 64 3 = mI S 64 3 from (zG_z hI rfl).symm]; exact Or.inl ⟨rfl, by rw [if_neg (by decide), if_pos rfl]; omega, (by assumption), (by assumption), (by assumption), (by assumption), Or.inr (by assumption), Or.inr (Or.inl rfl), Or.inr (Or.inl rfl)⟩) | (omega) | (exfalso; omega)) (show zFm I0 L0 R0 S from by first | (exact hpre0))
        · skip
          have g27 := i_nle h24
          refine ⟨i_ix (by omega) (by omega), ?_⟩
          have q28 : (mI S 65 ((mI S 64 2) + (1 : Int32)).toNatClampNeg).toInt = (f 65 ((mI S 64 2) + (1 : Int32)).toNatClampNeg).toInt := zG_zi hI rfl
          have b29 := i_bd (mI S 65 ((mI S 64 2) + (1 : Int32)).toNatClampNeg)
          have li30 : (111 : Int32).toInt = 111 := rfl
          refine zd (fun h31 => ?_) (fun h31 => ?_)
          · skip
            have g32 := i_eq h31
            first | have e33 : ((mI S 64 2) + (2 : Int32)).toInt = (mI S 64 2).toInt + (2) := i_addk rfl (by omega) (by omega) | have b34 := i_bd ((mI S 64 2) + (2 : Int32))
            refine zd (fun h35 => ?_) (fun h35 => ?_)
            · skip
              have g36 := i_le h35
              have li37 : (1 : Int32).toInt = 1 := rfl
              exact K ((1 : Int32)) _ hI (by decide) (show ((1 : Int32) = 1 ∧ zwd (f 65) (f 64 2) ((f 64 3).toInt - (f 64 2).toInt) 119 111 114 115 116 0 0) ∨ ((1 : Int32) = 0 ∧ ¬ zwd (f 65) (f 64 2) ((f 64 3).toInt - (f 64 2).toInt) 119 111 114 115 116 0 0) from by first | (rw [show f 65 = mI S 65 from funext (fun k => (zG_z hI rfl).symm), show f 64 2 = mI S 64 2 from (zG_z hI rfl).symm, show f 64 3 = mI S 64 3 from (zG_z hI rfl).symm]; exact Or.inl ⟨rfl, by rw [if_neg (by decide), if_pos rfl]; omega, (by assumption), (by assumption), (by assumption), (by assumption), Or.inr (by assumption), Or.inr (Or.inl rfl), Or.inr (Or.inl rfl)⟩) | (omega) | (exfalso; omega)) (show zFm I0 L0 R0 S from by first | (exact hpre0))
            · skip
              have g38 := i_nle h35
              refine ⟨i_ix (by omega) (by omega), ?_⟩
              have q39 : (mI S 65 ((mI S 64 2) + (2 : Int32)).toNatClampNeg).toInt = (f 65 ((mI S 64 2) + (2 : Int32)).toNatClampNeg).toInt := zG_zi hI rfl
              have b40 := i_bd (mI S 65 ((mI S 64 2) + (2 : Int32)).toNatClampNeg)
              have li41 : (114 : Int32).toInt = 114 := rfl
              refine zd (fun h42 => ?_) (fun h42 => ?_)
              · skip
                have g43 := i_eq h42
                first | have e44 : ((mI S 64 2) + (3 : Int32)).toInt = (mI S 64 2).toInt + (3) := i_addk rfl (by omega) (by omega) | have b45 := i_bd ((mI S 64 2) + (3 : Int32))
                refine zd (fun h46 => ?_) (fun h46 => ?_)
                · skip
                  have g47 := i_le h46
                  have li48 : (1 : Int32).toInt = 1 := rfl
                  exact K ((1 : Int32)) _ hI (by decide) (show ((1 : Int32) = 1 ∧ zwd (f 65) (f 64 2) ((f 64 3).toInt - (f 64 2).toInt) 119 111 114 115 116 0 0) ∨ ((1 : Int32) = 0 ∧ ¬ zwd (f 65) (f 64 2) ((f 64 3).toInt - (f 64 2).toInt) 119 111 114 115 116 0 0) from by first | (rw [show f 65 = mI S 65 from funext (fun k => (zG_z hI rfl).symm), show f 64 2 = mI S 64 2 from (zG_z hI rfl).symm, show f 64 3 = mI S 64 3 from (zG_z hI rfl).symm]; exact Or.inl ⟨rfl, by rw [if_neg (by decide), if_pos rfl]; omega, (by assumption), (by assumption), (by assumption), (by assumption), Or.inr (by assumption), Or.inr (Or.inl rfl), Or.inr (Or.inl rfl)⟩) | (omega) | (exfalso; omega)) (show zFm I0 L0 R0 S from by first | (exact hpre0))
                · skip
                  have g49 := i_nle h46
                  refine ⟨i_ix (by omega) (by omega), ?_⟩
                  have q50 : (mI S 65 ((mI S 64 2) + (3 : Int32)).toNatClampNeg).toInt = (f 65 ((mI S 64 2) + (3 : Int32)).toNatClampNeg).toInt := zG_zi hI rfl
                  have b51 := i_bd (mI S 65 ((mI S 64 2) + (3 : Int32)).toNatClampNeg)
                  have li52 : (115 : Int32).toInt = 115 := rfl
                  refine zd (fun h53 => ?_) (fun h53 => ?_)
                  · skip
                    have g54 := i_eq h53
                    first | have e55 : ((mI S 64 2) + (4 : Int32)).toInt = (mI S 64 2).toInt + (4) := i_addk rfl (by omega) (by omega) | have b56 := i_bd ((mI S 64 2) + (4 : Int32))
                    refine zd (fun h57 => ?_) (fun h57 => ?_)
                    · skip
                      have g58 := i_le h57
                      have li59 : (1 : Int32).toInt = 1 := rfl
                      exact K ((1 : Int32)) _ hI (by decide) (show ((1 : Int32) = 1 ∧ zwd (f 65) (f 64 2) ((f 64 3).toInt - (f 64 2).toInt) 119 111 114 115 116 0 0) ∨ ((1 : Int32) = 0 ∧ ¬ zwd (f 65) (f 64 2) ((f 64 3).toInt - (f 64 2).toInt) 119 111 114 115 116 0 0) from by first | (rw [show f 65 = mI S 65 from funext (fun k => (zG_z hI rfl).symm), show f 64 2 = mI S 64 2 from (zG_z hI rfl).symm, show f 64 3 = mI S 64 3 from (zG_z hI rfl).symm]; exact Or.inl ⟨rfl, by rw [if_neg (by decide), if_pos rfl]; omega, (by assumption), (by assumption), (by assumption), (by assumption), Or.inr (by assumption), Or.inr (Or.inl rfl), Or.inr (Or.inl rfl)⟩) | (omega) | (exfalso; omega)) (show zFm I0 L0 R0 S from by first | (exact hpre0))
                    · skip
                      have g60 := i_nle h57
                      refine ⟨i_ix (by omega) (by omega), ?_⟩
                      have q61 : (mI S 65 ((mI S 64 2) + (4 : Int32)).toNatClampNeg).toInt = (f 65 ((mI S 64 2) + (4 : Int32)).toNatClampNeg).toInt := zG_zi hI rfl
                      have b62 := i_bd (mI S 65 ((mI S 64 2) + (4 : Int32)).toNatClampNeg)
                      have li63 : (116 : Int32).toInt = 116 := rfl
                      refine zd (fun h64 => ?_) (fun h64 => ?_)
                      · skip
                        have g65 := i_eq h64
                        have li66 : (1 : Int32).toInt = 1 := rfl
                        exact K ((1 : Int32)) _ hI (by decide) (show ((1 : Int32) = 1 ∧ zwd (f 65) (f 64 2) ((f 64 3).toInt - (f 64 2).toInt) 119 111 114 115 116 0 0) ∨ ((1 : Int32) = 0 ∧ ¬ zwd (f 65) (f 64 2) ((f 64 3).toInt - (f 64 2).toInt) 119 111 114 115 116 0 0) from by first | (rw [show f 65 = mI S 65 from funext (fun k => (zG_z hI rfl).symm), show f 64 2 = mI S 64 2 from (zG_z hI rfl).symm, show f 64 3 = mI S 64 3 from (zG_z hI rfl).symm]; exact Or.inl ⟨rfl, by rw [if_neg (by decide), if_pos rfl]; omega, (by assumption), (by assumption), (by assumption), (by assumption), Or.inr (by assumption), Or.inr (Or.inl rfl), Or.inr (Or.inl rfl)⟩) | (omega) | (exfalso; omega)) (show zFm I0 L0 R0 S from by first | (exact hpre0))
                      · skip
                        have g67 := i_ne h64
                        have li68 : (0 : Int32).toInt = 0 := rfl
                        exact K ((0 : Int32)) _ hI (by decide) (show ((0 : Int32) = 1 ∧ zwd (f 65) (f 64 2) ((f 64 3).toInt - (f 64 2).toInt) 119 111 114 115 116 0 0) ∨ ((0 : Int32) = 0 ∧ ¬ zwd (f 65) (f 64 2) ((f 64 3).toInt - (f 64 2).toInt) 119 111 114 115 116 0 0) from by first | (rw [show f 65 = mI S 65 from funext (fun k => (zG_z hI rfl).symm), show f 64 2 = mI S 64 2 from (zG_z hI rfl).symm, show f 64 3 = mI S 64 3 from (zG_z hI rfl).symm]; exact Or.inr ⟨rfl, fun z => absurd z.2.1 (by assumption)⟩) | (rw [show f 65 = mI S 65 from funext (fun k => (zG_z hI rfl).symm), show f 64 2 = mI S 64 2 from (zG_z hI rfl).symm, show f 64 3 = mI S 64 3 from (zG_z hI rfl).symm]; exact Or.inr ⟨rfl, fun z => absurd z.2.2.1 (by assumption)⟩) | (rw [show f 65 = mI S 65 from funext (fun k => (zG_z hI rfl).symm), show f 64 2 = mI S 64 2 from (zG_z hI rfl).symm, show f 64 3 = mI S 64 3 from (zG_z hI rfl).symm]; exact Or.inr ⟨rfl, fun z => absurd z.2.2.2.1 (by assumption)⟩) | (rw [show f 65 = mI S 65 from funext (fun k => (zG_z hI rfl).symm), show f 64 2 = mI S 64 2 from (zG_z hI rfl).symm, show f 64 3 = mI S 64 3 from (zG_z hI rfl).symm]; exact Or.inr ⟨rfl, fun z => absurd z.2.2.2.2.1 (by assumption)⟩) | (rw [show f 65 = mI S 65 from funext (fun k => (zG_z hI rfl).symm), show f 64 2 = mI S 64 2 from (zG_z hI rfl).symm, show f 64 3 = mI S 64 3 from (zG_z hI rfl).symm]; exact Or.inr ⟨rfl, fun z => absurd (z.2.2.2.2.2.1.elim (fun y => absurd y (by decide)) id) (by assumption)⟩) | (rw [show f 65 = mI S 65 from funext (fun k => (zG_z hI rfl).symm), show f 64 2 = mI S 64 2 from (zG_z hI rfl).symm, show f 64 3 = mI S 64 3 from (zG_z hI rfl).symm]; exact Or.inr ⟨rfl, fun z => by have y := z.1; rw [if_neg (by decide), if_pos rfl] at y; omega⟩) | (omega) | (exfalso; omega)) (show zFm I0 L0 R0 S from by first | (exact hpre0))
                  · skip
                    have g69 := i_ne h53
                    have li70 : (0 : Int32).toInt = 0 := rfl
                    exact K ((0 : Int32)) _ hI (by decide) (show ((0 : Int32) = 1 ∧ zwd (f 65) (f 64 2) ((f 64 3).toInt - (f 64 2).toInt) 119 111 114 115 116 0 0) ∨ ((0 : Int32) = 0 ∧ ¬ zwd (f 65) (f 64 2) ((f 64 3).toInt - (f 64 2).toInt) 119 111 114 115 116 0 0) from by first | (rw [show f 65 = mI S 65 from funext (fun k => (zG_z hI rfl).symm), show f 64 2 = mI S 64 2 from (zG_z hI rfl).symm, show f 64 3 = mI S 64 3 from (zG_z hI rfl).symm]; exact Or.inr ⟨rfl, fun z => absurd z.2.1 (by assumption)⟩) | (rw [show f 65 = mI S 65 from funext (fun k => (zG_z hI rfl).symm), show f 64 2 = mI S 64 2 from (zG_z hI rfl).symm, show f 64 3 = mI S 64 3 from (zG_z hI rfl).symm]; exact Or.inr ⟨rfl, fun z => absurd z.2.2.1 (by assumption)⟩) | (rw [show f 65 = mI S 65 from funext (fun k => (zG_z hI rfl).symm), show f 64 2 = mI S 64 2 from (zG_z hI rfl).symm, show f 64 3 = mI S 64 3 from (zG_z hI rfl).symm]; exact Or.inr ⟨rfl, fun z => absurd z.2.2.2.1 (by assumption)⟩) | (rw [show f 65 = mI S 65 from funext (fun k => (zG_z hI rfl).symm), show f 64 2 = mI S 64 2 from (zG_z hI rfl).symm, show f 64 3 = mI S 64 3 from (zG_z hI rfl).symm]; exact Or.inr ⟨rfl, fun z => absurd z.2.2.2.2.1 (by assumption)⟩) | (rw [show f 65 = mI S 65 from funext (fun k => (zG_z hI rfl).symm), show f 64 2 = mI S 64 2 from (zG_z hI rfl).symm, show f 64 3 = mI S 64 3 from (zG_z hI rfl).symm]; exact Or.inr ⟨rfl, fun z => absurd (z.2.2.2.2.2.1.elim (fun y => absurd y (by decide)) id) (by assumption)⟩) | (rw [show f 65 = mI S 65 from funext (fun k => (zG_z hI rfl).symm), show f 64 2 = mI S 64 2 from (zG_z hI rfl).symm, show f 64 3 = mI S 64 3 from (zG_z hI rfl).symm]; exact Or.inr ⟨rfl, fun z => by have y := z.1; rw [if_neg (by decide), if_pos rfl] at y; omega⟩) | (omega) | (exfalso; omega)) (show zFm I0 L0 R0 S from by first | (exact hpre0))
              · skip
                have g71 := i_ne h42
                have li72 : (0 : Int32).toInt = 0 := rfl
                exact K ((0 : Int32)) _ hI (by decide) (show ((0 : Int32) = 1 ∧ zwd (f 65) (f 64 2) ((f 64 3).toInt - (f 64 2).toInt) 119 111 114 115 116 0 0) ∨ ((0 : Int32) = 0 ∧ ¬ zwd (f 65) (f 64 2) ((f 64 3).toInt - (f 64 2).toInt) 119 111 114 115 116 0 0) from by first | (rw [show f 65 = mI S 65 from funext (fun k => (zG_z hI rfl).symm), show f 64 2 = mI S 64 2 from (zG_z hI rfl).symm, show f 64 3 = mI S 64 3 from (zG_z hI rfl).symm]; exact Or.inr ⟨rfl, fun z => absurd z.2.1 (by assumption)⟩) | (rw [show f 65 = mI S 65 from funext (fun k => (zG_z hI rfl).symm), show f 64 2 = mI S 64 2 from (zG_z hI rfl).symm, show f 64 3 = mI S 64 3 from (zG_z hI rfl).symm]; exact Or.inr ⟨rfl, fun z => absurd z.2.2.1 (by assumption)⟩) | (rw [show f 65 = mI S 65 from funext (fun k => (zG_z hI rfl).symm), show f 64 2 = mI S 64 2 from (zG_z hI rfl).symm, show f 64 3 = mI S 64 3 from (zG_z hI rfl).symm]; exact Or.inr ⟨rfl, fun z => absurd z.2.2.2.1 (by assumption)⟩) | (rw [show f 65 = mI S 65 from funext (fun k => (zG_z hI rfl).symm), show f 64 2 = mI S 64 2 from (zG_z hI rfl).symm, show f 64 3 = mI S 64 3 from (zG_z hI rfl).symm]; exact Or.inr ⟨rfl, fun z => absurd z.2.2.2.2.1 (by assumption)⟩) | (rw [show f 65 = mI S 65 from funext (fun k => (zG_z hI rfl).symm), show f 64 2 = mI S 64 2 from (zG_z hI rfl).symm, show f 64 3 = mI S 64 3 from (zG_z hI rfl).symm]; exact Or.inr ⟨rfl, fun z => absurd (z.2.2.2.2.2.1.elim (fun y => absurd y (by decide)) id) (by assumption)⟩) | (rw [show f 65 = mI S 65 from funext (fun k => (zG_z hI rfl).symm), show f 64 2 = mI S 64 2 from (zG_z hI rfl).symm, show f 64 3 = mI S 64 3 from (zG_z hI rfl).symm]; exact Or.inr ⟨rfl, fun z => by have y := z.1; rw [if_neg (by decide), if_pos rfl] at y; omega⟩) | (omega) | (exfalso; omega)) (show zFm I0 L0 R0 S from by first | (exact hpre0))
          · skip
            have g73 := i_ne h31
            have li74 : (0 : Int32).toInt = 0 := rfl
            exact K ((0 : Int32)) _ hI (by decide) (show ((0 : Int32) = 1 ∧ zwd (f 65) (f 64 2) ((f 64 3).toInt - (f 64 2).toInt) 119 111 114 115 116 0 0) ∨ ((0 : Int32) = 0 ∧ ¬ zwd (f 65) (f 64 2) ((f 64 3).toInt - (f 64 2).toInt) 119 111 114 115 116 0 0) from by first | (rw [show f 65 = mI S 65 from funext (fun k => (zG_z hI rfl).symm), show f 64 2 = mI S 64 2 from (zG_z hI rfl).symm, show f 64 3 = mI S 64 3 from (zG_z hI rfl).symm]; exact Or.inr ⟨rfl, fun z => absurd z.2.1 (by assumption)⟩) | (rw [show f 65 = mI S 65 from funext (fun k => (zG_z hI rfl).symm), show f 64 2 = mI S 64 2 from (zG_z hI rfl).symm, show f 64 3 = mI S 64 3 from (zG_z hI rfl).symm]; exact Or.inr ⟨rfl, fun z => absurd z.2.2.1 (by assumption)⟩) | (rw [show f 65 = mI S 65 from funext (fun k => (zG_z hI rfl).symm), show f 64 2 = mI S 64 2 from (zG_z hI rfl).symm, show f 64 3 = mI S 64 3 from (zG_z hI rfl).symm]; exact Or.inr ⟨rfl, fun z => absurd z.2.2.2.1 (by assumption)⟩) | (rw [show f 65 = mI S 65 from funext (fun k => (zG_z hI rfl).symm), show f 64 2 = mI S 64 2 from (zG_z hI rfl).symm, show f 64 3 = mI S 64 3 from (zG_z hI rfl).symm]; exact Or.inr ⟨rfl, fun z => absurd z.2.2.2.2.1 (by assumption)⟩) | (rw [show f 65 = mI S 65 from funext (fun k => (zG_z hI rfl).symm), show f 64 2 = mI S 64 2 from (zG_z hI rfl).symm, show f 64 3 = mI S 64 3 from (zG_z hI rfl).symm]; exact Or.inr ⟨rfl, fun z => absurd (z.2.2.2.2.2.1.elim (fun y => absurd y (by decide)) id) (by assumption)⟩) | (rw [show f 65 = mI S 65 from funext (fun k => (zG_z hI rfl).symm), show f 64 2 = mI S 64 2 from (zG_z hI rfl).symm, show f 64 3 = mI S 64 3 from (zG_z hI rfl).symm]; exact Or.inr ⟨rfl, fun z => by have y := z.1; rw [if_neg (by decide), if_pos rfl] at y; omega⟩) | (omega) | (exfalso; omega)) (show zFm I0 L0 R0 S from by first | (exact hpre0))
      · skip
        have g75 := i_ne h20
        have li76 : (0 : Int32).toInt = 0 := rfl
        exact K ((0 : Int32)) _ hI (by decide) (show ((0 : Int32) = 1 ∧ zwd (f 65) (f 64 2) ((f 64 3).toInt - (f 64 2).toInt) 119 111 114 115 116 0 0) ∨ ((0 : Int32) = 0 ∧ ¬ zwd (f 65) (f 64 2) ((f 64 3).toInt - (f 64 2).toInt) 119 111 114 115 116 0 0) from by first | (rw [show f 65 = mI S 65 from funext (fun k => (zG_z hI rfl).symm), show f 64 2 = mI S 64 2 from (zG_z hI rfl).symm, show f 64 3 = mI S 64 3 from (zG_z hI rfl).symm]; exact Or.inr ⟨rfl, fun z => absurd z.2.1 (by assumption)⟩) | (rw [show f 65 = mI S 65 from funext (fun k => (zG_z hI rfl).symm), show f 64 2 = mI S 64 2 from (zG_z hI rfl).symm, show f 64 3 = mI S 64 3 from (zG_z hI rfl).symm]; exact Or.inr ⟨rfl, fun z => absurd z.2.2.1 (by assumption)⟩) | (rw [show f 65 = mI S 65 from funext (fun k => (zG_z hI rfl).symm), show f 64 2 = mI S 64 2 from (zG_z hI rfl).symm, show f 64 3 = mI S 64 3 from (zG_z hI rfl).symm]; exact Or.inr ⟨rfl, fun z => absurd z.2.2.2.1 (by assumption)⟩) | (rw [show f 65 = mI S 65 from funext (fun k => (zG_z hI rfl).symm), show f 64 2 = mI S 64 2 from (zG_z hI rfl).symm, show f 64 3 = mI S 64 3 from (zG_z hI rfl).symm]; exact Or.inr ⟨rfl, fun z => absurd z.2.2.2.2.1 (by assumption)⟩) | (rw [show f 65 = mI S 65 from funext (fun k => (zG_z hI rfl).symm), show f 64 2 = mI S 64 2 from (zG_z hI rfl).symm, show f 64 3 = mI S 64 3 from (zG_z hI rfl).symm]; exact Or.inr ⟨rfl, fun z => absurd (z.2.2.2.2.2.1.elim (fun y => absurd y (by decide)) id) (by assumption)⟩) | (rw [show f 65 = mI S 65 from funext (fun k => (zG_z hI rfl).symm), show f 64 2 = mI S 64 2 from (zG_z hI rfl).symm, show f 64 3 = mI S 64 3 from (zG_z hI rfl).symm]; exact Or.inr ⟨rfl, fun z => by have y := z.1; rw [if_neg (by decide), if_pos rfl] at y; omega⟩) | (omega) | (exfalso; omega)) (show zFm I0 L0 R0 S from by first | (exact hpre0))
  · skip
    have g77 := i_ne h8
    have li78 : (0 : Int32).toInt = 0 := rfl
    exact K ((0 : Int32)) _ hI (by decide) (show ((0 : Int32) = 1 ∧ zwd (f 65) (f 64 2) ((f 64 3).toInt - (f 64 2).toInt) 119 111 114 115 116 0 0) ∨ ((0 : Int32) = 0 ∧ ¬ zwd (f 65) (f 64 2) ((f 64 3).toInt - (f 64 2).toInt) 119 111 114 115 116 0 0) from by first | (rw [show f 65 = mI S 65 from funext (fun k => (zG_z hI rfl).symm), show f 64 2 = mI S 64 2 from (zG_z hI rfl).symm, show f 64 3 = mI S 64 3 from (zG_z hI rfl).symm]; exact Or.inr ⟨rfl, fun z => absurd z.2.1 (by assumption)⟩) | (rw [show f 65 = mI S 65 from funext (fun k => (zG_z hI rfl).symm), show f 64 2 = mI S 64 2 from (zG_z hI rfl).symm, show f 64 3 = mI S 64 3 from (zG_z hI rfl).symm]; exact Or.inr ⟨rfl, fun z => absurd z.2.2.1 (by assumption)⟩) | (rw [show f 65 = mI S 65 from funext (fun k => (zG_z hI rfl).symm), show f 64 2 = mI S 64 2 from (zG_z hI rfl).symm, show f 64 3 = mI S 64 3 from (zG_z hI rfl).symm]; exact Or.inr ⟨rfl, fun z => absurd z.2.2.2.1 (by assumption)⟩) | (rw [show f 65 = mI S 65 from funext (fun k => (zG_z hI rfl).symm), show f 64 2 = mI S 64 2 from (zG_z hI rfl).symm, show f 64 3 = mI S 64 3 from (zG_z hI rfl).symm]; exact Or.inr ⟨rfl, fun z => absurd z.2.2.2.2.1 (by assumption)⟩) | (rw [show f 65 = mI S 65 from funext (fun k => (zG_z hI rfl).symm), show f 64 2 = mI S 64 2 from (zG_z hI rfl).symm, show f 64 3 = mI S 64 3 from (zG_z hI rfl).symm]; exact Or.inr ⟨rfl, fun z => absurd (z.2.2.2.2.2.1.elim (fun y => absurd y (by decide)) id) (by assumption)⟩) | (rw [show f 65 = mI S 65 from funext (fun k => (zG_z hI rfl).symm), show f 64 2 = mI S 64 2 from (zG_z hI rfl).symm, show f 64 3 = mI S 64 3 from (zG_z hI rfl).symm]; exact Or.inr ⟨rfl, fun z => by have y := z.1; rw [if_neg (by decide), if_pos rfl] at y; omega⟩) | (omega) | (exfalso; omega)) (show zFm I0 L0 R0 S from by first | (exact hpre0))

/-! from 95.i22 -/
/-! the class opens a heap (written by wip/tools/gen18c.py) -/
theorem g_131_64_17_sq_0 {X : Nat × (Nat → Int32)} {d w : Nat} {S : ma_S} {Q : Option ma_V ⊕ Nat → ma_S → Prop}  (hd : 5 ≤ d) (hw : 100 ≤ w) (hS : zT S) (h : if ((mI S 64 3) - (mI S 64 2)) = (7 : Int32) then (if (100 : Int32) ≤ ((mI S 64 2) + (0 : Int32)) then (Q (.inl (some (.inl (1 : Int32)))) S) else ((0 ≤ ((mI S 64 2) + (0 : Int32)) ∧ ((mI S 64 2) + (0 : Int32)).toNatClampNeg < 100) ∧ (if (mI S 65 ((mI S 64 2) + (0 : Int32)).toNatClampNeg) = (112 : Int32) then (if (100 : Int32) ≤ ((mI S 64 2) + (1 : Int32)) then (Q (.inl (some (.inl (1 : Int32)))) S) else ((0 ≤ ((mI S 64 2) + (1 : Int32)) ∧ ((mI S 64 2) + (1 : Int32)).toNatClampNeg < 100) ∧ (if (mI S 65 ((mI S 64 2) + (1 : Int32)).toNatClampNeg) = (105 : Int32) then (if (100 : Int32) ≤ ((mI S 64 2) + (2 : Int32)) then (Q (.inl (some (.inl (1 : Int32)))) S) else ((0 ≤ ((mI S 64 2) + (2 : Int32)) ∧ ((mI S 64 2) + (2 : Int32)).toNatClampNeg < 100) ∧ (if (mI S 65 ((mI S 64 2) + (2 : Int32)).toNatClampNeg) = (99 : Int32) then (if (100 : Int32) ≤ ((mI S 64 2) + (3 : Int32)) then (Q (.inl (some (.inl (1 : Int32)))) S) else ((0 ≤ ((mI S 64 2) + (3 : Int32)) ∧ ((mI S 64 2) + (3 : Int32)).toNatClampNeg < 100) ∧ (if (mI S 65 ((mI S 64 2) + (3 : Int32)).toNatClampNeg) = (116 : Int32) then (if (100 : Int32) ≤ ((mI S 64 2) + (4 : Int32)) then (Q (.inl (some (.inl (1 : Int32)))) S) else ((0 ≤ ((mI S 64 2) + (4 : Int32)) ∧ ((mI S 64 2) + (4 : Int32)).toNatClampNeg < 100) ∧ (if (mI S 65 ((mI S 64 2) + (4 : Int32)).toNatClampNeg) = (117 : Int32) then (if (100 : Int32) ≤ ((mI S 64 2) + (5 : Int32)) then (Q (.inl (some (.inl (1 : Int32)))) S) else ((0 ≤ ((mI S 64 2) + (5 : Int32)) ∧ ((mI S 64 2) + (5 : Int32)).toNatClampNeg < 100) ∧ (if (mI S 65 ((mI S 64 2) + (5 : Int32)).toNatClampNeg) = (114 : Int32) then (if (100 : Int32) ≤ ((mI S 64 2) + (6 : Int32)) then (Q (.inl (some (.inl (1 : Int32)))) S) else ((0 ≤ ((mI S 64 2) + (6 : Int32)) ∧ ((mI S 64 2) + (6 : Int32)).toNatClampNeg < 100) ∧ (if (mI S 65 ((mI S 64 2) + (6 : Int32)).toNatClampNeg) = (101 : Int32) then (Q (.inl (some (.inl (1 : Int32)))) S) else (Q (.inl (some (.inl (0 : Int32)))) S)))) else (Q (.inl (some (.inl (0 : Int32)))) S)))) else (Q (.inl (some (.inl (0 : Int32)))) S)))) else (Q (.inl (some (.inl (0 : Int32)))) S)))) else (Q (.inl (some (.inl (0 : Int32)))) S)))) else (Q (.inl (some (.inl (0 : Int32)))) S)))) else (Q (.inl (some (.inl (0 : Int32)))) S)))) else (Q (.inl (some (.inl (0 : Int32)))) S)) : ma_wp X d w 131 0 [(0, .inr (.inr (some 64))), (1, .inr (.inr (some 17)))] [] S Q := by
  refine zw_push hm_131 dX11_tokenIs_0 (v := .inr (.inr (some 64))) rfl ?_
  refine zw_gf hm_131 dX11_tokenIs_1 (v := .inl (mI S 64 3)) (zT_is hS s_64) (zT_t hS s_64) rfl f_11_275_11 rfl ?_
  refine zw_push hm_131 dX11_tokenIs_4 (v := .inr (.inr (some 64))) rfl ?_
  refine zw_gf hm_131 dX11_tokenIs_5 (v := .inl (mI S 64 2)) (zT_is hS s_64) (zT_t hS s_64) rfl f_11_92_11 rfl ?_
  refine zw_stk hm_131 dX11_tokenIs_8 (st₉ := [.inl ((mI S 64 3) - (mI S 64 2))]) rfl rfl ?_
  refine zw_push hm_131 dX11_tokenIs_9 (v := .inr (.inr (some 17))) rfl ?_
  refine zw_cv hm_131 dX11_tokenIs_10 v_11_288_17 hm_277 [] [.inl ((mI S 64 3) - (mI S 64 2))] rfl rfl ⟨by omega, by omega⟩ rfl (tx_len (v := (7 : Int32)) (by decide) (by omega) (by omega) rfl rfl ?_)
  show ma_wp X d w 131 13 [(0, .inr (.inr (some 64))), (1, .inr (.inr (some 17)))] [.inl (7 : Int32), .inl ((mI S 64 3) - (mI S 64 2))] S _
  refine zw_if2 hm_131 dX11_tokenIs_13 (t := 18) rfl zc2_eq ?_ ?_
  · intro hc
    rw [if_pos hc] at h
    refine zw_push hm_131 dX11_tokenIs_18 (v := .inl (0 : Int32)) rfl ?_
    refine zw_sto hm_131 dX11_tokenIs_19 [(2, .inl (0 : Int32)), (0, .inr (.inr (some 64))), (1, .inr (.inr (some 17)))] rfl rfl rfl ?_
    refine zw_push hm_131 dX11_tokenIs_20 (v := .inl (0 : Int32)) rfl ?_
    refine zw_push hm_131 dX11_tokenIs_21 (v := .inr (.inr (some 17))) rfl ?_
    refine zw_cv hm_131 dX11_tokenIs_22 v_11_288_17 hm_277 [] [.inl (0 : Int32)] rfl rfl ⟨by omega, by omega⟩ rfl (tx_len (v := (7 : Int32)) (by decide) (by omega) (by omega) rfl rfl ?_)
    show ma_wp X d w 131 25 [(2, .inl (0 : Int32)), (0, .inr (.inr (some 64))), (1, .inr (.inr (some 17)))] [.inl (7 : Int32), .inl (0 : Int32)] S _
    refine zw_if2 hm_131 dX11_tokenIs_25 (t := 66) rfl zc2_ge (fun hc => absurd hc (by decide)) (fun _ => ?_)
    refine zw_push hm_131 dX11_tokenIs_28 (v := .inr (.inr (some 64))) rfl ?_
    refine zw_gf hm_131 dX11_tokenIs_29 (v := .inl (mI S 64 2)) (zT_is hS s_64) (zT_t hS s_64) rfl f_11_92_11 rfl ?_
    refine zw_push hm_131 dX11_tokenIs_32 (v := .inl (0 : Int32)) rfl ?_
    refine zw_stk hm_131 dX11_tokenIs_33 (st₉ := [.inl ((mI S 64 2) + (0 : Int32))]) rfl rfl ?_
    refine zw_push hm_131 dX11_tokenIs_34 (v := .inl (100 : Int32)) rfl ?_
    refine zw_if2 hm_131 dX11_tokenIs_36 (t := 66) rfl zc2_ge ?_ ?_
    · intro hc
      rw [if_pos hc] at h
      refine zw_push hm_131 dX11_tokenIs_66 (v := .inl (1 : Int32)) rfl ?_
      exact zw_bret hm_131 dX11_tokenIs_67 (by decide) h
    · intro hc
      rw [if_neg hc] at h
      refine zw_push hm_131 dX11_tokenIs_39 (v := .inr (.inr (some 64))) rfl ?_
      refine zw_gf hm_131 dX11_tokenIs_40 (v := .inr (.inr (some 65))) (zT_is hS s_64) (zT_t hS s_64) rfl f_11_9_11 (zT_f hS r_64_0) ?_
      refine zw_push hm_131 dX11_tokenIs_43 (v := .inr (.inr (some 64))) rfl ?_
      refine zw_gf hm_131 dX11_tokenIs_44 (v := .inl (mI S 64 2)) (zT_is hS s_64) (zT_t hS s_64) rfl f_11_92_11 rfl ?_
      refine zw_push hm_131 dX11_tokenIs_47 (v := .inl (0 : Int32)) rfl ?_
      refine zw_stk hm_131 dX11_tokenIs_48 (st₉ := [.inl ((mI S 64 2) + (0 : Int32)), .inr (.inr (some 65))]) rfl rfl ?_
      obtain ⟨hg, h⟩ := h
      refine zw_ba hm_131 dX11_tokenIs_49 (zT_is hS s_65) (zT_h hS s_65) rfl rfl hg ?_
      show ma_wp X d w 131 50 [(2, .inl (0 : Int32)), (0, .inr (.inr (some 64))), (1, .inr (.inr (some 17)))] [.inl (mI S 65 ((mI S 64 2) + (0 : Int32)).toNatClampNeg)] S _
      refine zw_push hm_131 dX11_tokenIs_50 (v := .inr (.inr (some 17))) rfl ?_
      refine zw_push hm_131 dX11_tokenIs_51 (v := .inl (0 : Int32)) rfl ?_
      refine zw_cv hm_131 dX11_tokenIs_52 v_11_293_17 hm_279 [.inl (0 : Int32)] [.inl (mI S 65 ((mI S 64 2) + (0 : Int32)).toNatClampNeg)] rfl rfl ⟨by omega, by omega⟩ rfl (tx_char (v := (112 : Int32)) (by decide) (by omega) (by omega) (by decide) (by decide) (by decide) (by decide) ?_)
      show ma_wp X d w 131 55 [(2, .inl (0 : Int32)), (0, .inr (.inr (some 64))), (1, .inr (.inr (some 17)))] [.inl (112 : Int32), .inl (mI S 65 ((mI S 64 2) + (0 : Int32)).toNatClampNeg)] S _
      refine zw_if2 hm_131 dX11_tokenIs_55 (t := 60) rfl zc2_eq ?_ ?_
      · intro hc
        rw [if_pos hc] at h
        refine zw_sto hm_131 dX11_tokenIs_60 [(2, .inl (1 : Int32)), (0, .inr (.inr (some 64))), (1, .inr (.inr (some 17)))] rfl rfl rfl ?_
        refine zw_goto hm_131 dX11_tokenIs_63 (t := 20) rfl ?_
        refine zw_push hm_131 dX11_tokenIs_20 (v := .inl (1 : Int32)) rfl ?_
        refine zw_push hm_131 dX11_tokenIs_21 (v := .inr (.inr (some 17))) rfl ?_
        refine zw_cv hm_131 dX11_tokenIs_22 v_11_288_17 hm_277 [] [.inl (1 : Int32)] rfl rfl ⟨by omega, by omega⟩ rfl (tx_len (v := (7 : Int32)) (by decide) (by omega) (by omega) rfl rfl ?_)
        show ma_wp X d w 131 25 [(2, .inl (1 : Int32)), (0, .inr (.inr (some 64))), (1, .inr (.inr (some 17)))] [.inl (7 : Int32), .inl (1 : Int32)] S _
        refine zw_if2 hm_131 dX11_tokenIs_25 (t := 66) rfl zc2_ge (fun hc => absurd hc (by decide)) (fun _ => ?_)
        refine zw_push hm_131 dX11_tokenIs_28 (v := .inr (.inr (some 64))) rfl ?_
        refine zw_gf hm_131 dX11_tokenIs_29 (v := .inl (mI S 64 2)) (zT_is hS s_64) (zT_t hS s_64) rfl f_11_92_11 rfl ?_
        refine zw_push hm_131 dX11_tokenIs_32 (v := .inl (1 : Int32)) rfl ?_
        refine zw_stk hm_131 dX11_tokenIs_33 (st₉ := [.inl ((mI S 64 2) + (1 : Int32))]) rfl rfl ?_
        refine zw_push hm_131 dX11_tokenIs_34 (v := .inl (100 : Int32)) rfl ?_
        refine zw_if2 hm_131 dX11_tokenIs_36 (t := 66) rfl zc2_ge ?_ ?_
        · intro hc
          rw [if_pos hc] at h
          refine zw_push hm_131 dX11_tokenIs_66 (v := .inl (1 : Int32)) rfl ?_
          exact zw_bret hm_131 dX11_tokenIs_67 (by decide) h
        · intro hc
          rw [if_neg hc] at h
          refine zw_push hm_131 dX11_tokenIs_39 (v := .inr (.inr (some 64))) rfl ?_
          refine zw_gf hm_131 dX11_tokenIs_40 (v := .inr (.inr (some 65))) (zT_is hS s_64) (zT_t hS s_64) rfl f_11_9_11 (zT_f hS r_64_0) ?_
          refine zw_push hm_131 dX11_tokenIs_43 (v := .inr (.inr (some 64))) rfl ?_
          refine zw_gf hm_131 dX11_tokenIs_44 (v := .inl (mI S 64 2)) (zT_is hS s_64) (zT_t hS s_64) rfl f_11_92_11 rfl ?_
          refine zw_push hm_131 dX11_tokenIs_47 (v := .inl (1 : Int32)) rfl ?_
          refine zw_stk hm_131 dX11_tokenIs_48 (st₉ := [.inl ((mI S 64 2) + (1 : Int32)), .inr (.inr (some 65))]) rfl rfl ?_
          obtain ⟨hg, h⟩ := h
          refine zw_ba hm_131 dX11_tokenIs_49 (zT_is hS s_65) (zT_h hS s_65) rfl rfl hg ?_
          show ma_wp X d w 131 50 [(2, .inl (1 : Int32)), (0, .inr (.inr (some 64))), (1, .inr (.inr (some 17)))] [.inl (mI S 65 ((mI S 64 2) + (1 : Int32)).toNatClampNeg)] S _
          refine zw_push hm_131 dX11_tokenIs_50 (v := .inr (.inr (some 17))) rfl ?_
          refine zw_push hm_131 dX11_tokenIs_51 (v := .inl (1 : Int32)) rfl ?_
          refine zw_cv hm_131 dX11_tokenIs_52 v_11_293_17 hm_279 [.inl (1 : Int32)] [.inl (mI S 65 ((mI S 64 2) + (1 : Int32)).toNatClampNeg)] rfl rfl ⟨by omega, by omega⟩ rfl (tx_char (v := (105 : Int32)) (by decide) (by omega) (by omega) (by decide) (by decide) (by decide) (by decide) ?_)
          show ma_wp X d w 131 55 [(2, .inl (1 : Int32)), (0, .inr (.inr (some 64))), (1, .inr (.inr (some 17)))] [.inl (105 : Int32), .inl (mI S 65 ((mI S 64 2) + (1 : Int32)).toNatClampNeg)] S _
          refine zw_if2 hm_131 dX11_tokenIs_55 (t := 60) rfl zc2_eq ?_ ?_
          · intro hc
            rw [if_pos hc] at h
            refine zw_sto hm_131 dX11_tokenIs_60 [(2, .inl (2 : Int32)), (0, .inr (.inr (some 64))), (1, .inr (.inr (some 17)))] rfl rfl rfl ?_
            refine zw_goto hm_131 dX11_tokenIs_63 (t := 20) rfl ?_
            refine zw_push hm_131 dX11_tokenIs_20 (v := .inl (2 : Int32)) rfl ?_
            refine zw_push hm_131 dX11_tokenIs_21 (v := .inr (.inr (some 17))) rfl ?_
            refine zw_cv hm_131 dX11_tokenIs_22 v_11_288_17 hm_277 [] [.inl (2 : Int32)] rfl rfl ⟨by omega, by omega⟩ rfl (tx_len (v := (7 : Int32)) (by decide) (by omega) (by omega) rfl rfl ?_)
            show ma_wp X d w 131 25 [(2, .inl (2 : Int32)), (0, .inr (.inr (some 64))), (1, .inr (.inr (some 17)))] [.inl (7 : Int32), .inl (2 : Int32)] S _
            refine zw_if2 hm_131 dX11_tokenIs_25 (t := 66) rfl zc2_ge (fun hc => absurd hc (by decide)) (fun _ => ?_)
            refine zw_push hm_131 dX11_tokenIs_28 (v := .inr (.inr (some 64))) rfl ?_
            refine zw_gf hm_131 dX11_tokenIs_29 (v := .inl (mI S 64 2)) (zT_is hS s_64) (zT_t hS s_64) rfl f_11_92_11 rfl ?_
            refine zw_push hm_131 dX11_tokenIs_32 (v := .inl (2 : Int32)) rfl ?_
            refine zw_stk hm_131 dX11_tokenIs_33 (st₉ := [.inl ((mI S 64 2) + (2 : Int32))]) rfl rfl ?_
            refine zw_push hm_131 dX11_tokenIs_34 (v := .inl (100 : Int32)) rfl ?_
            refine zw_if2 hm_131 dX11_tokenIs_36 (t := 66) rfl zc2_ge ?_ ?_
            · intro hc
              rw [if_pos hc] at h
              refine zw_push hm_131 dX11_tokenIs_66 (v := .inl (1 : Int32)) rfl ?_
              exact zw_bret hm_131 dX11_tokenIs_67 (by decide) h
            · intro hc
              rw [if_neg hc] at h
              refine zw_push hm_131 dX11_tokenIs_39 (v := .inr (.inr (some 64))) rfl ?_
              refine zw_gf hm_131 dX11_tokenIs_40 (v := .inr (.inr (some 65))) (zT_is hS s_64) (zT_t hS s_64) rfl f_11_9_11 (zT_f hS r_64_0) ?_
              refine zw_push hm_131 dX11_tokenIs_43 (v := .inr (.inr (some 64))) rfl ?_
              refine zw_gf hm_131 dX11_tokenIs_44 (v := .inl (mI S 64 2)) (zT_is hS s_64) (zT_t hS s_64) rfl f_11_92_11 rfl ?_
              refine zw_push hm_131 dX11_tokenIs_47 (v := .inl (2 : Int32)) rfl ?_
              refine zw_stk hm_131 dX11_tokenIs_48 (st₉ := [.inl ((mI S 64 2) + (2 : Int32)), .inr (.inr (some 65))]) rfl rfl ?_
              obtain ⟨hg, h⟩ := h
              refine zw_ba hm_131 dX11_tokenIs_49 (zT_is hS s_65) (zT_h hS s_65) rfl rfl hg ?_
              show ma_wp X d w 131 50 [(2, .inl (2 : Int32)), (0, .inr (.inr (some 64))), (1, .inr (.inr (some 17)))] [.inl (mI S 65 ((mI S 64 2) + (2 : Int32)).toNatClampNeg)] S _
              refine zw_push hm_131 dX11_tokenIs_50 (v := .inr (.inr (some 17))) rfl ?_
              refine zw_push hm_131 dX11_tokenIs_51 (v := .inl (2 : Int32)) rfl ?_
              refine zw_cv hm_131 dX11_tokenIs_52 v_11_293_17 hm_279 [.inl (2 : Int32)] [.inl (mI S 65 ((mI S 64 2) + (2 : Int32)).toNatClampNeg)] rfl rfl ⟨by omega, by omega⟩ rfl (tx_char (v := (99 : Int32)) (by decide) (by omega) (by omega) (by decide) (by decide) (by decide) (by decide) ?_)
              show ma_wp X d w 131 55 [(2, .inl (2 : Int32)), (0, .inr (.inr (some 64))), (1, .inr (.inr (some 17)))] [.inl (99 : Int32), .inl (mI S 65 ((mI S 64 2) + (2 : Int32)).toNatClampNeg)] S _
              refine zw_if2 hm_131 dX11_tokenIs_55 (t := 60) rfl zc2_eq ?_ ?_
              · intro hc
                rw [if_pos hc] at h
                refine zw_sto hm_131 dX11_tokenIs_60 [(2, .inl (3 : Int32)), (0, .inr (.inr (some 64))), (1, .inr (.inr (some 17)))] rfl rfl rfl ?_
                refine zw_goto hm_131 dX11_tokenIs_63 (t := 20) rfl ?_
                refine zw_push hm_131 dX11_tokenIs_20 (v := .inl (3 : Int32)) rfl ?_
                refine zw_push hm_131 dX11_tokenIs_21 (v := .inr (.inr (some 17))) rfl ?_
                refine zw_cv hm_131 dX11_tokenIs_22 v_11_288_17 hm_277 [] [.inl (3 : Int32)] rfl rfl ⟨by omega, by omega⟩ rfl (tx_len (v := (7 : Int32)) (by decide) (by omega) (by omega) rfl rfl ?_)
                show ma_wp X d w 131 25 [(2, .inl (3 : Int32)), (0, .inr (.inr (some 64))), (1, .inr (.inr (some 17)))] [.inl (7 : Int32), .inl (3 : Int32)] S _
                refine zw_if2 hm_131 dX11_tokenIs_25 (t := 66) rfl zc2_ge (fun hc => absurd hc (by decide)) (fun _ => ?_)
                refine zw_push hm_131 dX11_tokenIs_28 (v := .inr (.inr (some 64))) rfl ?_
                refine zw_gf hm_131 dX11_tokenIs_29 (v := .inl (mI S 64 2)) (zT_is hS s_64) (zT_t hS s_64) rfl f_11_92_11 rfl ?_
                refine zw_push hm_131 dX11_tokenIs_32 (v := .inl (3 : Int32)) rfl ?_
                refine zw_stk hm_131 dX11_tokenIs_33 (st₉ := [.inl ((mI S 64 2) + (3 : Int32))]) rfl rfl ?_
                refine zw_push hm_131 dX11_tokenIs_34 (v := .inl (100 : Int32)) rfl ?_
                refine zw_if2 hm_131 dX11_tokenIs_36 (t := 66) rfl zc2_ge ?_ ?_
                · intro hc
                  rw [if_pos hc] at h
                  refine zw_push hm_131 dX11_tokenIs_66 (v := .inl (1 : Int32)) rfl ?_
                  exact zw_bret hm_131 dX11_tokenIs_67 (by decide) h
                · intro hc
                  rw [if_neg hc] at h
                  refine zw_push hm_131 dX11_tokenIs_39 (v := .inr (.inr (some 64))) rfl ?_
                  refine zw_gf hm_131 dX11_tokenIs_40 (v := .inr (.inr (some 65))) (zT_is hS s_64) (zT_t hS s_64) rfl f_11_9_11 (zT_f hS r_64_0) ?_
                  refine zw_push hm_131 dX11_tokenIs_43 (v := .inr (.inr (some 64))) rfl ?_
                  refine zw_gf hm_131 dX11_tokenIs_44 (v := .inl (mI S 64 2)) (zT_is hS s_64) (zT_t hS s_64) rfl f_11_92_11 rfl ?_
                  refine zw_push hm_131 dX11_tokenIs_47 (v := .inl (3 : Int32)) rfl ?_
                  refine zw_stk hm_131 dX11_tokenIs_48 (st₉ := [.inl ((mI S 64 2) + (3 : Int32)), .inr (.inr (some 65))]) rfl rfl ?_
                  obtain ⟨hg, h⟩ := h
                  refine zw_ba hm_131 dX11_tokenIs_49 (zT_is hS s_65) (zT_h hS s_65) rfl rfl hg ?_
                  show ma_wp X d w 131 50 [(2, .inl (3 : Int32)), (0, .inr (.inr (some 64))), (1, .inr (.inr (some 17)))] [.inl (mI S 65 ((mI S 64 2) + (3 : Int32)).toNatClampNeg)] S _
                  refine zw_push hm_131 dX11_tokenIs_50 (v := .inr (.inr (some 17))) rfl ?_
                  refine zw_push hm_131 dX11_tokenIs_51 (v := .inl (3 : Int32)) rfl ?_
                  refine zw_cv hm_131 dX11_tokenIs_52 v_11_293_17 hm_279 [.inl (3 : Int32)] [.inl (mI S 65 ((mI S 64 2) + (3 : Int32)).toNatClampNeg)] rfl rfl ⟨by omega, by omega⟩ rfl (tx_char (v := (116 : Int32)) (by decide) (by omega) (by omega) (by decide) (by decide) (by decide) (by decide) ?_)
                  show ma_wp X d w 131 55 [(2, .inl (3 : Int32)), (0, .inr (.inr (some 64))), (1, .inr (.inr (some 17)))] [.inl (116 : Int32), .inl (mI S 65 ((mI S 64 2) + (3 : Int32)).toNatClampNeg)] S _
                  refine zw_if2 hm_131 dX11_tokenIs_55 (t := 60) rfl zc2_eq ?_ ?_
                  · intro hc
                    rw [if_pos hc] at h
                    refine zw_sto hm_131 dX11_tokenIs_60 [(2, .inl (4 : Int32)), (0, .inr (.inr (some 64))), (1, .inr (.inr (some 17)))] rfl rfl rfl ?_
                    refine zw_goto hm_131 dX11_tokenIs_63 (t := 20) rfl ?_
                    refine zw_push hm_131 dX11_tokenIs_20 (v := .inl (4 : Int32)) rfl ?_
                    refine zw_push hm_131 dX11_tokenIs_21 (v := .inr (.inr (some 17))) rfl ?_
                    refine zw_cv hm_131 dX11_tokenIs_22 v_11_288_17 hm_277 [] [.inl (4 : Int32)] rfl rfl ⟨by omega, by omega⟩ rfl (tx_len (v := (7 : Int32)) (by decide) (by omega) (by omega) rfl rfl ?_)
                    show ma_wp X d w 131 25 [(2, .inl (4 : Int32)), (0, .inr (.inr (some 64))), (1, .inr (.inr (some 17)))] [.inl (7 : Int32), .inl (4 : Int32)] S _
                    refine zw_if2 hm_131 dX11_tokenIs_25 (t := 66) rfl zc2_ge (fun hc => absurd hc (by decide)) (fun _ => ?_)
                    refine zw_push hm_131 dX11_tokenIs_28 (v := .inr (.inr (some 64))) rfl ?_
                    refine zw_gf hm_131 dX11_tokenIs_29 (v := .inl (mI S 64 2)) (zT_is hS s_64) (zT_t hS s_64) rfl f_11_92_11 rfl ?_
                    refine zw_push hm_131 dX11_tokenIs_32 (v := .inl (4 : Int32)) rfl ?_
                    refine zw_stk hm_131 dX11_tokenIs_33 (st₉ := [.inl ((mI S 64 2) + (4 : Int32))]) rfl rfl ?_
                    refine zw_push hm_131 dX11_tokenIs_34 (v := .inl (100 : Int32)) rfl ?_
                    refine zw_if2 hm_131 dX11_tokenIs_36 (t := 66) rfl zc2_ge ?_ ?_
                    · intro hc
                      rw [if_pos hc] at h
                      refine zw_push hm_131 dX11_tokenIs_66 (v := .inl (1 : Int32)) rfl ?_
                      exact zw_bret hm_131 dX11_tokenIs_67 (by decide) h
                    · intro hc
                      rw [if_neg hc] at h
                      refine zw_push hm_131 dX11_tokenIs_39 (v := .inr (.inr (some 64))) rfl ?_
                      refine zw_gf hm_131 dX11_tokenIs_40 (v := .inr (.inr (some 65))) (zT_is hS s_64) (zT_t hS s_64) rfl f_11_9_11 (zT_f hS r_64_0) ?_
                      refine zw_push hm_131 dX11_tokenIs_43 (v := .inr (.inr (some 64))) rfl ?_
                      refine zw_gf hm_131 dX11_tokenIs_44 (v := .inl (mI S 64 2)) (zT_is hS s_64) (zT_t hS s_64) rfl f_11_92_11 rfl ?_
                      refine zw_push hm_131 dX11_tokenIs_47 (v := .inl (4 : Int32)) rfl ?_
                      refine zw_stk hm_131 dX11_tokenIs_48 (st₉ := [.inl ((mI S 64 2) + (4 : Int32)), .inr (.inr (some 65))]) rfl rfl ?_
                      obtain ⟨hg, h⟩ := h
                      refine zw_ba hm_131 dX11_tokenIs_49 (zT_is hS s_65) (zT_h hS s_65) rfl rfl hg ?_
                      show ma_wp X d w 131 50 [(2, .inl (4 : Int32)), (0, .inr (.inr (some 64))), (1, .inr (.inr (some 17)))] [.inl (mI S 65 ((mI S 64 2) + (4 : Int32)).toNatClampNeg)] S _
                      refine zw_push hm_131 dX11_tokenIs_50 (v := .inr (.inr (some 17))) rfl ?_
                      refine zw_push hm_131 dX11_tokenIs_51 (v := .inl (4 : Int32)) rfl ?_
                      refine zw_cv hm_131 dX11_tokenIs_52 v_11_293_17 hm_279 [.inl (4 : Int32)] [.inl (mI S 65 ((mI S 64 2) + (4 : Int32)).toNatClampNeg)] rfl rfl ⟨by omega, by omega⟩ rfl (tx_char (v := (117 : Int32)) (by decide) (by omega) (by omega) (by decide) (by decide) (by decide) (by decide) ?_)
                      show ma_wp X d w 131 55 [(2, .inl (4 : Int32)), (0, .inr (.inr (some 64))), (1, .inr (.inr (some 17)))] [.inl (117 : Int32), .inl (mI S 65 ((mI S 64 2) + (4 : Int32)).toNatClampNeg)] S _
                      refine zw_if2 hm_131 dX11_tokenIs_55 (t := 60) rfl zc2_eq ?_ ?_
                      · intro hc
                        rw [if_pos hc] at h
                        refine zw_sto hm_131 dX11_tokenIs_60 [(2, .inl (5 : Int32)), (0, .inr (.inr (some 64))), (1, .inr (.inr (some 17)))] rfl rfl rfl ?_
                        refine zw_goto hm_131 dX11_tokenIs_63 (t := 20) rfl ?_
                        refine zw_push hm_131 dX11_tokenIs_20 (v := .inl (5 : Int32)) rfl ?_
                        refine zw_push hm_131 dX11_tokenIs_21 (v := .inr (.inr (some 17))) rfl ?_
                        refine zw_cv hm_131 dX11_tokenIs_22 v_11_288_17 hm_277 [] [.inl (5 : Int32)] rfl rfl ⟨by omega, by omega⟩ rfl (tx_len (v := (7 : Int32)) (by decide) (by omega) (by omega) rfl rfl ?_)
                        show ma_wp X d w 131 25 [(2, .inl (5 : Int32)), (0, .inr (.inr (some 64))), (1, .inr (.inr (some 17)))] [.inl (7 : Int32), .inl (5 : Int32)] S _
                        refine zw_if2 hm_131 dX11_tokenIs_25 (t := 66) rfl zc2_ge (fun hc => absurd hc (by decide)) (fun _ => ?_)
                        refine zw_push hm_131 dX11_tokenIs_28 (v := .inr (.inr (some 64))) rfl ?_
                        refine zw_gf hm_131 dX11_tokenIs_29 (v := .inl (mI S 64 2)) (zT_is hS s_64) (zT_t hS s_64) rfl f_11_92_11 rfl ?_
                        refine zw_push hm_131 dX11_tokenIs_32 (v := .inl (5 : Int32)) rfl ?_
                        refine zw_stk hm_131 dX11_tokenIs_33 (st₉ := [.inl ((mI S 64 2) + (5 : Int32))]) rfl rfl ?_
                        refine zw_push hm_131 dX11_tokenIs_34 (v := .inl (100 : Int32)) rfl ?_
                        refine zw_if2 hm_131 dX11_tokenIs_36 (t := 66) rfl zc2_ge ?_ ?_
                        · intro hc
                          rw [if_pos hc] at h
                          refine zw_push hm_131 dX11_tokenIs_66 (v := .inl (1 : Int32)) rfl ?_
                          exact zw_bret hm_131 dX11_tokenIs_67 (by decide) h
                        · intro hc
                          rw [if_neg hc] at h
                          refine zw_push hm_131 dX11_tokenIs_39 (v := .inr (.inr (some 64))) rfl ?_
                          refine zw_gf hm_131 dX11_tokenIs_40 (v := .inr (.inr (some 65))) (zT_is hS s_64) (zT_t hS s_64) rfl f_11_9_11 (zT_f hS r_64_0) ?_
                          refine zw_push hm_131 dX11_tokenIs_43 (v := .inr (.inr (some 64))) rfl ?_
                          refine zw_gf hm_131 dX11_tokenIs_44 (v := .inl (mI S 64 2)) (zT_is hS s_64) (zT_t hS s_64) rfl f_11_92_11 rfl ?_
                          refine zw_push hm_131 dX11_tokenIs_47 (v := .inl (5 : Int32)) rfl ?_
                          refine zw_stk hm_131 dX11_tokenIs_48 (st₉ := [.inl ((mI S 64 2) + (5 : Int32)), .inr (.inr (some 65))]) rfl rfl ?_
                          obtain ⟨hg, h⟩ := h
                          refine zw_ba hm_131 dX11_tokenIs_49 (zT_is hS s_65) (zT_h hS s_65) rfl rfl hg ?_
                          show ma_wp X d w 131 50 [(2, .inl (5 : Int32)), (0, .inr (.inr (some 64))), (1, .inr (.inr (some 17)))] [.inl (mI S 65 ((mI S 64 2) + (5 : Int32)).toNatClampNeg)] S _
                          refine zw_push hm_131 dX11_tokenIs_50 (v := .inr (.inr (some 17))) rfl ?_
                          refine zw_push hm_131 dX11_tokenIs_51 (v := .inl (5 : Int32)) rfl ?_
                          refine zw_cv hm_131 dX11_tokenIs_52 v_11_293_17 hm_279 [.inl (5 : Int32)] [.inl (mI S 65 ((mI S 64 2) + (5 : Int32)).toNatClampNeg)] rfl rfl ⟨by omega, by omega⟩ rfl (tx_char (v := (114 : Int32)) (by decide) (by omega) (by omega) (by decide) (by decide) (by decide) (by decide) ?_)
                          show ma_wp X d w 131 55 [(2, .inl (5 : Int32)), (0, .inr (.inr (some 64))), (1, .inr (.inr (some 17)))] [.inl (114 : Int32), .inl (mI S 65 ((mI S 64 2) + (5 : Int32)).toNatClampNeg)] S _
                          refine zw_if2 hm_131 dX11_tokenIs_55 (t := 60) rfl zc2_eq ?_ ?_
                          · intro hc
                            rw [if_pos hc] at h
                            refine zw_sto hm_131 dX11_tokenIs_60 [(2, .inl (6 : Int32)), (0, .inr (.inr (some 64))), (1, .inr (.inr (some 17)))] rfl rfl rfl ?_
                            refine zw_goto hm_131 dX11_tokenIs_63 (t := 20) rfl ?_
                            refine zw_push hm_131 dX11_tokenIs_20 (v := .inl (6 : Int32)) rfl ?_
                            refine zw_push hm_131 dX11_tokenIs_21 (v := .inr (.inr (some 17))) rfl ?_
                            refine zw_cv hm_131 dX11_tokenIs_22 v_11_288_17 hm_277 [] [.inl (6 : Int32)] rfl rfl ⟨by omega, by omega⟩ rfl (tx_len (v := (7 : Int32)) (by decide) (by omega) (by omega) rfl rfl ?_)
                            show ma_wp X d w 131 25 [(2, .inl (6 : Int32)), (0, .inr (.inr (some 64))), (1, .inr (.inr (some 17)))] [.inl (7 : Int32), .inl (6 : Int32)] S _
                            refine zw_if2 hm_131 dX11_tokenIs_25 (t := 66) rfl zc2_ge (fun hc => absurd hc (by decide)) (fun _ => ?_)
                            refine zw_push hm_131 dX11_tokenIs_28 (v := .inr (.inr (some 64))) rfl ?_
                            refine zw_gf hm_131 dX11_tokenIs_29 (v := .inl (mI S 64 2)) (zT_is hS s_64) (zT_t hS s_64) rfl f_11_92_11 rfl ?_
                            refine zw_push hm_131 dX11_tokenIs_32 (v := .inl (6 : Int32)) rfl ?_
                            refine zw_stk hm_131 dX11_tokenIs_33 (st₉ := [.inl ((mI S 64 2) + (6 : Int32))]) rfl rfl ?_
                            refine zw_push hm_131 dX11_tokenIs_34 (v := .inl (100 : Int32)) rfl ?_
                            refine zw_if2 hm_131 dX11_tokenIs_36 (t := 66) rfl zc2_ge ?_ ?_
                            · intro hc
                              rw [if_pos hc] at h
                              refine zw_push hm_131 dX11_tokenIs_66 (v := .inl (1 : Int32)) rfl ?_
                              exact zw_bret hm_131 dX11_tokenIs_67 (by decide) h
                            · intro hc
                              rw [if_neg hc] at h
                              refine zw_push hm_131 dX11_tokenIs_39 (v := .inr (.inr (some 64))) rfl ?_
                              refine zw_gf hm_131 dX11_tokenIs_40 (v := .inr (.inr (some 65))) (zT_is hS s_64) (zT_t hS s_64) rfl f_11_9_11 (zT_f hS r_64_0) ?_
                              refine zw_push hm_131 dX11_tokenIs_43 (v := .inr (.inr (some 64))) rfl ?_
                              refine zw_gf hm_131 dX11_tokenIs_44 (v := .inl (mI S 64 2)) (zT_is hS s_64) (zT_t hS s_64) rfl f_11_92_11 rfl ?_
                              refine zw_push hm_131 dX11_tokenIs_47 (v := .inl (6 : Int32)) rfl ?_
                              refine zw_stk hm_131 dX11_tokenIs_48 (st₉ := [.inl ((mI S 64 2) + (6 : Int32)), .inr (.inr (some 65))]) rfl rfl ?_
                              obtain ⟨hg, h⟩ := h
                              refine zw_ba hm_131 dX11_tokenIs_49 (zT_is hS s_65) (zT_h hS s_65) rfl rfl hg ?_
                              show ma_wp X d w 131 50 [(2, .inl (6 : Int32)), (0, .inr (.inr (some 64))), (1, .inr (.inr (some 17)))] [.inl (mI S 65 ((mI S 64 2) + (6 : Int32)).toNatClampNeg)] S _
                              refine zw_push hm_131 dX11_tokenIs_50 (v := .inr (.inr (some 17))) rfl ?_
                              refine zw_push hm_131 dX11_tokenIs_51 (v := .inl (6 : Int32)) rfl ?_
                              refine zw_cv hm_131 dX11_tokenIs_52 v_11_293_17 hm_279 [.inl (6 : Int32)] [.inl (mI S 65 ((mI S 64 2) + (6 : Int32)).toNatClampNeg)] rfl rfl ⟨by omega, by omega⟩ rfl (tx_char (v := (101 : Int32)) (by decide) (by omega) (by omega) (by decide) (by decide) (by decide) (by decide) ?_)
                              show ma_wp X d w 131 55 [(2, .inl (6 : Int32)), (0, .inr (.inr (some 64))), (1, .inr (.inr (some 17)))] [.inl (101 : Int32), .inl (mI S 65 ((mI S 64 2) + (6 : Int32)).toNatClampNeg)] S _
                              refine zw_if2 hm_131 dX11_tokenIs_55 (t := 60) rfl zc2_eq ?_ ?_
                              · intro hc
                                rw [if_pos hc] at h
                                refine zw_sto hm_131 dX11_tokenIs_60 [(2, .inl (7 : Int32)), (0, .inr (.inr (some 64))), (1, .inr (.inr (some 17)))] rfl rfl rfl ?_
                                refine zw_goto hm_131 dX11_tokenIs_63 (t := 20) rfl ?_
                                refine zw_push hm_131 dX11_tokenIs_20 (v := .inl (7 : Int32)) rfl ?_
                                refine zw_push hm_131 dX11_tokenIs_21 (v := .inr (.inr (some 17))) rfl ?_
                                refine zw_cv hm_131 dX11_tokenIs_22 v_11_288_17 hm_277 [] [.inl (7 : Int32)] rfl rfl ⟨by omega, by omega⟩ rfl (tx_len (v := (7 : Int32)) (by decide) (by omega) (by omega) rfl rfl ?_)
                                show ma_wp X d w 131 25 [(2, .inl (7 : Int32)), (0, .inr (.inr (some 64))), (1, .inr (.inr (some 17)))] [.inl (7 : Int32), .inl (7 : Int32)] S _
                                refine zw_if2 hm_131 dX11_tokenIs_25 (t := 66) rfl zc2_ge (fun _ => ?_) (fun hc => absurd (by decide) hc)
                                refine zw_push hm_131 dX11_tokenIs_66 (v := .inl (1 : Int32)) rfl ?_
                                exact zw_bret hm_131 dX11_tokenIs_67 (by decide) h
                              · intro hc
                                rw [if_neg hc] at h
                                refine zw_push hm_131 dX11_tokenIs_58 (v := .inl (0 : Int32)) rfl ?_
                                exact zw_bret hm_131 dX11_tokenIs_59 (by decide) h
                          · intro hc
                            rw [if_neg hc] at h
                            refine zw_push hm_131 dX11_tokenIs_58 (v := .inl (0 : Int32)) rfl ?_
                            exact zw_bret hm_131 dX11_tokenIs_59 (by decide) h
                      · intro hc
                        rw [if_neg hc] at h
                        refine zw_push hm_131 dX11_tokenIs_58 (v := .inl (0 : Int32)) rfl ?_
                        exact zw_bret hm_131 dX11_tokenIs_59 (by decide) h
                  · intro hc
                    rw [if_neg hc] at h
                    refine zw_push hm_131 dX11_tokenIs_58 (v := .inl (0 : Int32)) rfl ?_
                    exact zw_bret hm_131 dX11_tokenIs_59 (by decide) h
              · intro hc
                rw [if_neg hc] at h
                refine zw_push hm_131 dX11_tokenIs_58 (v := .inl (0 : Int32)) rfl ?_
                exact zw_bret hm_131 dX11_tokenIs_59 (by decide) h
          · intro hc
            rw [if_neg hc] at h
            refine zw_push hm_131 dX11_tokenIs_58 (v := .inl (0 : Int32)) rfl ?_
            exact zw_bret hm_131 dX11_tokenIs_59 (by decide) h
      · intro hc
        rw [if_neg hc] at h
        refine zw_push hm_131 dX11_tokenIs_58 (v := .inl (0 : Int32)) rfl ?_
        exact zw_bret hm_131 dX11_tokenIs_59 (by decide) h
  · intro hc
    rw [if_neg hc] at h
    refine zw_push hm_131 dX11_tokenIs_16 (v := .inl (0 : Int32)) rfl ?_
    exact zw_bret hm_131 dX11_tokenIs_17 (by decide) h
theorem sp_131_64_17_sq {X : Nat × (Nat → Int32)} {d w : Nat} {f : Nat → Nat → Int32} {r : Nat → Nat → Option Nat} {C Z N : Nat} {Q : Option ma_V ⊕ Nat → ma_S → Prop} {I0 : Nat→Nat→Int32} {L0 : Nat→Nat→Int64} {R0 : zRT} {S : ma_S}  (hd : 5 ≤ d) (hw : 100 ≤ w) (hI : zY0 f r C Z N S) (hpre0 : zFm I0 L0 R0 S) (K : ∀ v S₉, zY0 f r C Z N S₉ → (v = 0 ∨ v = 1) → ((v = 1 ∧ zwd (f 65) (f 64 2) ((f 64 3).toInt - (f 64 2).toInt) 112 105 99 116 117 114 101) ∨ (v = 0 ∧ ¬ zwd (f 65) (f 64 2) ((f 64 3).toInt - (f 64 2).toInt) 112 105 99 116 117 114 101)) → (zFm I0 L0 R0 S₉) → Q (.inl (some (.inl v))) S₉) : ma_wp X d w 131 0 [(0, .inr (.inr (some 64))), (1, .inr (.inr (some 17)))] [] S Q := by
  refine g_131_64_17_sq_0  (by omega) (by omega) (zG_T hI) ?_
  have q1 : (mI S 64 3).toInt = (f 64 3).toInt := zG_zi hI rfl
  have f2 := zG_s hI (0) (100) (c := 64) (k := 3) (by decide)
  have q3 : (mI S 64 2).toInt = (f 64 2).toInt := zG_zi hI rfl
  have f4 := zG_s hI (0) (100) (c := 64) (k := 2) (by decide)
  first | have e5 : ((mI S 64 3) - (mI S 64 2)).toInt = (mI S 64 3).toInt - (mI S 64 2).toInt := i_sub (by omega) (by omega) | have b6 := i_bd ((mI S 64 3) - (mI S 64 2))
  have li7 : (7 : Int32).toInt = 7 := rfl
  refine zd (fun h8 => ?_) (fun h8 => ?_)
  · skip
    have g9 := i_eq h8
    have li10 : (100 : Int32).toInt = 100 := rfl
    first | have e11 : ((mI S 64 2) + (0 : Int32)).toInt = (mI S 64 2).toInt + (0) := i_addk rfl (by omega) (by omega) | have b12 := i_bd ((mI S 64 2) + (0 : Int32))
    refine zd (fun h13 => ?_) (fun h13 => ?_)
    · skip
      have g14 := i_le h13
      have li15 : (1 : Int32).toInt = 1 := rfl
      exact K ((1 : Int32)) _ hI (by decide) (show ((1 : Int32) = 1 ∧ zwd (f 65) (f 64 2) ((f 64 3).toInt - (f 64 2).toInt) 112 105 99 116 117 114 101) ∨ ((1 : Int32) = 0 ∧ ¬ zwd (f 65) (f 64 2) ((f 64 3).toInt - (f 64 2).toInt) 112 105 99 116 117 114 101) from by first | (omega) | (rw [show f 65 = mI S 65 from funext (fun k => (zG_z hI rfl).symm), show f 64 2 = mI S 64 2 from (zG_z hI rfl).symm, show f 64 3 = mI S 64 3 from (zG_z hI rfl).symm]; exact Or.inl ⟨rfl, by rw [if_neg (by decide), if_neg (by decide), if_neg (by decide)]; omega, (by assumption), (by assumption), (by assumption), (by assumption), Or.inr (by assumption), Or.inr (Or.inr (by assumption)), Or.inr (Or.inr (Or.inr (by assumption)))⟩) | (exfalso; omega)) (show zFm I0 L0 R0 S from by first | (exact hpre0))
    · skip
      have g16 := i_nle h13
      refine ⟨i_ix (by omega) (by omega), ?_⟩
      have q17 : (mI S 65 ((mI S 64 2) + (0 : Int32)).toNatClampNeg).toInt = (f 65 ((mI S 64 2) + (0 : Int32)).toNatClampNeg).toInt := zG_zi hI rfl
      have b18 := i_bd (mI S 65 ((mI S 64 2) + (0 : Int32)).toNatClampNeg)
      have li19 : (112 : Int32).toInt = 112 := rfl
      refine zd (fun h20 => ?_) (fun h20 => ?_)
      · skip
        have g21 := i_eq h20
        first | have e22 : ((mI S 64 2) + (1 : Int32)).toInt = (mI S 64 2).toInt + (1) := i_addk rfl (by omega) (by omega) | have b23 := i_bd ((mI S 64 2) + (1 : Int32))
        refine zd (fun h24 => ?_) (fun h24 => ?_)
        · skip
          have g25 := i_le h24
          have li26 : (1 : Int32).toInt = 1 := rfl
          exact K ((1 : Int32)) _ hI (by decide) (show ((1 : Int32) = 1 ∧ zwd (f 65) (f 64 2) ((f 64 3).toInt - (f 64 2).toInt) 112 105 99 116 117 114 101) ∨ ((1 : Int32) = 0 ∧ ¬ zwd (f 65) (f 64 2) ((f 64 3).toInt - (f 64 2).toInt) 112 105 99 116 117 114 101) from by first | (omega) | (rw [show f 65 = mI S 65 from funext (fun k => (zG_z hI rfl).symm), show f 64 2 = mI S 64 2 from (zG_z hI rfl).symm, show f 64 3 = mI S 64 3 from (zG_z hI rfl).symm]; exact Or.inl ⟨rfl, by rw [if_neg (by decide), if_neg (by decide), if_neg (by decide)]; omega, (by assumption), (by assumption), (by assumption), (by assumption), Or.inr (by assumption), Or.inr (Or.inr (by assumption)), Or.inr (Or.inr (Or.inr (by assumption)))⟩) | (exfalso; omega)) (show zFm I0 L0 R0 S from by first | (exact hpre0))
        · skip
          have g27 := i_nle h24
          refine ⟨i_ix (by omega) (by omega), ?_⟩
          have q28 : (mI S 65 ((mI S 64 2) + (1 : Int32)).toNatClampNeg).toInt = (f 65 ((mI S 64 2) + (1 : Int32)).toNatClampNeg).toInt := zG_zi hI rfl
          have b29 := i_bd (mI S 65 ((mI S 64 2) + (1 : Int32)).toNatClampNeg)
          have li30 : (105 : Int32).toInt = 105 := rfl
          refine zd (fun h31 => ?_) (fun h31 => ?_)
          · skip
            have g32 := i_eq h31
            first | have e33 : ((mI S 64 2) + (2 : Int32)).toInt = (mI S 64 2).toInt + (2) := i_addk rfl (by omega) (by omega) | have b34 := i_bd ((mI S 64 2) + (2 : Int32))
            refine zd (fun h35 => ?_) (fun h35 => ?_)
            · skip
              have g36 := i_le h35
              have li37 : (1 : Int32).toInt = 1 := rfl
              exact K ((1 : Int32)) _ hI (by decide) (show ((1 : Int32) = 1 ∧ zwd (f 65) (f 64 2) ((f 64 3).toInt - (f 64 2).toInt) 112 105 99 116 117 114 101) ∨ ((1 : Int32) = 0 ∧ ¬ zwd (f 65) (f 64 2) ((f 64 3).toInt - (f 64 2).toInt) 112 105 99 116 117 114 101) from by first | (omega) | (rw [show f 65 = mI S 65 from funext (fun k => (zG_z hI rfl).symm), show f 64 2 = mI S 64 2 from (zG_z hI rfl).symm, show f 64 3 = mI S 64 3 from (zG_z hI rfl).symm]; exact Or.inl ⟨rfl, by rw [if_neg (by decide), if_neg (by decide), if_neg (by decide)]; omega, (by assumption), (by assumption), (by assumption), (by assumption), Or.inr (by assumption), Or.inr (Or.inr (by assumption)), Or.inr (Or.inr (Or.inr (by assumption)))⟩) | (exfalso; omega)) (show zFm I0 L0 R0 S from by first | (exact hpre0))
            · skip
              have g38 := i_nle h35
              refine ⟨i_ix (by omega) (by omega), ?_⟩
              have q39 : (mI S 65 ((mI S 64 2) + (2 : Int32)).toNatClampNeg).toInt = (f 65 ((mI S 64 2) + (2 : Int32)).toNatClampNeg).toInt := zG_zi hI rfl
              have b40 := i_bd (mI S 65 ((mI S 64 2) + (2 : Int32)).toNatClampNeg)
              have li41 : (99 : Int32).toInt = 99 := rfl
              refine zd (fun h42 => ?_) (fun h42 => ?_)
              · skip
                have g43 := i_eq h42
                first | have e44 : ((mI S 64 2) + (3 : Int32)).toInt = (mI S 64 2).toInt + (3) := i_addk rfl (by omega) (by omega) | have b45 := i_bd ((mI S 64 2) + (3 : Int32))
                refine zd (fun h46 => ?_) (fun h46 => ?_)
                · skip
                  have g47 := i_le h46
                  have li48 : (1 : Int32).toInt = 1 := rfl
                  exact K ((1 : Int32)) _ hI (by decide) (show ((1 : Int32) = 1 ∧ zwd (f 65) (f 64 2) ((f 64 3).toInt - (f 64 2).toInt) 112 105 99 116 117 114 101) ∨ ((1 : Int32) = 0 ∧ ¬ zwd (f 65) (f 64 2) ((f 64 3).toInt - (f 64 2).toInt) 112 105 99 116 117 114 101) from by first | (omega) | (rw [show f 65 = mI S 65 from funext (fun k => (zG_z hI rfl).symm), show f 64 2 = mI S 64 2 from (zG_z hI rfl).symm, show f 64 3 = mI S 64 3 from (zG_z hI rfl).symm]; exact Or.inl ⟨rfl, by rw [if_neg (by decide), if_neg (by decide), if_neg (by decide)]; omega, (by assumption), (by assumption), (by assumption), (by assumption), Or.inr (by assumption), Or.inr (Or.inr (by assumption)), Or.inr (Or.inr (Or.inr (by assumption)))⟩) | (exfalso; omega)) (show zFm I0 L0 R0 S from by first | (exact hpre0))
                · skip
                  have g49 := i_nle h46
                  refine ⟨i_ix (by omega) (by omega), ?_⟩
                  have q50 : (mI S 65 ((mI S 64 2) + (3 : Int32)).toNatClampNeg).toInt = (f 65 ((mI S 64 2) + (3 : Int32)).toNatClampNeg).toInt := zG_zi hI rfl
                  have b51 := i_bd (mI S 65 ((mI S 64 2) + (3 : Int32)).toNatClampNeg)
                  have li52 : (116 : Int32).toInt = 116 := rfl
                  refine zd (fun h53 => ?_) (fun h53 => ?_)
                  · skip
                    have g54 := i_eq h53
                    first | have e55 : ((mI S 64 2) + (4 : Int32)).toInt = (mI S 64 2).toInt + (4) := i_addk rfl (by omega) (by omega) | have b56 := i_bd ((mI S 64 2) + (4 : Int32))
                    refine zd (fun h57 => ?_) (fun h57 => ?_)
                    · skip
                      have g58 := i_le h57
                      have li59 : (1 : Int32).toInt = 1 := rfl
                      exact K ((1 : Int32)) _ hI (by decide) (show ((1 : Int32) = 1 ∧ zwd (f 65) (f 64 2) ((f 64 3).toInt - (f 64 2).toInt) 112 105 99 116 117 114 101) ∨ ((1 : Int32) = 0 ∧ ¬ zwd (f 65) (f 64 2) ((f 64 3).toInt - (f 64 2).toInt) 112 105 99 116 117 114 101) from by first | (omega) | (rw [show f 65 = mI S 65 from funext (fun k => (zG_z hI rfl).symm), show f 64 2 = mI S 64 2 from (zG_z hI rfl).symm, show f 64 3 = mI S 64 3 from (zG_z hI rfl).symm]; exact Or.inl ⟨rfl, by rw [if_neg (by decide), if_neg (by decide), if_neg (by decide)]; omega, (by assumption), (by assumption), (by assumption), (by assumption), Or.inr (by assumption), Or.inr (Or.inr (by assumption)), Or.inr (Or.inr (Or.inr (by assumption)))⟩) | (exfalso; omega)) (show zFm I0 L0 R0 S from by first | (exact hpre0))
                    · skip
                      have g60 := i_nle h57
                      refine ⟨i_ix (by omega) (by omega), ?_⟩
                      have q61 : (mI S 65 ((mI S 64 2) + (4 : Int32)).toNatClampNeg).toInt = (f 65 ((mI S 64 2) + (4 : Int32)).toNatClampNeg).toInt := zG_zi hI rfl
                      have b62 := i_bd (mI S 65 ((mI S 64 2) + (4 : Int32)).toNatClampNeg)
                      have li63 : (117 : Int32).toInt = 117 := rfl
                      refine zd (fun h64 => ?_) (fun h64 => ?_)
                      · skip
                        have g65 := i_eq h64
                        first | have e66 : ((mI S 64 2) + (5 : Int32)).toInt = (mI S 64 2).toInt + (5) := i_addk rfl (by omega) (by omega) | have b67 := i_bd ((mI S 64 2) + (5 : Int32))
                        refine zd (fun h68 => ?_) (fun h68 => ?_)
                        · skip
                          have g69 := i_le h68
                          have li70 : (1 : Int32).toInt = 1 := rfl
                          exact K ((1 : Int32)) _ hI (by decide) (show ((1 : Int32) = 1 ∧ zwd (f 65) (f 64 2) ((f 64 3).toInt - (f 64 2).toInt) 112 105 99 116 117 114 101) ∨ ((1 : Int32) = 0 ∧ ¬ zwd (f 65) (f 64 2) ((f 64 3).toInt - (f 64 2).toInt) 112 105 99 116 117 114 101) from by first | (omega) | (rw [show f 65 = mI S 65 from funext (fun k => (zG_z hI rfl).symm), show f 64 2 = mI S 64 2 from (zG_z hI rfl).symm, show f 64 3 = mI S 64 3 from (zG_z hI rfl).symm]; exact Or.inl ⟨rfl, by rw [if_neg (by decide), if_neg (by decide), if_neg (by decide)]; omega, (by assumption), (by assumption), (by assumption), (by assumption), Or.inr (by assumption), Or.inr (Or.inr (by assumption)), Or.inr (Or.inr (Or.inr (by assumption)))⟩) | (exfalso; omega)) (show zFm I0 L0 R0 S from by first | (exact hpre0))
                        · skip
                          have g71 := i_nle h68
                          refine ⟨i_ix (by omega) (by omega), ?_⟩
                          have q72 : (mI S 65 ((mI S 64 2) + (5 : Int32)).toNatClampNeg).toInt = (f 65 ((mI S 64 2) + (5 : Int32)).toNatClampNeg).toInt := zG_zi hI rfl
                          have b73 := i_bd (mI S 65 ((mI S 64 2) + (5 : Int32)).toNatClampNeg)
                          have li74 : (114 : Int32).toInt = 114 := rfl
                          refine zd (fun h75 => ?_) (fun h75 => ?_)
                          · skip
                            have g76 := i_eq h75
                            first | have e77 : ((mI S 64 2) + (6 : Int32)).toInt = (mI S 64 2).toInt + (6) := i_addk rfl (by omega) (by omega) | have b78 := i_bd ((mI S 64 2) + (6 : Int32))
                            refine zd (fun h79 => ?_) (fun h79 => ?_)
                            · skip
                              have g80 := i_le h79
                              have li81 : (1 : Int32).toInt = 1 := rfl
                              exact K ((1 : Int32)) _ hI (by decide) (show ((1 : Int32) = 1 ∧ zwd (f 65) (f 64 2) ((f 64 3).toInt - (f 64 2).toInt) 112 105 99 116 117 114 101) ∨ ((1 : Int32) = 0 ∧ ¬ zwd (f 65) (f 64 2) ((f 64 3).toInt - (f 64 2).toInt) 112 105 99 116 117 114 101) from by first | (omega) | (rw [show f 65 = mI S 65 from funext (fun k => (zG_z hI rfl).symm), show f 64 2 = mI S 64 2 from (zG_z hI rfl).symm, show f 64 3 = mI S 64 3 from (zG_z hI rfl).symm]; exact Or.inl ⟨rfl, by rw [if_neg (by decide), if_neg (by decide), if_neg (by decide)]; omega, (by assumption), (by assumption), (by assumption), (by assumption), Or.inr (by assumption), Or.inr (Or.inr (by assumption)), Or.inr (Or.inr (Or.inr (by assumption)))⟩) | (exfalso; omega)) (show zFm I0 L0 R0 S from by first | (exact hpre0))
                            · skip
                              have g82 := i_nle h79
                              refine ⟨i_ix (by omega) (by omega), ?_⟩
                              have q83 : (mI S 65 ((mI S 64 2) + (6 : Int32)).toNatClampNeg).toInt = (f 65 ((mI S 64 2) + (6 : Int32)).toNatClampNeg).toInt := zG_zi hI rfl
                              have b84 := i_bd (mI S 65 ((mI S 64 2) + (6 : Int32)).toNatClampNeg)
                              have li85 : (101 : Int32).toInt = 101 := rfl
                              refine zd (fun h86 => ?_) (fun h86 => ?_)
                              · skip
                                have g87 := i_eq h86
                                have li88 : (1 : Int32).toInt = 1 := rfl
                                exact K ((1 : Int32)) _ hI (by decide) (show ((1 : Int32) = 1 ∧ zwd (f 65) (f 64 2) ((f 64 3).toInt - (f 64 2).toInt) 112 105 99 116 117 114 101) ∨ ((1 : Int32) = 0 ∧ ¬ zwd (f 65) (f 64 2) ((f 64 3).toInt - (f 64 2).toInt) 112 105 99 116 117 114 101) from by first | (rw [show f 65 = mI S 65 from funext (fun k => (zG_z hI rfl).symm), show f 64 2 = mI S 64 2 from (zG_z hI rfl).symm, show f 64 3 = mI S 64 3 from (zG_z hI rfl).symm]; exact Or.inl ⟨rfl, by rw [if_neg (by decide), if_neg (by decide), if_neg (by decide)]; omega, (by assumption), (by assumption), (by assumption), (by assumption), Or.inr (by assumption), Or.inr (Or.inr (by assumption)), Or.inr (Or.inr (Or.inr (by assumption)))⟩) | (omega) | (exfalso; omega)) (show zFm I0 L0 R0 S from by first | (exact hpre0))
                              · skip
                                have g89 := i_ne h86
                                have li90 : (0 : Int32).toInt = 0 := rfl
                                exact K ((0 : Int32)) _ hI (by decide) (show ((0 : Int32) = 1 ∧ zwd (f 65) (f 64 2) ((f 64 3).toInt - (f 64 2).toInt) 112 105 99 116 117 114 101) ∨ ((0 : Int32) = 0 ∧ ¬ zwd (f 65) (f 64 2) ((f 64 3).toInt - (f 64 2).toInt) 112 105 99 116 117 114 101) from by first | (rw [show f 65 = mI S 65 from funext (fun k => (zG_z hI rfl).symm), show f 64 2 = mI S 64 2 from (zG_z hI rfl).symm, show f 64 3 = mI S 64 3 from (zG_z hI rfl).symm]; exact Or.inr ⟨rfl, fun z => absurd (z.2.2.2.2.2.2.2.elim (fun y => absurd y (by decide)) (fun y => y.elim (fun y => absurd y (by decide)) (fun y => y.elim (fun y => absurd y (by decide)) id))) (by assumption)⟩) | (rw [show f 65 = mI S 65 from funext (fun k => (zG_z hI rfl).symm), show f 64 2 = mI S 64 2 from (zG_z hI rfl).symm, show f 64 3 = mI S 64 3 from (zG_z hI rfl).symm]; exact Or.inr ⟨rfl, fun z => absurd z.2.1 (by assumption)⟩) | (rw [show f 65 = mI S 65 from funext (fun k => (zG_z hI rfl).symm), show f 64 2 = mI S 64 2 from (zG_z hI rfl).symm, show f 64 3 = mI S 64 3 from (zG_z hI rfl).symm]; exact Or.inr ⟨rfl, fun z => absurd z.2.2.1 (by assumption)⟩) | (rw [show f 65 = mI S 65 from funext (fun k => (zG_z hI rfl).symm), show f 64 2 = mI S 64 2 from (zG_z hI rfl).symm, show f 64 3 = mI S 64 3 from (zG_z hI rfl).symm]; exact Or.inr ⟨rfl, fun z => absurd z.2.2.2.1 (by assumption)⟩) | (rw [show f 65 = mI S 65 from funext (fun k => (zG_z hI rfl).symm), show f 64 2 = mI S 64 2 from (zG_z hI rfl).symm, show f 64 3 = mI S 64 3 from (zG_z hI rfl).symm]; exact Or.inr ⟨rfl, fun z => absurd z.2.2.2.2.1 (by assumption)⟩) | (rw [show f 65 = mI S 65 from funext (fun k => (zG_z hI rfl).symm), show f 64 2 = mI S 64 2 from (zG_z hI rfl).symm, show f 64 3 = mI S 64 3 from (zG_z hI rfl).symm]; exact Or.inr ⟨rfl, fun z => absurd (z.2.2.2.2.2.1.elim (fun y => absurd y (by decide)) id) (by assumption)⟩) | (rw [show f 65 = mI S 65 from funext (fun k => (zG_z hI rfl).symm), show f 64 2 = mI S 64 2 from (zG_z hI rfl).symm, show f 64 3 = mI S 64 3 from (zG_z hI rfl).symm]; exact Or.inr ⟨rfl, fun z => absurd (z.2.2.2.2.2.2.1.elim (fun y => absurd y (by decide)) (fun y => y.elim (fun y => absurd y (by decide)) id)) (by assumption)⟩) | (rw [show f 65 = mI S 65 from funext (fun k => (zG_z hI rfl).symm), show f 64 2 = mI S 64 2 from (zG_z hI rfl).symm, show f 64 3 = mI S 64 3 from (zG_z hI rfl).symm]; exact Or.inr ⟨rfl, fun z => by have y := z.1; rw [if_neg (by decide), if_neg (by decide), if_neg (by decide)] at y; omega⟩) | (omega) | (exfalso; omega)) (show zFm I0 L0 R0 S from by first | (exact hpre0))
                          · skip
                            have g91 := i_ne h75
                            have li92 : (0 : Int32).toInt = 0 := rfl
                            exact K ((0 : Int32)) _ hI (by decide) (show ((0 : Int32) = 1 ∧ zwd (f 65) (f 64 2) ((f 64 3).toInt - (f 64 2).toInt) 112 105 99 116 117 114 101) ∨ ((0 : Int32) = 0 ∧ ¬ zwd (f 65) (f 64 2) ((f 64 3).toInt - (f 64 2).toInt) 112 105 99 116 117 114 101) from by first | (rw [show f 65 = mI S 65 from funext (fun k => (zG_z hI rfl).symm), show f 64 2 = mI S 64 2 from (zG_z hI rfl).symm, show f 64 3 = mI S 64 3 from (zG_z hI rfl).symm]; exact Or.inr ⟨rfl, fun z => absurd (z.2.2.2.2.2.2.1.elim (fun y => absurd y (by decide)) (fun y => y.elim (fun y => absurd y (by decide)) id)) (by assumption)⟩) | (rw [show f 65 = mI S 65 from funext (fun k => (zG_z hI rfl).symm), show f 64 2 = mI S 64 2 from (zG_z hI rfl).symm, show f 64 3 = mI S 64 3 from (zG_z hI rfl).symm]; exact Or.inr ⟨rfl, fun z => absurd z.2.1 (by assumption)⟩) | (rw [show f 65 = mI S 65 from funext (fun k => (zG_z hI rfl).symm), show f 64 2 = mI S 64 2 from (zG_z hI rfl).symm, show f 64 3 = mI S 64 3 from (zG_z hI rfl).symm]; exact Or.inr ⟨rfl, fun z => absurd z.2.2.1 (by assumption)⟩) | (rw [show f 65 = mI S 65 from funext (fun k => (zG_z hI rfl).symm), show f 64 2 = mI S 64 2 from (zG_z hI rfl).symm, show f 64 3 = mI S 64 3 from (zG_z hI rfl).symm]; exact Or.inr ⟨rfl, fun z => absurd z.2.2.2.1 (by assumption)⟩) | (rw [show f 65 = mI S 65 from funext (fun k => (zG_z hI rfl).symm), show f 64 2 = mI S 64 2 from (zG_z hI rfl).symm, show f 64 3 = mI S 64 3 from (zG_z hI rfl).symm]; exact Or.inr ⟨rfl, fun z => absurd z.2.2.2.2.1 (by assumption)⟩) | (rw [show f 65 = mI S 65 from funext (fun k => (zG_z hI rfl).symm), show f 64 2 = mI S 64 2 from (zG_z hI rfl).symm, show f 64 3 = mI S 64 3 from (zG_z hI rfl).symm]; exact Or.inr ⟨rfl, fun z => absurd (z.2.2.2.2.2.1.elim (fun y => absurd y (by decide)) id) (by assumption)⟩) | (rw [show f 65 = mI S 65 from funext (fun k => (zG_z hI rfl).symm), show f 64 2 = mI S 64 2 from (zG_z hI rfl).symm, show f 64 3 = mI S 64 3 from (zG_z hI rfl).symm]; exact Or.inr ⟨rfl, fun z => absurd (z.2.2.2.2.2.2.2.elim (fun y => absurd y (by decide)) (fun y => y.elim (fun y => absurd y (by decide)) (fun y => y.elim (fun y => absurd y (by decide)) id))) (by assumption)⟩) | (rw [show f 65 = mI S 65 from funext (fun k => (zG_z hI rfl).symm), show f 64 2 = mI S 64 2 from (zG_z hI rfl).symm, show f 64 3 = mI S 64 3 from (zG_z hI rfl).symm]; exact Or.inr ⟨rfl, fun z => by have y := z.1; rw [if_neg (by decide), if_neg (by decide), if_neg (by decide)] at y; omega⟩) | (omega) | (exfalso; omega)) (show zFm I0 L0 R0 S from by first | (exact hpre0))
                      · skip
                        have g93 := i_ne h64
                        have li94 : (0 : Int32).toInt = 0 := rfl
                        exact K ((0 : Int32)) _ hI (by decide) (show ((0 : Int32) = 1 ∧ zwd (f 65) (f 64 2) ((f 64 3).toInt - (f 64 2).toInt) 112 105 99 116 117 114 101) ∨ ((0 : Int32) = 0 ∧ ¬ zwd (f 65) (f 64 2) ((f 64 3).toInt - (f 64 2).toInt) 112 105 99 116 117 114 101) from by first | (rw [show f 65 = mI S 65 from funext (fun k => (zG_z hI rfl).symm), show f 64 2 = mI S 64 2 from (zG_z hI rfl).symm, show f 64 3 = mI S 64 3 from (zG_z hI rfl).symm]; exact Or.inr ⟨rfl, fun z => absurd (z.2.2.2.2.2.1.elim (fun y => absurd y (by decide)) id) (by assumption)⟩) | (rw [show f 65 = mI S 65 from funext (fun k => (zG_z hI rfl).symm), show f 64 2 = mI S 64 2 from (zG_z hI rfl).symm, show f 64 3 = mI S 64 3 from (zG_z hI rfl).symm]; exact Or.inr ⟨rfl, fun z => absurd z.2.1 (by assumption)⟩) | (rw [show f 65 = mI S 65 from funext (fun k => (zG_z hI rfl).symm), show f 64 2 = mI S 64 2 from (zG_z hI rfl).symm, show f 64 3 = mI S 64 3 from (zG_z hI rfl).symm]; exact Or.inr ⟨rfl, fun z => absurd z.2.2.1 (by assumption)⟩) | (rw [show f 65 = mI S 65 from funext (fun k => (zG_z hI rfl).symm), show f 64 2 = mI S 64 2 from (zG_z hI rfl).symm, show f 64 3 = mI S 64 3 from (zG_z hI rfl).symm]; exact Or.inr ⟨rfl, fun z => absurd z.2.2.2.1 (by assumption)⟩) | (rw [show f 65 = mI S 65 from funext (fun k => (zG_z hI rfl).symm), show f 64 2 = mI S 64 2 from (zG_z hI rfl).symm, show f 64 3 = mI S 64 3 from (zG_z hI rfl).symm]; exact Or.inr ⟨rfl, fun z => absurd z.2.2.2.2.1 (by assumption)⟩) | (rw [show f 65 = mI S 65 from funext (fun k => (zG_z hI rfl).symm), show f 64 2 = mI S 64 2 from (zG_z hI rfl).symm, show f 64 3 = mI S 64 3 from (zG_z hI rfl).symm]; exact Or.inr ⟨rfl, fun z => absurd (z.2.2.2.2.2.2.1.elim (fun y => absurd y (by decide)) (fun y => y.elim (fun y => absurd y (by decide)) id)) (by assumption)⟩) | (rw [show f 65 = mI S 65 from funext (fun k => (zG_z hI rfl).symm), show f 64 2 = mI S 64 2 from (zG_z hI rfl).symm, show f 64 3 = mI S 64 3 from (zG_z hI rfl).symm]; exact Or.inr ⟨rfl, fun z => absurd (z.2.2.2.2.2.2.2.elim (fun y => absurd y (by decide)) (fun y => y.elim (fun y => absurd y (by decide)) (fun y => y.elim (fun y => absurd y (by decide)) id))) (by assumption)⟩) | (rw [show f 65 = mI S 65 from funext (fun k => (zG_z hI rfl).symm), show f 64 2 = mI S 64 2 from (zG_z hI rfl).symm, show f 64 3 = mI S 64 3 from (zG_z hI rfl).symm]; exact Or.inr ⟨rfl, fun z => by have y := z.1; rw [if_neg (by decide), if_neg (by decide), if_neg (by decide)] at y; omega⟩) | (omega) | (exfalso; omega)) (show zFm I0 L0 R0 S from by first | (exact hpre0))
                  · skip
                    have g95 := i_ne h53
                    have li96 : (0 : Int32).toInt = 0 := rfl
                    exact K ((0 : Int32)) _ hI (by decide) (show ((0 : Int32) = 1 ∧ zwd (f 65) (f 64 2) ((f 64 3).toInt - (f 64 2).toInt) 112 105 99 116 117 114 101) ∨ ((0 : Int32) = 0 ∧ ¬ zwd (f 65) (f 64 2) ((f 64 3).toInt - (f 64 2).toInt) 112 105 99 116 117 114 101) from by first | (rw [show f 65 = mI S 65 from funext (fun k => (zG_z hI rfl).symm), show f 64 2 = mI S 64 2 from (zG_z hI rfl).symm, show f 64 3 = mI S 64 3 from (zG_z hI rfl).symm]; exact Or.inr ⟨rfl, fun z => absurd z.2.2.2.2.1 (by assumption)⟩) | (rw [show f 65 = mI S 65 from funext (fun k => (zG_z hI rfl).symm), show f 64 2 = mI S 64 2 from (zG_z hI rfl).symm, show f 64 3 = mI S 64 3 from (zG_z hI rfl).symm]; exact Or.inr ⟨rfl, fun z => absurd z.2.1 (by assumption)⟩) | (rw [show f 65 = mI S 65 from funext (fun k => (zG_z hI rfl).symm), show f 64 2 = mI S 64 2 from (zG_z hI rfl).symm, show f 64 3 = mI S 64 3 from (zG_z hI rfl).symm]; exact Or.inr ⟨rfl, fun z => absurd z.2.2.1 (by assumption)⟩) | (rw [show f 65 = mI S 65 from funext (fun k => (zG_z hI rfl).symm), show f 64 2 = mI S 64 2 from (zG_z hI rfl).symm, show f 64 3 = mI S 64 3 from (zG_z hI rfl).symm]; exact Or.inr ⟨rfl, fun z => absurd z.2.2.2.1 (by assumption)⟩) | (rw [show f 65 = mI S 65 from funext (fun k => (zG_z hI rfl).symm), show f 64 2 = mI S 64 2 from (zG_z hI rfl).symm, show f 64 3 = mI S 64 3 from (zG_z hI rfl).symm]; exact Or.inr ⟨rfl, fun z => absurd (z.2.2.2.2.2.1.elim (fun y => absurd y (by decide)) id) (by assumption)⟩) | (rw [show f 65 = mI S 65 from funext (fun k => (zG_z hI rfl).symm), show f 64 2 = mI S 64 2 from (zG_z hI rfl).symm, show f 64 3 = mI S 64 3 from (zG_z hI rfl).symm]; exact Or.inr ⟨rfl, fun z => absurd (z.2.2.2.2.2.2.1.elim (fun y => absurd y (by decide)) (fun y => y.elim (fun y => absurd y (by decide)) id)) (by assumption)⟩) | (rw [show f 65 = mI S 65 from funext (fun k => (zG_z hI rfl).symm), show f 64 2 = mI S 64 2 from (zG_z hI rfl).symm, show f 64 3 = mI S 64 3 from (zG_z hI rfl).symm]; exact Or.inr ⟨rfl, fun z => absurd (z.2.2.2.2.2.2.2.elim (fun y => absurd y (by decide)) (fun y => y.elim (fun y => absurd y (by decide)) (fun y => y.elim (fun y => absurd y (by decide)) id))) (by assumption)⟩) | (rw [show f 65 = mI S 65 from funext (fun k => (zG_z hI rfl).symm), show f 64 2 = mI S 64 2 from (zG_z hI rfl).symm, show f 64 3 = mI S 64 3 from (zG_z hI rfl).symm]; exact Or.inr ⟨rfl, fun z => by have y := z.1; rw [if_neg (by decide), if_neg (by decide), if_neg (by decide)] at y; omega⟩) | (omega) | (exfalso; omega)) (show zFm I0 L0 R0 S from by first | (exact hpre0))
              · skip
                have g97 := i_ne h42
                have li98 : (0 : Int32).toInt = 0 := rfl
                exact K ((0 : Int32)) _ hI (by decide) (show ((0 : Int32) = 1 ∧ zwd (f 65) (f 64 2) ((f 64 3).toInt - (f 64 2).toInt) 112 105 99 116 117 114 101) ∨ ((0 : Int32) = 0 ∧ ¬ zwd (f 65) (f 64 2) ((f 64 3).toInt - (f 64 2).toInt) 112 105 99 116 117 114 101) from by first | (rw [show f 65 = mI S 65 from funext (fun k => (zG_z hI rfl).symm), show f 64 2 = mI S 64 2 from (zG_z hI rfl).symm, show f 64 3 = mI S 64 3 from (zG_z hI rfl).symm]; exact Or.inr ⟨rfl, fun z => absurd z.2.2.2.1 (by assumption)⟩) | (rw [show f 65 = mI S 65 from funext (fun k => (zG_z hI rfl).symm), show f 64 2 = mI S 64 2 from (zG_z hI rfl).symm, show f 64 3 = mI S 64 3 from (zG_z hI rfl).symm]; exact Or.inr ⟨rfl, fun z => absurd z.2.1 (by assumption)⟩) | (rw [show f 65 = mI S 65 from funext (fun k => (zG_z hI rfl).symm), show f 64 2 = mI S 64 2 from (zG_z hI rfl).symm, show f 64 3 = mI S 64 3 from (zG_z hI rfl).symm]; exact Or.inr ⟨rfl, fun z => absurd z.2.2.1 (by assumption)⟩) | (rw [show f 65 = mI S 65 from funext (fun k => (zG_z hI rfl).symm), show f 64 2 = mI S 64 2 from (zG_z hI rfl).symm, show f 64 3 = mI S 64 3 from (zG_z hI rfl).symm]; exact Or.inr ⟨rfl, fun z => absurd z.2.2.2.2.1 (by assumption)⟩) | (rw [show f 65 = mI S 65 from funext (fun k => (zG_z hI rfl).symm), show f 64 2 = mI S 64 2 from (zG_z hI rfl).symm, show f 64 3 = mI S 64 3 from (zG_z hI rfl).symm]; exact Or.inr ⟨rfl, fun z => absurd (z.2.2.2.2.2.1.elim (fun y => absurd y (by decide)) id) (by assumption)⟩) | (rw [show f 65 = mI S 65 from funext (fun k => (zG_z hI rfl).symm), show f 64 2 = mI S 64 2 from (zG_z hI rfl).symm, show f 64 3 = mI S 64 3 from (zG_z hI rfl).symm]; exact Or.inr ⟨rfl, fun z => absurd (z.2.2.2.2.2.2.1.elim (fun y => absurd y (by decide)) (fun y => y.elim (fun y => absurd y (by decide)) id)) (by assumption)⟩) | (rw [show f 65 = mI S 65 from funext (fun k => (zG_z hI rfl).symm), show f 64 2 = mI S 64 2 from (zG_z hI rfl).symm, show f 64 3 = mI S 64 3 from (zG_z hI rfl).symm]; exact Or.inr ⟨rfl, fun z => absurd (z.2.2.2.2.2.2.2.elim (fun y => absurd y (by decide)) (fun y => y.elim (fun y => absurd y (by decide)) (fun y => y.elim (fun y => absurd y (by decide)) id))) (by assumption)⟩) | (rw [show f 65 = mI S 65 from funext (fun k => (zG_z hI rfl).symm), show f 64 2 = mI S 64 2 from (zG_z hI rfl).symm, show f 64 3 = mI S 64 3 from (zG_z hI rfl).symm]; exact Or.inr ⟨rfl, fun z => by have y := z.1; rw [if_neg (by decide), if_neg (by decide), if_neg (by decide)] at y; omega⟩) | (omega) | (exfalso; omega)) (show zFm I0 L0 R0 S from by first | (exact hpre0))
          · skip
            have g99 := i_ne h31
            have li100 : (0 : Int32).toInt = 0 := rfl
            exact K ((0 : Int32)) _ hI (by decide) (show ((0 : Int32) = 1 ∧ zwd (f 65) (f 64 2) ((f 64 3).toInt - (f 64 2).toInt) 112 105 99 116 117 114 101) ∨ ((0 : Int32) = 0 ∧ ¬ zwd (f 65) (f 64 2) ((f 64 3).toInt - (f 64 2).toInt) 112 105 99 116 117 114 101) from by first | (rw [show f 65 = mI S 65 from funext (fun k => (zG_z hI rfl).symm), show f 64 2 = mI S 64 2 from (zG_z hI rfl).symm, show f 64 3 = mI S 64 3 from (zG_z hI rfl).symm]; exact Or.inr ⟨rfl, fun z => absurd z.2.2.1 (by assumption)⟩) | (rw [show f 65 = mI S 65 from funext (fun k => (zG_z hI rfl).symm), show f 64 2 = mI S 64 2 from (zG_z hI rfl).symm, show f 64 3 = mI S 64 3 from (zG_z hI rfl).symm]; exact Or.inr ⟨rfl, fun z => absurd z.2.1 (by assumption)⟩) | (rw [show f 65 = mI S 65 from funext (fun k => (zG_z hI rfl).symm), show f 64 2 = mI S 64 2 from (zG_z hI rfl).symm, show f 64 3 = mI S 64 3 from (zG_z hI rfl).symm]; exact Or.inr ⟨rfl, fun z => absurd z.2.2.2.1 (by assumption)⟩) | (rw [show f 65 = mI S 65 from funext (fun k => (zG_z hI rfl).symm), show f 64 2 = mI S 64 2 from (zG_z hI rfl).symm, show f 64 3 = mI S 64 3 from (zG_z hI rfl).symm]; exact Or.inr ⟨rfl, fun z => absurd z.2.2.2.2.1 (by assumption)⟩) | (rw [show f 65 = mI S 65 from funext (fun k => (zG_z hI rfl).symm), show f 64 2 = mI S 64 2 from (zG_z hI rfl).symm, show f 64 3 = mI S 64 3 from (zG_z hI rfl).symm]; exact Or.inr ⟨rfl, fun z => absurd (z.2.2.2.2.2.1.elim (fun y => absurd y (by decide)) id) (by assumption)⟩) | (rw [show f 65 = mI S 65 from funext (fun k => (zG_z hI rfl).symm), show f 64 2 = mI S 64 2 from (zG_z hI rfl).symm, show f 64 3 = mI S 64 3 from (zG_z hI rfl).symm]; exact Or.inr ⟨rfl, fun z => absurd (z.2.2.2.2.2.2.1.elim (fun y => absurd y (by decide)) (fun y => y.elim (fun y => absurd y (by decide)) id)) (by assumption)⟩) | (rw [show f 65 = mI S 65 from funext (fun k => (zG_z hI rfl).symm), show f 64 2 = mI S 64 2 from (zG_z hI rfl).symm, show f 64 3 = mI S 64 3 from (zG_z hI rfl).symm]; exact Or.inr ⟨rfl, fun z => absurd (z.2.2.2.2.2.2.2.elim (fun y => absurd y (by decide)) (fun y => y.elim (fun y => absurd y (by decide)) (fun y => y.elim (fun y => absurd y (by decide)) id))) (by assumption)⟩) | (rw [show f 65 = mI S 65 from funext (fun k => (zG_z hI rfl).symm), show f 64 2 = mI S 64 2 from (zG_z hI rfl).symm, show f 64 3 = mI S 64 3 from (zG_z hI rfl).symm]; exact Or.inr ⟨rfl, fun z => by have y := z.1; rw [if_neg (by decide), if_neg (by decide), if_neg (by decide)] at y; omega⟩) | (omega) | (exfalso; omega)) (show zFm I0 L0 R0 S from by first | (exact hpre0))
      · skip
        have g101 := i_ne h20
        have li102 : (0 : Int32).toInt = 0 := rfl
        exact K ((0 : Int32)) _ hI (by decide) (show ((0 : Int32) = 1 ∧ zwd (f 65) (f 64 2) ((f 64 3).toInt - (f 64 2).toInt) 112 105 99 116 117 114 101) ∨ ((0 : Int32) = 0 ∧ ¬ zwd (f 65) (f 64 2) ((f 64 3).toInt - (f 64 2).toInt) 112 105 99 116 117 114 101) from by first | (rw [show f 65 = mI S 65 from funext (fun k => (zG_z hI rfl).symm), show f 64 2 = mI S 64 2 from (zG_z hI rfl).symm, show f 64 3 = mI S 64 3 from (zG_z hI rfl).symm]; exact Or.inr ⟨rfl, fun z => absurd z.2.1 (by assumption)⟩) | (rw [show f 65 = mI S 65 from funext (fun k => (zG_z hI rfl).symm), show f 64 2 = mI S 64 2 from (zG_z hI rfl).symm, show f 64 3 = mI S 64 3 from (zG_z hI rfl).symm]; exact Or.inr ⟨rfl, fun z => absurd z.2.2.1 (by assumption)⟩) | (rw [show f 65 = mI S 65 from funext (fun k => (zG_z hI rfl).symm), show f 64 2 = mI S 64 2 from (zG_z hI rfl).symm, show f 64 3 = mI S 64 3 from (zG_z hI rfl).symm]; exact Or.inr ⟨rfl, fun z => absurd z.2.2.2.1 (by assumption)⟩) | (rw [show f 65 = mI S 65 from funext (fun k => (zG_z hI rfl).symm), show f 64 2 = mI S 64 2 from (zG_z hI rfl).symm, show f 64 3 = mI S 64 3 from (zG_z hI rfl).symm]; exact Or.inr ⟨rfl, fun z => absurd z.2.2.2.2.1 (by assumption)⟩) | (rw [show f 65 = mI S 65 from funext (fun k => (zG_z hI rfl).symm), show f 64 2 = mI S 64 2 from (zG_z hI rfl).symm, show f 64 3 = mI S 64 3 from (zG_z hI rfl).symm]; exact Or.inr ⟨rfl, fun z => absurd (z.2.2.2.2.2.1.elim (fun y => absurd y (by decide)) id) (by assumption)⟩) | (rw [show f 65 = mI S 65 from funext (fun k => (zG_z hI rfl).symm), show f 64 2 = mI S 64 2 from (zG_z hI rfl).symm, show f 64 3 = mI S 64 3 from (zG_z hI rfl).symm]; exact Or.inr ⟨rfl, fun z => absurd (z.2.2.2.2.2.2.1.elim (fun y => absurd y (by decide)) (fun y => y.elim (fun y => absurd y (by decide)) id)) (by assumption)⟩) | (rw [show f 65 = mI S 65 from funext (fun k => (zG_z hI rfl).symm), show f 64 2 = mI S 64 2 from (zG_z hI rfl).symm, show f 64 3 = mI S 64 3 from (zG_z hI rfl).symm]; exact Or.inr ⟨rfl, fun z => absurd (z.2.2.2.2.2.2.2.elim (fun y => absurd y (by decide)) (fun y => y.elim (fun y => absurd y (by decide)) (fun y => y.elim (fun y => absurd y (by decide)) id))) (by assumption)⟩) | (rw [show f 65 = mI S 65 from funext (fun k => (zG_z hI rfl).symm), show f 64 2 = mI S 64 2 from (zG_z hI rfl).symm, show f 64 3 = mI S 64 3 from (zG_z hI rfl).symm]; exact Or.inr ⟨rfl, fun z => by have y := z.1; rw [if_neg (by decide), if_neg (by decide), if_neg (by decide)] at y; omega⟩) | (omega) | (exfalso; omega)) (show zFm I0 L0 R0 S from by first | (exact hpre0))
  · skip
    have g103 := i_ne h8
    have li104 : (0 : Int32).toInt = 0 := rfl
    exact K ((0 : Int32)) _ hI (by decide) (show ((0 : Int32) = 1 ∧ zwd (f 65) (f 64 2) ((f 64 3).toInt - (f 64 2).toInt) 112 105 99 116 117 114 101) ∨ ((0 : Int32) = 0 ∧ ¬ zwd (f 65) (f 64 2) ((f 64 3).toInt - (f 64 2).toInt) 112 105 99 116 117 114 101) from by first | (rw [show f 65 = mI S 65 from funext (fun k => (zG_z hI rfl).symm), show f 64 2 = mI S 64 2 from (zG_z hI rfl).symm, show f 64 3 = mI S 64 3 from (zG_z hI rfl).symm]; exact Or.inr ⟨rfl, fun z => by have y := z.1; rw [if_neg (by decide), if_neg (by decide), if_neg (by decide)] at y; omega⟩) | (rw [show f 65 = mI S 65 from funext (fun k => (zG_z hI rfl).symm), show f 64 2 = mI S 64 2 from (zG_z hI rfl).symm, show f 64 3 = mI S 64 3 from (zG_z hI rfl).symm]; exact Or.inr ⟨rfl, fun z => absurd z.2.1 (by assumption)⟩) | (rw [show f 65 = mI S 65 from funext (fun k => (zG_z hI rfl).symm), show f 64 2 = mI S 64 2 from (zG_z hI rfl).symm, show f 64 3 = mI S 64 3 from (zG_z hI rfl).symm]; exact Or.inr ⟨rfl, fun z => absurd z.2.2.1 (by assumption)⟩) | (rw [show f 65 = mI S 65 from funext (fun k => (zG_z hI rfl).symm), show f 64 2 = mI S 64 2 from (zG_z hI rfl).symm, show f 64 3 = mI S 64 3 from (zG_z hI rfl).symm]; exact Or.inr ⟨rfl, fun z => absurd z.2.2.2.1 (by assumption)⟩) | (rw [show f 65 = mI S 65 from funext (fun k => (zG_z hI rfl).symm), show f 64 2 = mI S 64 2 from (zG_z hI rfl).symm, show f 64 3 = mI S 64 3 from (zG_z hI rfl).symm]; exact Or.inr ⟨rfl, fun z => absurd z.2.2.2.2.1 (by assumption)⟩) | (rw [show f 65 = mI S 65 from funext (fun k => (zG_z hI rfl).symm), show f 64 2 = mI S 64 2 from (zG_z hI rfl).symm, show f 64 3 = mI S 64 3 from (zG_z hI rfl).symm]; exact Or.inr ⟨rfl, fun z => absurd (z.2.2.2.2.2.1.elim (fun y => absurd y (by decide)) id) (by assumption)⟩) | (rw [show f 65 = mI S 65 from funext (fun k => (zG_z hI rfl).symm), show f 64 2 = mI S 64 2 from (zG_z hI rfl).symm, show f 64 3 = mI S 64 3 from (zG_z hI rfl).symm]; exact Or.inr ⟨rfl, fun z => absurd (z.2.2.2.2.2.2.1.elim (fun y => absurd y (by decide)) (fun y => y.elim (fun y => absurd y (by decide)) id)) (by assumption)⟩) | (rw [show f 65 = mI S 65 from funext (fun k => (zG_z hI rfl).symm), show f 64 2 = mI S 64 2 from (zG_z hI rfl).symm, show f 64 3 = mI S 64 3 from (zG_z hI rfl).symm]; exact Or.inr ⟨rfl, fun z => absurd (z.2.2.2.2.2.2.2.elim (fun y => absurd y (by decide)) (fun y => y.elim (fun y => absurd y (by decide)) (fun y => y.elim (fun y => absurd y (by decide)) id))) (by assumption)⟩) | (omega) | (exfalso; omega)) (show zFm I0 L0 R0 S from by first | (exact hpre0))

/-! from 95.i23 -/
/-! the class opens a heap (written by wip/tools/gen18c.py) -/
theorem g_131_64_18_sq_0 {X : Nat × (Nat → Int32)} {d w : Nat} {S : ma_S} {Q : Option ma_V ⊕ Nat → ma_S → Prop}  (hd : 5 ≤ d) (hw : 100 ≤ w) (hS : zT S) (h : if ((mI S 64 3) - (mI S 64 2)) = (4 : Int32) then (if (100 : Int32) ≤ ((mI S 64 2) + (0 : Int32)) then (Q (.inl (some (.inl (1 : Int32)))) S) else ((0 ≤ ((mI S 64 2) + (0 : Int32)) ∧ ((mI S 64 2) + (0 : Int32)).toNatClampNeg < 100) ∧ (if (mI S 65 ((mI S 64 2) + (0 : Int32)).toNatClampNeg) = (110 : Int32) then (if (100 : Int32) ≤ ((mI S 64 2) + (1 : Int32)) then (Q (.inl (some (.inl (1 : Int32)))) S) else ((0 ≤ ((mI S 64 2) + (1 : Int32)) ∧ ((mI S 64 2) + (1 : Int32)).toNatClampNeg < 100) ∧ (if (mI S 65 ((mI S 64 2) + (1 : Int32)).toNatClampNeg) = (101 : Int32) then (if (100 : Int32) ≤ ((mI S 64 2) + (2 : Int32)) then (Q (.inl (some (.inl (1 : Int32)))) S) else ((0 ≤ ((mI S 64 2) + (2 : Int32)) ∧ ((mI S 64 2) + (2 : Int32)).toNatClampNeg < 100) ∧ (if (mI S 65 ((mI S 64 2) + (2 : Int32)).toNatClampNeg) = (119 : Int32) then (if (100 : Int32) ≤ ((mI S 64 2) + (3 : Int32)) then (Q (.inl (some (.inl (1 : Int32)))) S) else ((0 ≤ ((mI S 64 2) + (3 : Int32)) ∧ ((mI S 64 2) + (3 : Int32)).toNatClampNeg < 100) ∧ (if (mI S 65 ((mI S 64 2) + (3 : Int32)).toNatClampNeg) = (115 : Int32) then (Q (.inl (some (.inl (1 : Int32)))) S) else (Q (.inl (some (.inl (0 : Int32)))) S)))) else (Q (.inl (some (.inl (0 : Int32)))) S)))) else (Q (.inl (some (.inl (0 : Int32)))) S)))) else (Q (.inl (some (.inl (0 : Int32)))) S)))) else (Q (.inl (some (.inl (0 : Int32)))) S)) : ma_wp X d w 131 0 [(0, .inr (.inr (some 64))), (1, .inr (.inr (some 18)))] [] S Q := by
  refine zw_push hm_131 dX11_tokenIs_0 (v := .inr (.inr (some 64))) rfl ?_
  refine zw_gf hm_131 dX11_tokenIs_1 (v := .inl (mI S 64 3)) (zT_is hS s_64) (zT_t hS s_64) rfl f_11_275_11 rfl ?_
  refine zw_push hm_131 dX11_tokenIs_4 (v := .inr (.inr (some 64))) rfl ?_
  refine zw_gf hm_131 dX11_tokenIs_5 (v := .inl (mI S 64 2)) (zT_is hS s_64) (zT_t hS s_64) rfl f_11_92_11 rfl ?_
  refine zw_stk hm_131 dX11_tokenIs_8 (st₉ := [.inl ((mI S 64 3) - (mI S 64 2))]) rfl rfl ?_
  refine zw_push hm_131 dX11_tokenIs_9 (v := .inr (.inr (some 18))) rfl ?_
  refine zw_cv hm_131 dX11_tokenIs_10 v_11_288_17 hm_277 [] [.inl ((mI S 64 3) - (mI S 64 2))] rfl rfl ⟨by omega, by omega⟩ rfl (tx_len (v := (4 : Int32)) (by decide) (by omega) (by omega) rfl rfl ?_)
  show ma_wp X d w 131 13 [(0, .inr (.inr (some 64))), (1, .inr (.inr (some 18)))] [.inl (4 : Int32), .inl ((mI S 64 3) - (mI S 64 2))] S _
  refine zw_if2 hm_131 dX11_tokenIs_13 (t := 18) rfl zc2_eq ?_ ?_
  · intro hc
    rw [if_pos hc] at h
    refine zw_push hm_131 dX11_tokenIs_18 (v := .inl (0 : Int32)) rfl ?_
    refine zw_sto hm_131 dX11_tokenIs_19 [(2, .inl (0 : Int32)), (0, .inr (.inr (some 64))), (1, .inr (.inr (some 18)))] rfl rfl rfl ?_
    refine zw_push hm_131 dX11_tokenIs_20 (v := .inl (0 : Int32)) rfl ?_
    refine zw_push hm_131 dX11_tokenIs_21 (v := .inr (.inr (some 18))) rfl ?_
    refine zw_cv hm_131 dX11_tokenIs_22 v_11_288_17 hm_277 [] [.inl (0 : Int32)] rfl rfl ⟨by omega, by omega⟩ rfl (tx_len (v := (4 : Int32)) (by decide) (by omega) (by omega) rfl rfl ?_)
    show ma_wp X d w 131 25 [(2, .inl (0 : Int32)), (0, .inr (.inr (some 64))), (1, .inr (.inr (some 18)))] [.inl (4 : Int32), .inl (0 : Int32)] S _
    refine zw_if2 hm_131 dX11_tokenIs_25 (t := 66) rfl zc2_ge (fun hc => absurd hc (by decide)) (fun _ => ?_)
    refine zw_push hm_131 dX11_tokenIs_28 (v := .inr (.inr (some 64))) rfl ?_
    refine zw_gf hm_131 dX11_tokenIs_29 (v := .inl (mI S 64 2)) (zT_is hS s_64) (zT_t hS s_64) rfl f_11_92_11 rfl ?_
    refine zw_push hm_131 dX11_tokenIs_32 (v := .inl (0 : Int32)) rfl ?_
    refine zw_stk hm_131 dX11_tokenIs_33 (st₉ := [.inl ((mI S 64 2) + (0 : Int32))]) rfl rfl ?_
    refine zw_push hm_131 dX11_tokenIs_34 (v := .inl (100 : Int32)) rfl ?_
    refine zw_if2 hm_131 dX11_tokenIs_36 (t := 66) rfl zc2_ge ?_ ?_
    · intro hc
      rw [if_pos hc] at h
      refine zw_push hm_131 dX11_tokenIs_66 (v := .inl (1 : Int32)) rfl ?_
      exact zw_bret hm_131 dX11_tokenIs_67 (by decide) h
    · intro hc
      rw [if_neg hc] at h
      refine zw_push hm_131 dX11_tokenIs_39 (v := .inr (.inr (some 64))) rfl ?_
      refine zw_gf hm_131 dX11_tokenIs_40 (v := .inr (.inr (some 65))) (zT_is hS s_64) (zT_t hS s_64) rfl f_11_9_11 (zT_f hS r_64_0) ?_
      refine zw_push hm_131 dX11_tokenIs_43 (v := .inr (.inr (some 64))) rfl ?_
      refine zw_gf hm_131 dX11_tokenIs_44 (v := .inl (mI S 64 2)) (zT_is hS s_64) (zT_t hS s_64) rfl f_11_92_11 rfl ?_
      refine zw_push hm_131 dX11_tokenIs_47 (v := .inl (0 : Int32)) rfl ?_
      refine zw_stk hm_131 dX11_tokenIs_48 (st₉ := [.inl ((mI S 64 2) + (0 : Int32)), .inr (.inr (some 65))]) rfl rfl ?_
      obtain ⟨hg, h⟩ := h
      refine zw_ba hm_131 dX11_tokenIs_49 (zT_is hS s_65) (zT_h hS s_65) rfl rfl hg ?_
      show ma_wp X d w 131 50 [(2, .inl (0 : Int32)), (0, .inr (.inr (some 64))), (1, .inr (.inr (some 18)))] [.inl (mI S 65 ((mI S 64 2) + (0 : Int32)).toNatClampNeg)] S _
      refine zw_push hm_131 dX11_tokenIs_50 (v := .inr (.inr (some 18))) rfl ?_
      refine zw_push hm_131 dX11_tokenIs_51 (v := .inl (0 : Int32)) rfl ?_
      refine zw_cv hm_131 dX11_tokenIs_52 v_11_293_17 hm_279 [.inl (0 : Int32)] [.inl (mI S 65 ((mI S 64 2) + (0 : Int32)).toNatClampNeg)] rfl rfl ⟨by omega, by omega⟩ rfl (tx_char (v := (110 : Int32)) (by decide) (by omega) (by omega) (by decide) (by decide) (by decide) (by decide) ?_)
      show ma_wp X d w 131 55 [(2, .inl (0 : Int32)), (0, .inr (.inr (some 64))), (1, .inr (.inr (some 18)))] [.inl (110 : Int32), .inl (mI S 65 ((mI S 64 2) + (0 : Int32)).toNatClampNeg)] S _
      refine zw_if2 hm_131 dX11_tokenIs_55 (t := 60) rfl zc2_eq ?_ ?_
      · intro hc
        rw [if_pos hc] at h
        refine zw_sto hm_131 dX11_tokenIs_60 [(2, .inl (1 : Int32)), (0, .inr (.inr (some 64))), (1, .inr (.inr (some 18)))] rfl rfl rfl ?_
        refine zw_goto hm_131 dX11_tokenIs_63 (t := 20) rfl ?_
        refine zw_push hm_131 dX11_tokenIs_20 (v := .inl (1 : Int32)) rfl ?_
        refine zw_push hm_131 dX11_tokenIs_21 (v := .inr (.inr (some 18))) rfl ?_
        refine zw_cv hm_131 dX11_tokenIs_22 v_11_288_17 hm_277 [] [.inl (1 : Int32)] rfl rfl ⟨by omega, by omega⟩ rfl (tx_len (v := (4 : Int32)) (by decide) (by omega) (by omega) rfl rfl ?_)
        show ma_wp X d w 131 25 [(2, .inl (1 : Int32)), (0, .inr (.inr (some 64))), (1, .inr (.inr (some 18)))] [.inl (4 : Int32), .inl (1 : Int32)] S _
        refine zw_if2 hm_131 dX11_tokenIs_25 (t := 66) rfl zc2_ge (fun hc => absurd hc (by decide)) (fun _ => ?_)
        refine zw_push hm_131 dX11_tokenIs_28 (v := .inr (.inr (some 64))) rfl ?_
        refine zw_gf hm_131 dX11_tokenIs_29 (v := .inl (mI S 64 2)) (zT_is hS s_64) (zT_t hS s_64) rfl f_11_92_11 rfl ?_
        refine zw_push hm_131 dX11_tokenIs_32 (v := .inl (1 : Int32)) rfl ?_
        refine zw_stk hm_131 dX11_tokenIs_33 (st₉ := [.inl ((mI S 64 2) + (1 : Int32))]) rfl rfl ?_
        refine zw_push hm_131 dX11_tokenIs_34 (v := .inl (100 : Int32)) rfl ?_
        refine zw_if2 hm_131 dX11_tokenIs_36 (t := 66) rfl zc2_ge ?_ ?_
        · intro hc
          rw [if_pos hc] at h
          refine zw_push hm_131 dX11_tokenIs_66 (v := .inl (1 : Int32)) rfl ?_
          exact zw_bret hm_131 dX11_tokenIs_67 (by decide) h
        · intro hc
          rw [if_neg hc] at h
          refine zw_push hm_131 dX11_tokenIs_39 (v := .inr (.inr (some 64))) rfl ?_
          refine zw_gf hm_131 dX11_tokenIs_40 (v := .inr (.inr (some 65))) (zT_is hS s_64) (zT_t hS s_64) rfl f_11_9_11 (zT_f hS r_64_0) ?_
          refine zw_push hm_131 dX11_tokenIs_43 (v := .inr (.inr (some 64))) rfl ?_
          refine zw_gf hm_131 dX11_tokenIs_44 (v := .inl (mI S 64 2)) (zT_is hS s_64) (zT_t hS s_64) rfl f_11_92_11 rfl ?_
          refine zw_push hm_131 dX11_tokenIs_47 (v := .inl (1 : Int32)) rfl ?_
          refine zw_stk hm_131 dX11_tokenIs_48 (st₉ := [.inl ((mI S 64 2) + (1 : Int32)), .inr (.inr (some 65))]) rfl rfl ?_
          obtain ⟨hg, h⟩ := h
          refine zw_ba hm_131 dX11_tokenIs_49 (zT_is hS s_65) (zT_h hS s_65) rfl rfl hg ?_
          show ma_wp X d w 131 50 [(2, .inl (1 : Int32)), (0, .inr (.inr (some 64))), (1, .inr (.inr (some 18)))] [.inl (mI S 65 ((mI S 64 2) + (1 : Int32)).toNatClampNeg)] S _
          refine zw_push hm_131 dX11_tokenIs_50 (v := .inr (.inr (some 18))) rfl ?_
          refine zw_push hm_131 dX11_tokenIs_51 (v := .inl (1 : Int32)) rfl ?_
          refine zw_cv hm_131 dX11_tokenIs_52 v_11_293_17 hm_279 [.inl (1 : Int32)] [.inl (mI S 65 ((mI S 64 2) + (1 : Int32)).toNatClampNeg)] rfl rfl ⟨by omega, by omega⟩ rfl (tx_char (v := (101 : Int32)) (by decide) (by omega) (by omega) (by decide) (by decide) (by decide) (by decide) ?_)
          show ma_wp X d w 131 55 [(2, .inl (1 : Int32)), (0, .inr (.inr (some 64))), (1, .inr (.inr (some 18)))] [.inl (101 : Int32), .inl (mI S 65 ((mI S 64 2) + (1 : Int32)).toNatClampNeg)] S _
          refine zw_if2 hm_131 dX11_tokenIs_55 (t := 60) rfl zc2_eq ?_ ?_
          · intro hc
            rw [if_pos hc] at h
            refine zw_sto hm_131 dX11_tokenIs_60 [(2, .inl (2 : Int32)), (0, .inr (.inr (some 64))), (1, .inr (.inr (some 18)))] rfl rfl rfl ?_
            refine zw_goto hm_131 dX11_tokenIs_63 (t := 20) rfl ?_
            refine zw_push hm_131 dX11_tokenIs_20 (v := .inl (2 : Int32)) rfl ?_
            refine zw_push hm_131 dX11_tokenIs_21 (v := .inr (.inr (some 18))) rfl ?_
            refine zw_cv hm_131 dX11_tokenIs_22 v_11_288_17 hm_277 [] [.inl (2 : Int32)] rfl rfl ⟨by omega, by omega⟩ rfl (tx_len (v := (4 : Int32)) (by decide) (by omega) (by omega) rfl rfl ?_)
            show ma_wp X d w 131 25 [(2, .inl (2 : Int32)), (0, .inr (.inr (some 64))), (1, .inr (.inr (some 18)))] [.inl (4 : Int32), .inl (2 : Int32)] S _
            refine zw_if2 hm_131 dX11_tokenIs_25 (t := 66) rfl zc2_ge (fun hc => absurd hc (by decide)) (fun _ => ?_)
            refine zw_push hm_131 dX11_tokenIs_28 (v := .inr (.inr (some 64))) rfl ?_
            refine zw_gf hm_131 dX11_tokenIs_29 (v := .inl (mI S 64 2)) (zT_is hS s_64) (zT_t hS s_64) rfl f_11_92_11 rfl ?_
            refine zw_push hm_131 dX11_tokenIs_32 (v := .inl (2 : Int32)) rfl ?_
            refine zw_stk hm_131 dX11_tokenIs_33 (st₉ := [.inl ((mI S 64 2) + (2 : Int32))]) rfl rfl ?_
            refine zw_push hm_131 dX11_tokenIs_34 (v := .inl (100 : Int32)) rfl ?_
            refine zw_if2 hm_131 dX11_tokenIs_36 (t := 66) rfl zc2_ge ?_ ?_
            · intro hc
              rw [if_pos hc] at h
              refine zw_push hm_131 dX11_tokenIs_66 (v := .inl (1 : Int32)) rfl ?_
              exact zw_bret hm_131 dX11_tokenIs_67 (by decide) h
            · intro hc
              rw [if_neg hc] at h
              refine zw_push hm_131 dX11_tokenIs_39 (v := .inr (.inr (some 64))) rfl ?_
              refine zw_gf hm_131 dX11_tokenIs_40 (v := .inr (.inr (some 65))) (zT_is hS s_64) (zT_t hS s_64) rfl f_11_9_11 (zT_f hS r_64_0) ?_
              refine zw_push hm_131 dX11_tokenIs_43 (v := .inr (.inr (some 64))) rfl ?_
              refine zw_gf hm_131 dX11_tokenIs_44 (v := .inl (mI S 64 2)) (zT_is hS s_64) (zT_t hS s_64) rfl f_11_92_11 rfl ?_
              refine zw_push hm_131 dX11_tokenIs_47 (v := .inl (2 : Int32)) rfl ?_
              refine zw_stk hm_131 dX11_tokenIs_48 (st₉ := [.inl ((mI S 64 2) + (2 : Int32)), .inr (.inr (some 65))]) rfl rfl ?_
              obtain ⟨hg, h⟩ := h
              refine zw_ba hm_131 dX11_tokenIs_49 (zT_is hS s_65) (zT_h hS s_65) rfl rfl hg ?_
              show ma_wp X d w 131 50 [(2, .inl (2 : Int32)), (0, .inr (.inr (some 64))), (1, .inr (.inr (some 18)))] [.inl (mI S 65 ((mI S 64 2) + (2 : Int32)).toNatClampNeg)] S _
              refine zw_push hm_131 dX11_tokenIs_50 (v := .inr (.inr (some 18))) rfl ?_
              refine zw_push hm_131 dX11_tokenIs_51 (v := .inl (2 : Int32)) rfl ?_
              refine zw_cv hm_131 dX11_tokenIs_52 v_11_293_17 hm_279 [.inl (2 : Int32)] [.inl (mI S 65 ((mI S 64 2) + (2 : Int32)).toNatClampNeg)] rfl rfl ⟨by omega, by omega⟩ rfl (tx_char (v := (119 : Int32)) (by decide) (by omega) (by omega) (by decide) (by decide) (by decide) (by decide) ?_)
              show ma_wp X d w 131 55 [(2, .inl (2 : Int32)), (0, .inr (.inr (some 64))), (1, .inr (.inr (some 18)))] [.inl (119 : Int32), .inl (mI S 65 ((mI S 64 2) + (2 : Int32)).toNatClampNeg)] S _
              refine zw_if2 hm_131 dX11_tokenIs_55 (t := 60) rfl zc2_eq ?_ ?_
              · intro hc
                rw [if_pos hc] at h
                refine zw_sto hm_131 dX11_tokenIs_60 [(2, .inl (3 : Int32)), (0, .inr (.inr (some 64))), (1, .inr (.inr (some 18)))] rfl rfl rfl ?_
                refine zw_goto hm_131 dX11_tokenIs_63 (t := 20) rfl ?_
                refine zw_push hm_131 dX11_tokenIs_20 (v := .inl (3 : Int32)) rfl ?_
                refine zw_push hm_131 dX11_tokenIs_21 (v := .inr (.inr (some 18))) rfl ?_
                refine zw_cv hm_131 dX11_tokenIs_22 v_11_288_17 hm_277 [] [.inl (3 : Int32)] rfl rfl ⟨by omega, by omega⟩ rfl (tx_len (v := (4 : Int32)) (by decide) (by omega) (by omega) rfl rfl ?_)
                show ma_wp X d w 131 25 [(2, .inl (3 : Int32)), (0, .inr (.inr (some 64))), (1, .inr (.inr (some 18)))] [.inl (4 : Int32), .inl (3 : Int32)] S _
                refine zw_if2 hm_131 dX11_tokenIs_25 (t := 66) rfl zc2_ge (fun hc => absurd hc (by decide)) (fun _ => ?_)
                refine zw_push hm_131 dX11_tokenIs_28 (v := .inr (.inr (some 64))) rfl ?_
                refine zw_gf hm_131 dX11_tokenIs_29 (v := .inl (mI S 64 2)) (zT_is hS s_64) (zT_t hS s_64) rfl f_11_92_11 rfl ?_
                refine zw_push hm_131 dX11_tokenIs_32 (v := .inl (3 : Int32)) rfl ?_
                refine zw_stk hm_131 dX11_tokenIs_33 (st₉ := [.inl ((mI S 64 2) + (3 : Int32))]) rfl rfl ?_
                refine zw_push hm_131 dX11_tokenIs_34 (v := .inl (100 : Int32)) rfl ?_
                refine zw_if2 hm_131 dX11_tokenIs_36 (t := 66) rfl zc2_ge ?_ ?_
                · intro hc
                  rw [if_pos hc] at h
                  refine zw_push hm_131 dX11_tokenIs_66 (v := .inl (1 : Int32)) rfl ?_
                  exact zw_bret hm_131 dX11_tokenIs_67 (by decide) h
                · intro hc
                  rw [if_neg hc] at h
                  refine zw_push hm_131 dX11_tokenIs_39 (v := .inr (.inr (some 64))) rfl ?_
                  refine zw_gf hm_131 dX11_tokenIs_40 (v := .inr (.inr (some 65))) (zT_is hS s_64) (zT_t hS s_64) rfl f_11_9_11 (zT_f hS r_64_0) ?_
                  refine zw_push hm_131 dX11_tokenIs_43 (v := .inr (.inr (some 64))) rfl ?_
                  refine zw_gf hm_131 dX11_tokenIs_44 (v := .inl (mI S 64 2)) (zT_is hS s_64) (zT_t hS s_64) rfl f_11_92_11 rfl ?_
                  refine zw_push hm_131 dX11_tokenIs_47 (v := .inl (3 : Int32)) rfl ?_
                  refine zw_stk hm_131 dX11_tokenIs_48 (st₉ := [.inl ((mI S 64 2) + (3 : Int32)), .inr (.inr (some 65))]) rfl rfl ?_
                  obtain ⟨hg, h⟩ := h
                  refine zw_ba hm_131 dX11_tokenIs_49 (zT_is hS s_65) (zT_h hS s_65) rfl rfl hg ?_
                  show ma_wp X d w 131 50 [(2, .inl (3 : Int32)), (0, .inr (.inr (some 64))), (1, .inr (.inr (some 18)))] [.inl (mI S 65 ((mI S 64 2) + (3 : Int32)).toNatClampNeg)] S _
                  refine zw_push hm_131 dX11_tokenIs_50 (v := .inr (.inr (some 18))) rfl ?_
                  refine zw_push hm_131 dX11_tokenIs_51 (v := .inl (3 : Int32)) rfl ?_
                  refine zw_cv hm_131 dX11_tokenIs_52 v_11_293_17 hm_279 [.inl (3 : Int32)] [.inl (mI S 65 ((mI S 64 2) + (3 : Int32)).toNatClampNeg)] rfl rfl ⟨by omega, by omega⟩ rfl (tx_char (v := (115 : Int32)) (by decide) (by omega) (by omega) (by decide) (by decide) (by decide) (by decide) ?_)
                  show ma_wp X d w 131 55 [(2, .inl (3 : Int32)), (0, .inr (.inr (some 64))), (1, .inr (.inr (some 18)))] [.inl (115 : Int32), .inl (mI S 65 ((mI S 64 2) + (3 : Int32)).toNatClampNeg)] S _
                  refine zw_if2 hm_131 dX11_tokenIs_55 (t := 60) rfl zc2_eq ?_ ?_
                  · intro hc
                    rw [if_pos hc] at h
                    refine zw_sto hm_131 dX11_tokenIs_60 [(2, .inl (4 : Int32)), (0, .inr (.inr (some 64))), (1, .inr (.inr (some 18)))] rfl rfl rfl ?_
                    refine zw_goto hm_131 dX11_tokenIs_63 (t := 20) rfl ?_
                    refine zw_push hm_131 dX11_tokenIs_20 (v := .inl (4 : Int32)) rfl ?_
                    refine zw_push hm_131 dX11_tokenIs_21 (v := .inr (.inr (some 18))) rfl ?_
                    refine zw_cv hm_131 dX11_tokenIs_22 v_11_288_17 hm_277 [] [.inl (4 : Int32)] rfl rfl ⟨by omega, by omega⟩ rfl (tx_len (v := (4 : Int32)) (by decide) (by omega) (by omega) rfl rfl ?_)
                    show ma_wp X d w 131 25 [(2, .inl (4 : Int32)), (0, .inr (.inr (some 64))), (1, .inr (.inr (some 18)))] [.inl (4 : Int32), .inl (4 : Int32)] S _
                    refine zw_if2 hm_131 dX11_tokenIs_25 (t := 66) rfl zc2_ge (fun _ => ?_) (fun hc => absurd (by decide) hc)
                    refine zw_push hm_131 dX11_tokenIs_66 (v := .inl (1 : Int32)) rfl ?_
                    exact zw_bret hm_131 dX11_tokenIs_67 (by decide) h
                  · intro hc
                    rw [if_neg hc] at h
                    refine zw_push hm_131 dX11_tokenIs_58 (v := .inl (0 : Int32)) rfl ?_
                    exact zw_bret hm_131 dX11_tokenIs_59 (by decide) h
              · intro hc
                rw [if_neg hc] at h
                refine zw_push hm_131 dX11_tokenIs_58 (v := .inl (0 : Int32)) rfl ?_
                exact zw_bret hm_131 dX11_tokenIs_59 (by decide) h
          · intro hc
            rw [if_neg hc] at h
            refine zw_push hm_131 dX11_tokenIs_58 (v := .inl (0 : Int32)) rfl ?_
            exact zw_bret hm_131 dX11_tokenIs_59 (by decide) h
      · intro hc
        rw [if_neg hc] at h
        refine zw_push hm_131 dX11_tokenIs_58 (v := .inl (0 : Int32)) rfl ?_
        exact zw_bret hm_131 dX11_tokenIs_59 (by decide) h
  · intro hc
    rw [if_neg hc] at h
    refine zw_push hm_131 dX11_tokenIs_16 (v := .inl (0 : Int32)) rfl ?_
    exact zw_bret hm_131 dX11_tokenIs_17 (by decide) h
theorem sp_131_64_18_sq {X : Nat × (Nat → Int32)} {d w : Nat} {f : Nat → Nat → Int32} {r : Nat → Nat → Option Nat} {C Z N : Nat} {Q : Option ma_V ⊕ Nat → ma_S → Prop} {I0 : Nat→Nat→Int32} {L0 : Nat→Nat→Int64} {R0 : zRT} {S : ma_S}  (hd : 5 ≤ d) (hw : 100 ≤ w) (hI : zY0 f r C Z N S) (hpre0 : zFm I0 L0 R0 S) (K : ∀ v S₉, zY0 f r C Z N S₉ → (v = 0 ∨ v = 1) → ((v = 1 ∧ zwd (f 65) (f 64 2) ((f 64 3).toInt - (f 64 2).toInt) 110 101 119 115 0 0 0) ∨ (v = 0 ∧ ¬ zwd (f 65) (f 64 2) ((f 64 3).toInt - (f 64 2).toInt) 110 101 119 115 0 0 0)) → (zFm I0 L0 R0 S₉) → Q (.inl (some (.inl v))) S₉) : ma_wp X d w 131 0 [(0, .inr (.inr (some 64))), (1, .inr (.inr (some 18)))] [] S Q := by
  refine g_131_64_18_sq_0  (by omega) (by omega) (zG_T hI) ?_
  have q1 : (mI S 64 3).toInt = (f 64 3).toInt := zG_zi hI rfl
  have f2 := zG_s hI (0) (100) (c := 64) (k := 3) (by decide)
  have q3 : (mI S 64 2).toInt = (f 64 2).toInt := zG_zi hI rfl
  have f4 := zG_s hI (0) (100) (c := 64) (k := 2) (by decide)
  first | have e5 : ((mI S 64 3) - (mI S 64 2)).toInt = (mI S 64 3).toInt - (mI S 64 2).toInt := i_sub (by omega) (by omega) | have b6 := i_bd ((mI S 64 3) - (mI S 64 2))
  have li7 : (4 : Int32).toInt = 4 := rfl
  refine zd (fun h8 => ?_) (fun h8 => ?_)
  · skip
    have g9 := i_eq h8
    have li10 : (100 : Int32).toInt = 100 := rfl
    first | have e11 : ((mI S 64 2) + (0 : Int32)).toInt = (mI S 64 2).toInt + (0) := i_addk rfl (by omega) (by omega) | have b12 := i_bd ((mI S 64 2) + (0 : Int32))
    refine zd (fun h13 => ?_) (fun h13 => ?_)
    · skip
      have g14 := i_le h13
      have li15 : (1 : Int32).toInt = 1 := rfl
      exact K ((1 : Int32)) _ hI (by decide) (show ((1 : Int32) = 1 ∧ zwd (f 65) (f 64 2) ((f 64 3).toInt - (f 64 2).toInt) 110 101 119 115 0 0 0) ∨ ((1 : Int32) = 0 ∧ ¬ zwd (f 65) (f 64 2) ((f 64 3).toInt - (f 64 2).toInt) 110 101 119 115 0 0 0) from by first | (rw [show f 65 = mI S 65 from funext (fun k => (zG_z hI rfl).symm), show f 64 2 = mI S 64 2 from (zG_z hI rfl).symm, show f 64 3 = mI S 64 3 from (zG_z hI rfl).symm]; exact Or.inl ⟨rfl, by rw [if_pos rfl]; omega, (by assumption), (by assumption), (by assumption), (by assumption), Or.inl rfl, Or.inl rfl, Or.inl rfl⟩) | (omega) | (exfalso; omega)) (show zFm I0 L0 R0 S from by first | (exact hpre0))
    · skip
      have g16 := i_nle h13
      refine ⟨i_ix (by omega) (by omega), ?_⟩
      have q17 : (mI S 65 ((mI S 64 2) + (0 : Int32)).toNatClampNeg).toInt = (f 65 ((mI S 64 2) + (0 : Int32)).toNatClampNeg).toInt := zG_zi hI rfl
      have b18 := i_bd (mI S 65 ((mI S 64 2) + (0 : Int32)).toNatClampNeg)
      have li19 : (110 : Int32).toInt = 110 := rfl
      refine zd (fun h20 => ?_) (fun h20 => ?_)
      · skip
        have g21 := i_eq h20
        first | have e22 : ((mI S 64 2) + (1 : Int32)).toInt = (mI S 64 2).toInt + (1) := i_addk rfl (by omega) (by omega) | have b23 := i_bd ((mI S 64 2) + (1 : Int32))
        refine zd (fun h24 => ?_) (fun h24 => ?_)
        · skip
          have g25 := i_le h24
          have li26 : (1 : Int32).toInt = 1 := rfl
          exact K ((1 : Int32)) _ hI (by decide) (show ((1 : Int32) = 1 ∧ zwd (f 65) (f 64 2) ((f 64 3).toInt - (f 64 2).toInt) 110 101 119 115 0 0 0) ∨ ((1 : Int32) = 0 ∧ ¬ zwd (f 65) (f 64 2) ((f 64 3).toInt - (f 64 2).toInt) 110 101 119 115 0 0 0) from by first | (rw [show f 65 = mI S 65 from funext (fun k => (zG_z hI rfl).symm), show f 64 2 = mI S 64 2 from (zG_z hI rfl).symm, show f 64 3 = mI S 64 3 from (zG_z hI rfl).symm]; exact Or.inl ⟨rfl, by rw [if_pos rfl]; omega, (by assumption), (by assumption), (by assumption), (by assumption), Or.inl rfl, Or.inl rfl, Or.inl rfl⟩) | (omega) | (exfalso; omega)) (show zFm I0 L0 R0 S from by first | (exact hpre0))
        · skip
          have g27 := i_nle h24
          refine ⟨i_ix (by omega) (by omega), ?_⟩
          have q28 : (mI S 65 ((mI S 64 2) + (1 : Int32)).toNatClampNeg).toInt = (f 65 ((mI S 64 2) + (1 : Int32)).toNatClampNeg).toInt := zG_zi hI rfl
          have b29 := i_bd (mI S 65 ((mI S 64 2) + (1 : Int32)).toNatClampNeg)
          have li30 : (101 : Int32).toInt = 101 := rfl
          refine zd (fun h31 => ?_) (fun h31 => ?_)
          · skip
            have g32 := i_eq h31
            first | have e33 : ((mI S 64 2) + (2 : Int32)).toInt = (mI S 64 2).toInt + (2) := i_addk rfl (by omega) (by omega) | have b34 := i_bd ((mI S 64 2) + (2 : Int32))
            refine zd (fun h35 => ?_) (fun h35 => ?_)
            · skip
              have g36 := i_le h35
              have li37 : (1 : Int32).toInt = 1 := rfl
              exact K ((1 : Int32)) _ hI (by decide) (show ((1 : Int32) = 1 ∧ zwd (f 65) (f 64 2) ((f 64 3).toInt - (f 64 2).toInt) 110 101 119 115 0 0 0) ∨ ((1 : Int32) = 0 ∧ ¬ zwd (f 65) (f 64 2) ((f 64 3).toInt - (f 64 2).toInt) 110 101 119 115 0 0 0) from by first | (rw [show f 65 = mI S 65 from funext (fun k => (zG_z hI rfl).symm), show f 64 2 = mI S 64 2 from (zG_z hI rfl).symm, show f 64 3 = mI S 64 3 from (zG_z hI rfl).symm]; exact Or.inl ⟨rfl, by rw [if_pos rfl]; omega, (by assumption), (by assumption), (by assumption), (by assumption), Or.inl rfl, Or.inl rfl, Or.inl rfl⟩) | (omega) | (exfalso; omega)) (show zFm I0 L0 R0 S from by first | (exact hpre0))
            · skip
              have g38 := i_nle h35
              refine ⟨i_ix (by omega) (by omega), ?_⟩
              have q39 : (mI S 65 ((mI S 64 2) + (2 : Int32)).toNatClampNeg).toInt = (f 65 ((mI S 64 2) + (2 : Int32)).toNatClampNeg).toInt := zG_zi hI rfl
              have b40 := i_bd (mI S 65 ((mI S 64 2) + (2 : Int32)).toNatClampNeg)
              have li41 : (119 : Int32).toInt = 119 := rfl
              refine zd (fun h42 => ?_) (fun h42 => ?_)
              · skip
                have g43 := i_eq h42
                first | have e44 : ((mI S 64 2) + (3 : Int32)).toInt = (mI S 64 2).toInt + (3) := i_addk rfl (by omega) (by omega) | have b45 := i_bd ((mI S 64 2) + (3 : Int32))
                refine zd (fun h46 => ?_) (fun h46 => ?_)
                · skip
                  have g47 := i_le h46
                  have li48 : (1 : Int32).toInt = 1 := rfl
                  exact K ((1 : Int32)) _ hI (by decide) (show ((1 : Int32) = 1 ∧ zwd (f 65) (f 64 2) ((f 64 3).toInt - (f 64 2).toInt) 110 101 119 115 0 0 0) ∨ ((1 : Int32) = 0 ∧ ¬ zwd (f 65) (f 64 2) ((f 64 3).toInt - (f 64 2).toInt) 110 101 119 115 0 0 0) from by first | (rw [show f 65 = mI S 65 from funext (fun k => (zG_z hI rfl).symm), show f 64 2 = mI S 64 2 from (zG_z hI rfl).symm, show f 64 3 = mI S 64 3 from (zG_z hI rfl).symm]; exact Or.inl ⟨rfl, by rw [if_pos rfl]; omega, (by assumption), (by assumption), (by assumption), (by assumption), Or.inl rfl, Or.inl rfl, Or.inl rfl⟩) | (omega) | (exfalso; omega)) (show zFm I0 L0 R0 S from by first | (exact hpre0))
                · skip
                  have g49 := i_nle h46
                  refine ⟨i_ix (by omega) (by omega), ?_⟩
                  have q50 : (mI S 65 ((mI S 64 2) + (3 : Int32)).toNatClampNeg).toInt = (f 65 ((mI S 64 2) + (3 : Int32)).toNatClampNeg).toInt := zG_zi hI rfl
                  have b51 := i_bd (mI S 65 ((mI S 64 2) + (3 : Int32)).toNatClampNeg)
                  have li52 : (115 : Int32).toInt = 115 := rfl
                  refine zd (fun h53 => ?_) (fun h53 => ?_)
                  · skip
                    have g54 := i_eq h53
                    have li55 : (1 : Int32).toInt = 1 := rfl
                    exact K ((1 : Int32)) _ hI (by decide) (show ((1 : Int32) = 1 ∧ zwd (f 65) (f 64 2) ((f 64 3).toInt - (f 64 2).toInt) 110 101 119 115 0 0 0) ∨ ((1 : Int32) = 0 ∧ ¬ zwd (f 65) (f 64 2) ((f 64 3).toInt - (f 64 2).toInt) 110 101 119 115 0 0 0) from by first | (rw [show f 65 = mI S 65 from funext (fun k => (zG_z hI rfl).symm), show f 64 2 = mI S 64 2 from (zG_z hI rfl).symm, show f 64 3 = mI S 64 3 from (zG_z hI rfl).symm]; exact Or.inl ⟨rfl, by rw [if_pos rfl]; omega, (by assumption), (by assumption), (by assumption), (by assumption), Or.inl rfl, Or.inl rfl, Or.inl rfl⟩) | (omega) | (exfalso; omega)) (show zFm I0 L0 R0 S from by first | (exact hpre0))
                  · skip
                    have g56 := i_ne h53
                    have li57 : (0 : Int32).toInt = 0 := rfl
                    exact K ((0 : Int32)) _ hI (by decide) (show ((0 : Int32) = 1 ∧ zwd (f 65) (f 64 2) ((f 64 3).toInt - (f 64 2).toInt) 110 101 119 115 0 0 0) ∨ ((0 : Int32) = 0 ∧ ¬ zwd (f 65) (f 64 2) ((f 64 3).toInt - (f 64 2).toInt) 110 101 119 115 0 0 0) from by first | (rw [show f 65 = mI S 65 from funext (fun k => (zG_z hI rfl).symm), show f 64 2 = mI S 64 2 from (zG_z hI rfl).symm, show f 64 3 = mI S 64 3 from (zG_z hI rfl).symm]; exact Or.inr ⟨rfl, fun z => absurd z.2.1 (by assumption)⟩) | (rw [show f 65 = mI S 65 from funext (fun k => (zG_z hI rfl).symm), show f 64 2 = mI S 64 2 from (zG_z hI rfl).symm, show f 64 3 = mI S 64 3 from (zG_z hI rfl).symm]; exact Or.inr ⟨rfl, fun z => absurd z.2.2.1 (by assumption)⟩) | (rw [show f 65 = mI S 65 from funext (fun k => (zG_z hI rfl).symm), show f 64 2 = mI S 64 2 from (zG_z hI rfl).symm, show f 64 3 = mI S 64 3 from (zG_z hI rfl).symm]; exact Or.inr ⟨rfl, fun z => absurd z.2.2.2.1 (by assumption)⟩) | (rw [show f 65 = mI S 65 from funext (fun k => (zG_z hI rfl).symm), show f 64 2 = mI S 64 2 from (zG_z hI rfl).symm, show f 64 3 = mI S 64 3 from (zG_z hI rfl).symm]; exact Or.inr ⟨rfl, fun z => absurd z.2.2.2.2.1 (by assumption)⟩) | (rw [show f 65 = mI S 65 from funext (fun k => (zG_z hI rfl).symm), show f 64 2 = mI S 64 2 from (zG_z hI rfl).symm, show f 64 3 = mI S 64 3 from (zG_z hI rfl).symm]; exact Or.inr ⟨rfl, fun z => by have y := z.1; rw [if_pos rfl] at y; omega⟩) | (omega) | (exfalso; omega)) (show zFm I0 L0 R0 S from by first | (exact hpre0))
              · skip
                have g58 := i_ne h42
                have li59 : (0 : Int32).toInt = 0 := rfl
                exact K ((0 : Int32)) _ hI (by decide) (show ((0 : Int32) = 1 ∧ zwd (f 65) (f 64 2) ((f 64 3).toInt - (f 64 2).toInt) 110 101 119 115 0 0 0) ∨ ((0 : Int32) = 0 ∧ ¬ zwd (f 65) (f 64 2) ((f 64 3).toInt - (f 64 2).toInt) 110 101 119 115 0 0 0) from by first | (rw [show f 65 = mI S 65 from funext (fun k => (zG_z hI rfl).symm), show f 64 2 = mI S 64 2 from (zG_z hI rfl).symm, show f 64 3 = mI S 64 3 from (zG_z hI rfl).symm]; exact Or.inr ⟨rfl, fun z => absurd z.2.1 (by assumption)⟩) | (rw [show f 65 = mI S 65 from funext (fun k => (zG_z hI rfl).symm), show f 64 2 = mI S 64 2 from (zG_z hI rfl).symm, show f 64 3 = mI S 64 3 from (zG_z hI rfl).symm]; exact Or.inr ⟨rfl, fun z => absurd z.2.2.1 (by assumption)⟩) | (rw [show f 65 = mI S 65 from funext (fun k => (zG_z hI rfl).symm), show f 64 2 = mI S 64 2 from (zG_z hI rfl).symm, show f 64 3 = mI S 64 3 from (zG_z hI rfl).symm]; exact Or.inr ⟨rfl, fun z => absurd z.2.2.2.1 (by assumption)⟩) | (rw [show f 65 = mI S 65 from funext (fun k => (zG_z hI rfl).symm), show f 64 2 = mI S 64 2 from (zG_z hI rfl).symm, show f 64 3 = mI S 64 3 from (zG_z hI rfl).symm]; exact Or.inr ⟨rfl, fun z => absurd z.2.2.2.2.1 (by assumption)⟩) | (rw [show f 65 = mI S 65 from funext (fun k => (zG_z hI rfl).symm), show f 64 2 = mI S 64 2 from (zG_z hI rfl).symm, show f 64 3 = mI S 64 3 from (zG_z hI rfl).symm]; exact Or.inr ⟨rfl, fun z => by have y := z.1; rw [if_pos rfl] at y; omega⟩) | (omega) | (exfalso; omega)) (show zFm I0 L0 R0 S from by first | (exact hpre0))
          · skip
            have g60 := i_ne h31
            have li61 : (0 : Int32).toInt = 0 := rfl
            exact K ((0 : Int32)) _ hI (by decide) (show ((0 : Int32) = 1 ∧ zwd (f 65) (f 64 2) ((f 64 3).toInt - (f 64 2).toInt) 110 101 119 115 0 0 0) ∨ ((0 : Int32) = 0 ∧ ¬ zwd (f 65) (f 64 2) ((f 64 3).toInt - (f 64 2).toInt) 110 101 119 115 0 0 0) from by first | (rw [show f 65 = mI S 65 from funext (fun k => (zG_z hI rfl).symm), show f 64 2 = mI S 64 2 from (zG_z hI rfl).symm, show f 64 3 = mI S 64 3 from (zG_z hI rfl).symm]; exact Or.inr ⟨rfl, fun z => absurd z.2.1 (by assumption)⟩) | (rw [show f 65 = mI S 65 from funext (fun k => (zG_z hI rfl).symm), show f 64 2 = mI S 64 2 from (zG_z hI rfl).symm, show f 64 3 = mI S 64 3 from (zG_z hI rfl).symm]; exact Or.inr ⟨rfl, fun z => absurd z.2.2.1 (by assumption)⟩) | (rw [show f 65 = mI S 65 from funext (fun k => (zG_z hI rfl).symm), show f 64 2 = mI S 64 2 from (zG_z hI rfl).symm, show f 64 3 = mI S 64 3 from (zG_z hI rfl).symm]; exact Or.inr ⟨rfl, fun z => absurd z.2.2.2.1 (by assumption)⟩) | (rw [show f 65 = mI S 65 from funext (fun k => (zG_z hI rfl).symm), show f 64 2 = mI S 64 2 from (zG_z hI rfl).symm, show f 64 3 = mI S 64 3 from (zG_z hI rfl).symm]; exact Or.inr ⟨rfl, fun z => absurd z.2.2.2.2.1 (by assumption)⟩) | (rw [show f 65 = mI S 65 from funext (fun k => (zG_z hI rfl).symm), show f 64 2 = mI S 64 2 from (zG_z hI rfl).symm, show f 64 3 = mI S 64 3 from (zG_z hI rfl).symm]; exact Or.inr ⟨rfl, fun z => by have y := z.1; rw [if_pos rfl] at y; omega⟩) | (omega) | (exfalso; omega)) (show zFm I0 L0 R0 S from by first | (exact hpre0))
      · skip
        have g62 := i_ne h20
        have li63 : (0 : Int32).toInt = 0 := rfl
        exact K ((0 : Int32)) _ hI (by decide) (show ((0 : Int32) = 1 ∧ zwd (f 65) (f 64 2) ((f 64 3).toInt - (f 64 2).toInt) 110 101 119 115 0 0 0) ∨ ((0 : Int32) = 0 ∧ ¬ zwd (f 65) (f 64 2) ((f 64 3).toInt - (f 64 2).toInt) 110 101 119 115 0 0 0) from by first | (rw [show f 65 = mI S 65 from funext (fun k => (zG_z hI rfl).symm), show f 64 2 = mI S 64 2 from (zG_z hI rfl).symm, show f 64 3 = mI S 64 3 from (zG_z hI rfl).symm]; exact Or.inr ⟨rfl, fun z => absurd z.2.1 (by assumption)⟩) | (rw [show f 65 = mI S 65 from funext (fun k => (zG_z hI rfl).symm), show f 64 2 = mI S 64 2 from (zG_z hI rfl).symm, show f 64 3 = mI S 64 3 from (zG_z hI rfl).symm]; exact Or.inr ⟨rfl, fun z => absurd z.2.2.1 (by assumption)⟩) | (rw [show f 65 = mI S 65 from funext (fun k => (zG_z hI rfl).symm), show f 64 2 = mI S 64 2 from (zG_z hI rfl).symm, show f 64 3 = mI S 64 3 from (zG_z hI rfl).symm]; exact Or.inr ⟨rfl, fun z => absurd z.2.2.2.1 (by assumption)⟩) | (rw [show f 65 = mI S 65 from funext (fun k => (zG_z hI rfl).symm), show f 64 2 = mI S 64 2 from (zG_z hI rfl).symm, show f 64 3 = mI S 64 3 from (zG_z hI rfl).symm]; exact Or.inr ⟨rfl, fun z => absurd z.2.2.2.2.1 (by assumption)⟩) | (rw [show f 65 = mI S 65 from funext (fun k => (zG_z hI rfl).symm), show f 64 2 = mI S 64 2 from (zG_z hI rfl).symm, show f 64 3 = mI S 64 3 from (zG_z hI rfl).symm]; exact Or.inr ⟨rfl, fun z => by have y := z.1; rw [if_pos rfl] at y; omega⟩) | (omega) | (exfalso; omega)) (show zFm I0 L0 R0 S from by first | (exact hpre0))
  · skip
    have g64 := i_ne h8
    have li65 : (0 : Int32).toInt = 0 := rfl
    exact K ((0 : Int32)) _ hI (by decide) (show ((0 : Int32) = 1 ∧ zwd (f 65) (f 64 2) ((f 64 3).toInt - (f 64 2).toInt) 110 101 119 115 0 0 0) ∨ ((0 : Int32) = 0 ∧ ¬ zwd (f 65) (f 64 2) ((f 64 3).toInt - (f 64 2).toInt) 110 101 119 115 0 0 0) from by first | (rw [show f 65 = mI S 65 from funext (fun k => (zG_z hI rfl).symm), show f 64 2 = mI S 64 2 from (zG_z hI rfl).symm, show f 64 3 = mI S 64 3 from (zG_z hI rfl).symm]; exact Or.inr ⟨rfl, fun z => absurd z.2.1 (by assumption)⟩) | (rw [show f 65 = mI S 65 from funext (fun k => (zG_z hI rfl).symm), show f 64 2 = mI S 64 2 from (zG_z hI rfl).symm, show f 64 3 = mI S 64 3 from (zG_z hI rfl).symm]; exact Or.inr ⟨rfl, fun z => absurd z.2.2.1 (by assumption)⟩) | (rw [show f 65 = mI S 65 from funext (fun k => (zG_z hI rfl).symm), show f 64 2 = mI S 64 2 from (zG_z hI rfl).symm, show f 64 3 = mI S 64 3 from (zG_z hI rfl).symm]; exact Or.inr ⟨rfl, fun z => absurd z.2.2.2.1 (by assumption)⟩) | (rw [show f 65 = mI S 65 from funext (fun k => (zG_z hI rfl).symm), show f 64 2 = mI S 64 2 from (zG_z hI rfl).symm, show f 64 3 = mI S 64 3 from (zG_z hI rfl).symm]; exact Or.inr ⟨rfl, fun z => absurd z.2.2.2.2.1 (by assumption)⟩) | (rw [show f 65 = mI S 65 from funext (fun k => (zG_z hI rfl).symm), show f 64 2 = mI S 64 2 from (zG_z hI rfl).symm, show f 64 3 = mI S 64 3 from (zG_z hI rfl).symm]; exact Or.inr ⟨rfl, fun z => by have y := z.1; rw [if_pos rfl] at y; omega⟩) | (omega) | (exfalso; omega)) (show zFm I0 L0 R0 S from by first | (exact hpre0))

/-! from 95.i24 -/
/-! the class opens a heap (written by wip/tools/gen18c.py) -/
theorem g_130_64_sq_0 {X : Nat × (Nat → Int32)} {d w : Nat} {S : ma_S} {Q : Option ma_V ⊕ Nat → ma_S → Prop}  (hd : 6 ≤ d) (hw : 122 ≤ w) (hS : zT S) (h : ma_wp X (d - 1) (w - 22) 131 0 [(0, .inr (.inr (some 64))), (1, .inr (.inr (some 0)))] [] S (zi (fun v2 S1 => zT S1 ∧ (if v2 = 0 then (ma_wp X (d - 1) (w - 22) 131 0 [(0, .inr (.inr (some 64))), (1, .inr (.inr (some 1)))] [] S1 (zi (fun v4 S3 => zT S3 ∧ (if v4 = 0 then (ma_wp X (d - 1) (w - 22) 131 0 [(0, .inr (.inr (some 64))), (1, .inr (.inr (some 2)))] [] S3 (zi (fun v6 S5 => zT S5 ∧ (if v6 = 0 then (ma_wp X (d - 1) (w - 22) 131 0 [(0, .inr (.inr (some 64))), (1, .inr (.inr (some 3)))] [] S5 (zi (fun v8 S7 => zT S7 ∧ (if v8 = 0 then (ma_wp X (d - 1) (w - 22) 131 0 [(0, .inr (.inr (some 64))), (1, .inr (.inr (some 4)))] [] S7 (zi (fun v10 S9 => zT S9 ∧ (if v10 = 0 then (ma_wp X (d - 1) (w - 22) 131 0 [(0, .inr (.inr (some 64))), (1, .inr (.inr (some 5)))] [] S9 (zi (fun v12 S11 => zT S11 ∧ (if v12 = 0 then (ma_wp X (d - 1) (w - 22) 131 0 [(0, .inr (.inr (some 64))), (1, .inr (.inr (some 6)))] [] S11 (zi (fun v14 S13 => zT S13 ∧ (if v14 = 0 then (Q (.inl (some (.inl (-1 : Int32)))) S13) else (Q (.inl (some (.inl (6 : Int32)))) S13))) (fun x S9 => Q (.inr x) S9))) else (Q (.inl (some (.inl (5 : Int32)))) S11))) (fun x S9 => Q (.inr x) S9))) else (Q (.inl (some (.inl (4 : Int32)))) S9))) (fun x S9 => Q (.inr x) S9))) else (Q (.inl (some (.inl (3 : Int32)))) S7))) (fun x S9 => Q (.inr x) S9))) else (Q (.inl (some (.inl (2 : Int32)))) S5))) (fun x S9 => Q (.inr x) S9))) else (Q (.inl (some (.inl (1 : Int32)))) S3))) (fun x S9 => Q (.inr x) S9))) else (Q (.inl (some (.inl (0 : Int32)))) S1))) (fun x S9 => Q (.inr x) S9))) : ma_wp X d w 130 0 [(0, .inr (.inr (some 64)))] [] S Q := by
  refine zw_push hm_130 dX11_policyToken_0 (v := .inr (.inr (some 64))) rfl ?_
  refine zw_txc hm_130 dX11_policyToken_1 txi_11_301 ?_
  refine zw_cv hm_130 dX11_policyToken_4 v_11_303_11 hm_131 [.inr (.inr (some 0))] [] rfl (zT_rt hS s_64 rfl) ⟨by omega, by omega⟩ rfl (zw_mono h (zi_go ?_ ?_))
  · intro v2 S1 hv
    obtain ⟨hS1, h⟩ := hv
    refine zw_if0 hm_130 dX11_policyToken_7 (t := 12) rfl zc0_eq ?_ ?_
    · intro hc
      rw [if_pos hc] at h
      refine zw_push hm_130 dX11_policyToken_12 (v := .inr (.inr (some 64))) rfl ?_
      refine zw_txc hm_130 dX11_policyToken_13 txi_11_307 ?_
      refine zw_cv hm_130 dX11_policyToken_16 v_11_303_11 hm_131 [.inr (.inr (some 1))] [] rfl (zT_rt hS1 s_64 rfl) ⟨by omega, by omega⟩ rfl (zw_mono h (zi_go ?_ ?_))
      · intro v4 S3 hv
        obtain ⟨hS3, h⟩ := hv
        refine zw_if0 hm_130 dX11_policyToken_19 (t := 24) rfl zc0_eq ?_ ?_
        · intro hc
          rw [if_pos hc] at h
          refine zw_push hm_130 dX11_policyToken_24 (v := .inr (.inr (some 64))) rfl ?_
          refine zw_txc hm_130 dX11_policyToken_25 txi_11_309 ?_
          refine zw_cv hm_130 dX11_policyToken_28 v_11_303_11 hm_131 [.inr (.inr (some 2))] [] rfl (zT_rt hS3 s_64 rfl) ⟨by omega, by omega⟩ rfl (zw_mono h (zi_go ?_ ?_))
          · intro v6 S5 hv
            obtain ⟨hS5, h⟩ := hv
            refine zw_if0 hm_130 dX11_policyToken_31 (t := 36) rfl zc0_eq ?_ ?_
            · intro hc
              rw [if_pos hc] at h
              refine zw_push hm_130 dX11_policyToken_36 (v := .inr (.inr (some 64))) rfl ?_
              refine zw_txc hm_130 dX11_policyToken_37 txi_11_311 ?_
              refine zw_cv hm_130 dX11_policyToken_40 v_11_303_11 hm_131 [.inr (.inr (some 3))] [] rfl (zT_rt hS5 s_64 rfl) ⟨by omega, by omega⟩ rfl (zw_mono h (zi_go ?_ ?_))
              · intro v8 S7 hv
                obtain ⟨hS7, h⟩ := hv
                refine zw_if0 hm_130 dX11_policyToken_43 (t := 48) rfl zc0_eq ?_ ?_
                · intro hc
                  rw [if_pos hc] at h
                  refine zw_push hm_130 dX11_policyToken_48 (v := .inr (.inr (some 64))) rfl ?_
                  refine zw_txc hm_130 dX11_policyToken_49 txi_11_313 ?_
                  refine zw_cv hm_130 dX11_policyToken_52 v_11_303_11 hm_131 [.inr (.inr (some 4))] [] rfl (zT_rt hS7 s_64 rfl) ⟨by omega, by omega⟩ rfl (zw_mono h (zi_go ?_ ?_))
                  · intro v10 S9 hv
                    obtain ⟨hS9, h⟩ := hv
                    refine zw_if0 hm_130 dX11_policyToken_55 (t := 60) rfl zc0_eq ?_ ?_
                    · intro hc
                      rw [if_pos hc] at h
                      refine zw_push hm_130 dX11_policyToken_60 (v := .inr (.inr (some 64))) rfl ?_
                      refine zw_txc hm_130 dX11_policyToken_61 txi_11_315 ?_
                      refine zw_cv hm_130 dX11_policyToken_64 v_11_303_11 hm_131 [.inr (.inr (some 5))] [] rfl (zT_rt hS9 s_64 rfl) ⟨by omega, by omega⟩ rfl (zw_mono h (zi_go ?_ ?_))
                      · intro v12 S11 hv
                        obtain ⟨hS11, h⟩ := hv
                        refine zw_if0 hm_130 dX11_policyToken_67 (t := 72) rfl zc0_eq ?_ ?_
                        · intro hc
                          rw [if_pos hc] at h
                          refine zw_push hm_130 dX11_policyToken_72 (v := .inr (.inr (some 64))) rfl ?_
                          refine zw_txc hm_130 dX11_policyToken_73 txi_11_317 ?_
                          refine zw_cv hm_130 dX11_policyToken_76 v_11_303_11 hm_131 [.inr (.inr (some 6))] [] rfl (zT_rt hS11 s_64 rfl) ⟨by omega, by omega⟩ rfl (zw_mono h (zi_go ?_ ?_))
                          · intro v14 S13 hv
                            obtain ⟨hS13, h⟩ := hv
                            refine zw_if0 hm_130 dX11_policyToken_79 (t := 87) rfl zc0_eq ?_ ?_
                            · intro hc
                              rw [if_pos hc] at h
                              refine zw_push hm_130 dX11_policyToken_87 (v := .inl (-1 : Int32)) rfl ?_
                              exact zw_iret hm_130 dX11_policyToken_88 h
                            · intro hc
                              rw [if_neg hc] at h
                              refine zw_push hm_130 dX11_policyToken_82 (v := .inl (6 : Int32)) rfl ?_
                              refine zw_goto hm_130 dX11_policyToken_84 (t := 88) rfl ?_
                              exact zw_iret hm_130 dX11_policyToken_88 h
                          · intro x S9 hx
                            exact ⟨by decide, hx⟩
                        · intro hc
                          rw [if_neg hc] at h
                          refine zw_push hm_130 dX11_policyToken_70 (v := .inl (5 : Int32)) rfl ?_
                          exact zw_iret hm_130 dX11_policyToken_71 h
                      · intro x S9 hx
                        exact ⟨by decide, hx⟩
                    · intro hc
                      rw [if_neg hc] at h
                      refine zw_push hm_130 dX11_policyToken_58 (v := .inl (4 : Int32)) rfl ?_
                      exact zw_iret hm_130 dX11_policyToken_59 h
                  · intro x S9 hx
                    exact ⟨by decide, hx⟩
                · intro hc
                  rw [if_neg hc] at h
                  refine zw_push hm_130 dX11_policyToken_46 (v := .inl (3 : Int32)) rfl ?_
                  exact zw_iret hm_130 dX11_policyToken_47 h
              · intro x S9 hx
                exact ⟨by decide, hx⟩
            · intro hc
              rw [if_neg hc] at h
              refine zw_push hm_130 dX11_policyToken_34 (v := .inl (2 : Int32)) rfl ?_
              exact zw_iret hm_130 dX11_policyToken_35 h
          · intro x S9 hx
            exact ⟨by decide, hx⟩
        · intro hc
          rw [if_neg hc] at h
          refine zw_push hm_130 dX11_policyToken_22 (v := .inl (1 : Int32)) rfl ?_
          exact zw_iret hm_130 dX11_policyToken_23 h
      · intro x S9 hx
        exact ⟨by decide, hx⟩
    · intro hc
      rw [if_neg hc] at h
      refine zw_push hm_130 dX11_policyToken_10 (v := .inl (0 : Int32)) rfl ?_
      exact zw_iret hm_130 dX11_policyToken_11 h
  · intro x S9 hx
    exact ⟨by decide, hx⟩
theorem sp_130_64_sq {X : Nat × (Nat → Int32)} {d w : Nat} {f : Nat → Nat → Int32} {r : Nat → Nat → Option Nat} {C Z N : Nat} {Q : Option ma_V ⊕ Nat → ma_S → Prop} {I0 : Nat→Nat→Int32} {L0 : Nat→Nat→Int64} {R0 : zRT} {S : ma_S}  (hd : 6 ≤ d) (hw : 122 ≤ w) (hI : zY0 f r C Z N S) (hpre0 : zFm I0 L0 R0 S) (K : ∀ v S₉, zY0 f r C Z N S₉ → (-1 ≤ v.toInt ∧ v.toInt ≤ 6) → (v.toInt = zPol (f 65) (f 64 2) ((f 64 3).toInt - (f 64 2).toInt)) → (zFm I0 L0 R0 S₉) → Q (.inl (some (.inl v))) S₉) : ma_wp X d w 130 0 [(0, .inr (.inr (some 64)))] [] S Q := by
  refine g_130_64_sq_0  (by omega) (by omega) (zG_T hI) ?_
  refine sp_131_64_0_sq (I0 := I0) (L0 := L0) (R0 := R0) (by omega) (by omega) hI (show zFm I0 L0 R0 S from by first | (exact hpre0)) (fun v2 S1 hI_S1 hp_v2 rp0_S1 rp1_S1 => zi_n ⟨zG_T hI_S1, ?_⟩)
  have rp0_S1 : (v2 = 1 ∧ zwd (f 65) (f 64 2) ((f 64 3).toInt - (f 64 2).toInt) 115 119 101 101 112 0 0) ∨ (v2 = 0 ∧ ¬ zwd (f 65) (f 64 2) ((f 64 3).toInt - (f 64 2).toInt) 115 119 101 101 112 0 0) := rp0_S1
  have rp1_S1 : zFm I0 L0 R0 S1 := rp1_S1
  have b1 := i_bd v2
  have li2 : (0 : Int32).toInt = 0 := rfl
  refine zd (fun h3 => ?_) (fun h3 => ?_)
  · skip
    have g4 := i_eq h3
    refine sp_131_64_1_sq (I0 := I0) (L0 := L0) (R0 := R0) (by omega) (by omega) hI_S1 (show zFm I0 L0 R0 S1 from by first | (exact rp1_S1)) (fun v4 S3 hI_S3 hp_v4 rp0_S3 rp1_S3 => zi_n ⟨zG_T hI_S3, ?_⟩)
    have rp0_S3 : (v4 = 1 ∧ zwd (f 65) (f 64 2) ((f 64 3).toInt - (f 64 2).toInt) 115 108 105 100 101 0 0) ∨ (v4 = 0 ∧ ¬ zwd (f 65) (f 64 2) ((f 64 3).toInt - (f 64 2).toInt) 115 108 105 100 101 0 0) := rp0_S3
    have rp1_S3 : zFm I0 L0 R0 S3 := rp1_S3
    have b5 := i_bd v4
    refine zd (fun h6 => ?_) (fun h6 => ?_)
    · skip
      have g7 := i_eq h6
      refine sp_131_64_2_sq (I0 := I0) (L0 := L0) (R0 := R0) (by omega) (by omega) hI_S3 (show zFm I0 L0 R0 S3 from by first | (exact rp1_S3)) (fun v6 S5 hI_S5 hp_v6 rp0_S5 rp1_S5 => zi_n ⟨zG_T hI_S5, ?_⟩)
      have rp0_S5 : (v6 = 1 ∧ zwd (f 65) (f 64 2) ((f 64 3).toInt - (f 64 2).toInt) 104 97 108 118 101 115 0) ∨ (v6 = 0 ∧ ¬ zwd (f 65) (f 64 2) ((f 64 3).toInt - (f 64 2).toInt) 104 97 108 118 101 115 0) := rp0_S5
      have rp1_S5 : zFm I0 L0 R0 S5 := rp1_S5
      have b8 := i_bd v6
      refine zd (fun h9 => ?_) (fun h9 => ?_)
      · skip
        have g10 := i_eq h9
        refine sp_131_64_3_sq (I0 := I0) (L0 := L0) (R0 := R0) (by omega) (by omega) hI_S5 (show zFm I0 L0 R0 S5 from by first | (exact rp1_S5)) (fun v8 S7 hI_S7 hp_v8 rp0_S7 rp1_S7 => zi_n ⟨zG_T hI_S7, ?_⟩)
        have rp0_S7 : (v8 = 1 ∧ zwd (f 65) (f 64 2) ((f 64 3).toInt - (f 64 2).toInt) 97 103 101 115 0 0 0) ∨ (v8 = 0 ∧ ¬ zwd (f 65) (f 64 2) ((f 64 3).toInt - (f 64 2).toInt) 97 103 101 115 0 0 0) := rp0_S7
        have rp1_S7 : zFm I0 L0 R0 S7 := rp1_S7
        have b11 := i_bd v8
        refine zd (fun h12 => ?_) (fun h12 => ?_)
        · skip
          have g13 := i_eq h12
          refine sp_131_64_4_sq (I0 := I0) (L0 := L0) (R0 := R0) (by omega) (by omega) hI_S7 (show zFm I0 L0 R0 S7 from by first | (exact rp1_S7)) (fun v10 S9 hI_S9 hp_v10 rp0_S9 rp1_S9 => zi_n ⟨zG_T hI_S9, ?_⟩)
          have rp0_S9 : (v10 = 1 ∧ zwd (f 65) (f 64 2) ((f 64 3).toInt - (f 64 2).toInt) 99 111 117 110 116 115 0) ∨ (v10 = 0 ∧ ¬ zwd (f 65) (f 64 2) ((f 64 3).toInt - (f 64 2).toInt) 99 111 117 110 116 115 0) := rp0_S9
          have rp1_S9 : zFm I0 L0 R0 S9 := rp1_S9
          have b14 := i_bd v10
          refine zd (fun h15 => ?_) (fun h15 => ?_)
          · skip
            have g16 := i_eq h15
            refine sp_131_64_5_sq (I0 := I0) (L0 := L0) (R0 := R0) (by omega) (by omega) hI_S9 (show zFm I0 L0 R0 S9 from by first | (exact rp1_S9)) (fun v12 S11 hI_S11 hp_v12 rp0_S11 rp1_S11 => zi_n ⟨zG_T hI_S11, ?_⟩)
            have rp0_S11 : (v12 = 1 ∧ zwd (f 65) (f 64 2) ((f 64 3).toInt - (f 64 2).toInt) 115 116 101 112 115 0 0) ∨ (v12 = 0 ∧ ¬ zwd (f 65) (f 64 2) ((f 64 3).toInt - (f 64 2).toInt) 115 116 101 112 115 0 0) := rp0_S11
            have rp1_S11 : zFm I0 L0 R0 S11 := rp1_S11
            have b17 := i_bd v12
            refine zd (fun h18 => ?_) (fun h18 => ?_)
            · skip
              have g19 := i_eq h18
              refine sp_131_64_6_sq (I0 := I0) (L0 := L0) (R0 := R0) (by omega) (by omega) hI_S11 (show zFm I0 L0 R0 S11 from by first | (exact rp1_S11)) (fun v14 S13 hI_S13 hp_v14 rp0_S13 rp1_S13 => zi_n ⟨zG_T hI_S13, ?_⟩)
              have rp0_S13 : (v14 = 1 ∧ zwd (f 65) (f 64 2) ((f 64 3).toInt - (f 64 2).toInt) 114 101 103 105 111 110 115) ∨ (v14 = 0 ∧ ¬ zwd (f 65) (f 64 2) ((f 64 3).toInt - (f 64 2).toInt) 114 101 103 105 111 110 115) := rp0_S13
              have rp1_S13 : zFm I0 L0 R0 S13 := rp1_S13
              have b20 := i_bd v14
              refine zd (fun h21 => ?_) (fun h21 => ?_)
              · skip
                have g22 := i_eq h21
                have li23 : (-1 : Int32).toInt = -1 := rfl
                exact K ((-1 : Int32)) _ hI_S13 (by omega) (show (-1 : Int32).toInt = zPol (f 65) (f 64 2) ((f 64 3).toInt - (f 64 2).toInt) from by first | (unfold zPol; rw [if_neg (zno rp0_S1 (by assumption)), if_neg (zno rp0_S3 (by assumption)), if_neg (zno rp0_S5 (by assumption)), if_neg (zno rp0_S7 (by assumption)), if_neg (zno rp0_S9 (by assumption)), if_neg (zno rp0_S11 (by assumption)), if_neg (zno rp0_S13 (by assumption))]; first | done | rfl) | (unfold zPol; rw [if_neg (zno rp0_S1 (by assumption)), if_neg (zno rp0_S3 (by assumption)), if_neg (zno rp0_S5 (by assumption)), if_neg (zno rp0_S7 (by assumption)), if_neg (zno rp0_S9 (by assumption)), if_neg (zno rp0_S11 (by assumption)), if_neg (zno rp0_S13 (by assumption))]) | (omega) | (exfalso; omega)) (show zFm I0 L0 R0 S13 from by first | (exact rp1_S13))
              · skip
                have g24 := i_ne h21
                have li25 : (6 : Int32).toInt = 6 := rfl
                exact K ((6 : Int32)) _ hI_S13 (by omega) (show (6 : Int32).toInt = zPol (f 65) (f 64 2) ((f 64 3).toInt - (f 64 2).toInt) from by first | (unfold zPol; rw [if_neg (zno rp0_S1 (by assumption)), if_neg (zno rp0_S3 (by assumption)), if_neg (zno rp0_S5 (by assumption)), if_neg (zno rp0_S7 (by assumption)), if_neg (zno rp0_S9 (by assumption)), if_neg (zno rp0_S11 (by assumption)), if_pos (zyes rp0_S13 (by assumption))]; first | done | rfl) | (unfold zPol; rw [if_neg (zno rp0_S1 (by assumption)), if_neg (zno rp0_S3 (by assumption)), if_neg (zno rp0_S5 (by assumption)), if_neg (zno rp0_S7 (by assumption)), if_neg (zno rp0_S9 (by assumption)), if_neg (zno rp0_S11 (by assumption)), if_pos (zyes rp0_S13 (by assumption))]) | (omega) | (exfalso; omega)) (show zFm I0 L0 R0 S13 from by first | (exact rp1_S13))
            · skip
              have g26 := i_ne h18
              have li27 : (5 : Int32).toInt = 5 := rfl
              exact K ((5 : Int32)) _ hI_S11 (by omega) (show (5 : Int32).toInt = zPol (f 65) (f 64 2) ((f 64 3).toInt - (f 64 2).toInt) from by first | (unfold zPol; rw [if_neg (zno rp0_S1 (by assumption)), if_neg (zno rp0_S3 (by assumption)), if_neg (zno rp0_S5 (by assumption)), if_neg (zno rp0_S7 (by assumption)), if_neg (zno rp0_S9 (by assumption)), if_pos (zyes rp0_S11 (by assumption))]; first | done | rfl) | (unfold zPol; rw [if_neg (zno rp0_S1 (by assumption)), if_neg (zno rp0_S3 (by assumption)), if_neg (zno rp0_S5 (by assumption)), if_neg (zno rp0_S7 (by assumption)), if_neg (zno rp0_S9 (by assumption)), if_pos (zyes rp0_S11 (by assumption))]) | (omega) | (exfalso; omega)) (show zFm I0 L0 R0 S11 from by first | (exact rp1_S11))
          · skip
            have g28 := i_ne h15
            have li29 : (4 : Int32).toInt = 4 := rfl
            exact K ((4 : Int32)) _ hI_S9 (by omega) (show (4 : Int32).toInt = zPol (f 65) (f 64 2) ((f 64 3).toInt - (f 64 2).toInt) from by first | (unfold zPol; rw [if_neg (zno rp0_S1 (by assumption)), if_neg (zno rp0_S3 (by assumption)), if_neg (zno rp0_S5 (by assumption)), if_neg (zno rp0_S7 (by assumption)), if_pos (zyes rp0_S9 (by assumption))]; first | done | rfl) | (unfold zPol; rw [if_neg (zno rp0_S1 (by assumption)), if_neg (zno rp0_S3 (by assumption)), if_neg (zno rp0_S5 (by assumption)), if_neg (zno rp0_S7 (by assumption)), if_pos (zyes rp0_S9 (by assumption))]) | (omega) | (exfalso; omega)) (show zFm I0 L0 R0 S9 from by first | (exact rp1_S9))
        · skip
          have g30 := i_ne h12
          have li31 : (3 : Int32).toInt = 3 := rfl
          exact K ((3 : Int32)) _ hI_S7 (by omega) (show (3 : Int32).toInt = zPol (f 65) (f 64 2) ((f 64 3).toInt - (f 64 2).toInt) from by first | (unfold zPol; rw [if_neg (zno rp0_S1 (by assumption)), if_neg (zno rp0_S3 (by assumption)), if_neg (zno rp0_S5 (by assumption)), if_pos (zyes rp0_S7 (by assumption))]; first | done | rfl) | (unfold zPol; rw [if_neg (zno rp0_S1 (by assumption)), if_neg (zno rp0_S3 (by assumption)), if_neg (zno rp0_S5 (by assumption)), if_pos (zyes rp0_S7 (by assumption))]) | (omega) | (exfalso; omega)) (show zFm I0 L0 R0 S7 from by first | (exact rp1_S7))
      · skip
        have g32 := i_ne h9
        have li33 : (2 : Int32).toInt = 2 := rfl
        exact K ((2 : Int32)) _ hI_S5 (by omega) (show (2 : Int32).toInt = zPol (f 65) (f 64 2) ((f 64 3).toInt - (f 64 2).toInt) from by first | (unfold zPol; rw [if_neg (zno rp0_S1 (by assumption)), if_neg (zno rp0_S3 (by assumption)), if_pos (zyes rp0_S5 (by assumption))]; first | done | rfl) | (unfold zPol; rw [if_neg (zno rp0_S1 (by assumption)), if_neg (zno rp0_S3 (by assumption)), if_pos (zyes rp0_S5 (by assumption))]) | (omega) | (exfalso; omega)) (show zFm I0 L0 R0 S5 from by first | (exact rp1_S5))
    · skip
      have g34 := i_ne h6
      have li35 : (1 : Int32).toInt = 1 := rfl
      exact K ((1 : Int32)) _ hI_S3 (by omega) (show (1 : Int32).toInt = zPol (f 65) (f 64 2) ((f 64 3).toInt - (f 64 2).toInt) from by first | (unfold zPol; rw [if_neg (zno rp0_S1 (by assumption)), if_pos (zyes rp0_S3 (by assumption))]; first | done | rfl) | (unfold zPol; rw [if_neg (zno rp0_S1 (by assumption)), if_pos (zyes rp0_S3 (by assumption))]) | (omega) | (exfalso; omega)) (show zFm I0 L0 R0 S3 from by first | (exact rp1_S3))
  · skip
    have g36 := i_ne h3
    exact K ((0 : Int32)) _ hI_S1 (by omega) (show (0 : Int32).toInt = zPol (f 65) (f 64 2) ((f 64 3).toInt - (f 64 2).toInt) from by first | (unfold zPol; rw [if_pos (zyes rp0_S1 (by assumption))]; first | done | rfl) | (unfold zPol; rw [if_pos (zyes rp0_S1 (by assumption))]) | (omega) | (exfalso; omega)) (show zFm I0 L0 R0 S1 from by first | (exact rp1_S1))
theorem g_135_64_sq_0 {X : Nat × (Nat → Int32)} {d w : Nat} {S : ma_S} {Q : Option ma_V ⊕ Nat → ma_S → Prop}  (hd : 6 ≤ d) (hw : 122 ≤ w) (hS : zT S) (h : ma_wp X (d - 1) (w - 22) 131 0 [(0, .inr (.inr (some 64))), (1, .inr (.inr (some 13)))] [] S (zi (fun v2 S1 => zT S1 ∧ (if v2 = 0 then (ma_wp X (d - 1) (w - 22) 131 0 [(0, .inr (.inr (some 64))), (1, .inr (.inr (some 14)))] [] S1 (zi (fun v4 S3 => zT S3 ∧ (if v4 = 0 then (ma_wp X (d - 1) (w - 22) 131 0 [(0, .inr (.inr (some 64))), (1, .inr (.inr (some 15)))] [] S3 (zi (fun v6 S5 => zT S5 ∧ (if v6 = 0 then (ma_wp X (d - 1) (w - 22) 131 0 [(0, .inr (.inr (some 64))), (1, .inr (.inr (some 16)))] [] S5 (zi (fun v8 S7 => zT S7 ∧ (if v8 = 0 then (Q (.inl (some (.inl (-1 : Int32)))) S7) else (Q (.inl (some (.inl (3 : Int32)))) S7))) (fun x S9 => Q (.inr x) S9))) else (Q (.inl (some (.inl (2 : Int32)))) S5))) (fun x S9 => Q (.inr x) S9))) else (Q (.inl (some (.inl (1 : Int32)))) S3))) (fun x S9 => Q (.inr x) S9))) else (Q (.inl (some (.inl (0 : Int32)))) S1))) (fun x S9 => Q (.inr x) S9))) : ma_wp X d w 135 0 [(0, .inr (.inr (some 64)))] [] S Q := by
  refine zw_push hm_135 dX11_formToken_0 (v := .inr (.inr (some 64))) rfl ?_
  refine zw_txc hm_135 dX11_formToken_1 txi_11_346 ?_
  refine zw_cv hm_135 dX11_formToken_4 v_11_303_11 hm_131 [.inr (.inr (some 13))] [] rfl (zT_rt hS s_64 rfl) ⟨by omega, by omega⟩ rfl (zw_mono h (zi_go ?_ ?_))
  · intro v2 S1 hv
    obtain ⟨hS1, h⟩ := hv
    refine zw_if0 hm_135 dX11_formToken_7 (t := 12) rfl zc0_eq ?_ ?_
    · intro hc
      rw [if_pos hc] at h
      refine zw_push hm_135 dX11_formToken_12 (v := .inr (.inr (some 64))) rfl ?_
      refine zw_txc hm_135 dX11_formToken_13 txi_11_348 ?_
      refine zw_cv hm_135 dX11_formToken_16 v_11_303_11 hm_131 [.inr (.inr (some 14))] [] rfl (zT_rt hS1 s_64 rfl) ⟨by omega, by omega⟩ rfl (zw_mono h (zi_go ?_ ?_))
      · intro v4 S3 hv
        obtain ⟨hS3, h⟩ := hv
        refine zw_if0 hm_135 dX11_formToken_19 (t := 24) rfl zc0_eq ?_ ?_
        · intro hc
          rw [if_pos hc] at h
          refine zw_push hm_135 dX11_formToken_24 (v := .inr (.inr (some 64))) rfl ?_
          refine zw_txc hm_135 dX11_formToken_25 txi_11_350 ?_
          refine zw_cv hm_135 dX11_formToken_28 v_11_303_11 hm_131 [.inr (.inr (some 15))] [] rfl (zT_rt hS3 s_64 rfl) ⟨by omega, by omega⟩ rfl (zw_mono h (zi_go ?_ ?_))
          · intro v6 S5 hv
            obtain ⟨hS5, h⟩ := hv
            refine zw_if0 hm_135 dX11_formToken_31 (t := 36) rfl zc0_eq ?_ ?_
            · intro hc
              rw [if_pos hc] at h
              refine zw_push hm_135 dX11_formToken_36 (v := .inr (.inr (some 64))) rfl ?_
              refine zw_txc hm_135 dX11_formToken_37 txi_11_352 ?_
              refine zw_cv hm_135 dX11_formToken_40 v_11_303_11 hm_131 [.inr (.inr (some 16))] [] rfl (zT_rt hS5 s_64 rfl) ⟨by omega, by omega⟩ rfl (zw_mono h (zi_go ?_ ?_))
              · intro v8 S7 hv
                obtain ⟨hS7, h⟩ := hv
                refine zw_if0 hm_135 dX11_formToken_43 (t := 50) rfl zc0_eq ?_ ?_
                · intro hc
                  rw [if_pos hc] at h
                  refine zw_push hm_135 dX11_formToken_50 (v := .inl (-1 : Int32)) rfl ?_
                  exact zw_iret hm_135 dX11_formToken_51 h
                · intro hc
                  rw [if_neg hc] at h
                  refine zw_push hm_135 dX11_formToken_46 (v := .inl (3 : Int32)) rfl ?_
                  refine zw_goto hm_135 dX11_formToken_47 (t := 51) rfl ?_
                  exact zw_iret hm_135 dX11_formToken_51 h
              · intro x S9 hx
                exact ⟨by decide, hx⟩
            · intro hc
              rw [if_neg hc] at h
              refine zw_push hm_135 dX11_formToken_34 (v := .inl (2 : Int32)) rfl ?_
              exact zw_iret hm_135 dX11_formToken_35 h
          · intro x S9 hx
            exact ⟨by decide, hx⟩
        · intro hc
          rw [if_neg hc] at h
          refine zw_push hm_135 dX11_formToken_22 (v := .inl (1 : Int32)) rfl ?_
          exact zw_iret hm_135 dX11_formToken_23 h
      · intro x S9 hx
        exact ⟨by decide, hx⟩
    · intro hc
      rw [if_neg hc] at h
      refine zw_push hm_135 dX11_formToken_10 (v := .inl (0 : Int32)) rfl ?_
      exact zw_iret hm_135 dX11_formToken_11 h
  · intro x S9 hx
    exact ⟨by decide, hx⟩
theorem sp_135_64_sq {X : Nat × (Nat → Int32)} {d w : Nat} {f : Nat → Nat → Int32} {r : Nat → Nat → Option Nat} {C Z N : Nat} {Q : Option ma_V ⊕ Nat → ma_S → Prop} {I0 : Nat→Nat→Int32} {L0 : Nat→Nat→Int64} {R0 : zRT} {S : ma_S}  (hd : 6 ≤ d) (hw : 122 ≤ w) (hI : zY0 f r C Z N S) (hpre0 : zFm I0 L0 R0 S) (K : ∀ v S₉, zY0 f r C Z N S₉ → (-1 ≤ v.toInt ∧ v.toInt ≤ 3) → (v.toInt = zForm (f 65) (f 64 2) ((f 64 3).toInt - (f 64 2).toInt)) → (zFm I0 L0 R0 S₉) → Q (.inl (some (.inl v))) S₉) : ma_wp X d w 135 0 [(0, .inr (.inr (some 64)))] [] S Q := by
  refine g_135_64_sq_0  (by omega) (by omega) (zG_T hI) ?_
  refine sp_131_64_13_sq (I0 := I0) (L0 := L0) (R0 := R0) (by omega) (by omega) hI (show zFm I0 L0 R0 S from by first | (exact hpre0)) (fun v2 S1 hI_S1 hp_v2 rp0_S1 rp1_S1 => zi_n ⟨zG_T hI_S1, ?_⟩)
  have rp0_S1 : (v2 = 1 ∧ zwd (f 65) (f 64 2) ((f 64 3).toInt - (f 64 2).toInt) 102 105 114 115 116 0 0) ∨ (v2 = 0 ∧ ¬ zwd (f 65) (f 64 2) ((f 64 3).toInt - (f 64 2).toInt) 102 105 114 115 116 0 0) := rp0_S1
  have rp1_S1 : zFm I0 L0 R0 S1 := rp1_S1
  have b1 := i_bd v2
  have li2 : (0 : Int32).toInt = 0 := rfl
  refine zd (fun h3 => ?_) (fun h3 => ?_)
  · skip
    have g4 := i_eq h3
    refine sp_131_64_14_sq (I0 := I0) (L0 := L0) (R0 := R0) (by omega) (by omega) hI_S1 (show zFm I0 L0 R0 S1 from by first | (exact rp1_S1)) (fun v4 S3 hI_S3 hp_v4 rp0_S3 rp1_S3 => zi_n ⟨zG_T hI_S3, ?_⟩)
    have rp0_S3 : (v4 = 1 ∧ zwd (f 65) (f 64 2) ((f 64 3).toInt - (f 64 2).toInt) 110 101 120 116 0 0 0) ∨ (v4 = 0 ∧ ¬ zwd (f 65) (f 64 2) ((f 64 3).toInt - (f 64 2).toInt) 110 101 120 116 0 0 0) := rp0_S3
    have rp1_S3 : zFm I0 L0 R0 S3 := rp1_S3
    have b5 := i_bd v4
    refine zd (fun h6 => ?_) (fun h6 => ?_)
    · skip
      have g7 := i_eq h6
      refine sp_131_64_15_sq (I0 := I0) (L0 := L0) (R0 := R0) (by omega) (by omega) hI_S3 (show zFm I0 L0 R0 S3 from by first | (exact rp1_S3)) (fun v6 S5 hI_S5 hp_v6 rp0_S5 rp1_S5 => zi_n ⟨zG_T hI_S5, ?_⟩)
      have rp0_S5 : (v6 = 1 ∧ zwd (f 65) (f 64 2) ((f 64 3).toInt - (f 64 2).toInt) 98 101 115 116 0 0 0) ∨ (v6 = 0 ∧ ¬ zwd (f 65) (f 64 2) ((f 64 3).toInt - (f 64 2).toInt) 98 101 115 116 0 0 0) := rp0_S5
      have rp1_S5 : zFm I0 L0 R0 S5 := rp1_S5
      have b8 := i_bd v6
      refine zd (fun h9 => ?_) (fun h9 => ?_)
      · skip
        have g10 := i_eq h9
        refine sp_131_64_16_sq (I0 := I0) (L0 := L0) (R0 := R0) (by omega) (by omega) hI_S5 (show zFm I0 L0 R0 S5 from by first | (exact rp1_S5)) (fun v8 S7 hI_S7 hp_v8 rp0_S7 rp1_S7 => zi_n ⟨zG_T hI_S7, ?_⟩)
        have rp0_S7 : (v8 = 1 ∧ zwd (f 65) (f 64 2) ((f 64 3).toInt - (f 64 2).toInt) 119 111 114 115 116 0 0) ∨ (v8 = 0 ∧ ¬ zwd (f 65) (f 64 2) ((f 64 3).toInt - (f 64 2).toInt) 119 111 114 115 116 0 0) := rp0_S7
        have rp1_S7 : zFm I0 L0 R0 S7 := rp1_S7
        have b11 := i_bd v8
        refine zd (fun h12 => ?_) (fun h12 => ?_)
        · skip
          have g13 := i_eq h12
          have li14 : (-1 : Int32).toInt = -1 := rfl
          exact K ((-1 : Int32)) _ hI_S7 (by omega) (show (-1 : Int32).toInt = zForm (f 65) (f 64 2) ((f 64 3).toInt - (f 64 2).toInt) from by first | (unfold zForm; rw [if_neg (zno rp0_S1 (by assumption)), if_neg (zno rp0_S3 (by assumption)), if_neg (zno rp0_S5 (by assumption)), if_neg (zno rp0_S7 (by assumption))]; first | done | rfl) | (unfold zForm; rw [if_neg (zno rp0_S1 (by assumption)), if_neg (zno rp0_S3 (by assumption)), if_neg (zno rp0_S5 (by assumption)), if_neg (zno rp0_S7 (by assumption))]) | (omega) | (exfalso; omega)) (show zFm I0 L0 R0 S7 from by first | (exact rp1_S7))
        · skip
          have g15 := i_ne h12
          have li16 : (3 : Int32).toInt = 3 := rfl
          exact K ((3 : Int32)) _ hI_S7 (by omega) (show (3 : Int32).toInt = zForm (f 65) (f 64 2) ((f 64 3).toInt - (f 64 2).toInt) from by first | (unfold zForm; rw [if_neg (zno rp0_S1 (by assumption)), if_neg (zno rp0_S3 (by assumption)), if_neg (zno rp0_S5 (by assumption)), if_pos (zyes rp0_S7 (by assumption))]; first | done | rfl) | (unfold zForm; rw [if_neg (zno rp0_S1 (by assumption)), if_neg (zno rp0_S3 (by assumption)), if_neg (zno rp0_S5 (by assumption)), if_pos (zyes rp0_S7 (by assumption))]) | (omega) | (exfalso; omega)) (show zFm I0 L0 R0 S7 from by first | (exact rp1_S7))
      · skip
        have g17 := i_ne h9
        have li18 : (2 : Int32).toInt = 2 := rfl
        exact K ((2 : Int32)) _ hI_S5 (by omega) (show (2 : Int32).toInt = zForm (f 65) (f 64 2) ((f 64 3).toInt - (f 64 2).toInt) from by first | (unfold zForm; rw [if_neg (zno rp0_S1 (by assumption)), if_neg (zno rp0_S3 (by assumption)), if_pos (zyes rp0_S5 (by assumption))]; first | done | rfl) | (unfold zForm; rw [if_neg (zno rp0_S1 (by assumption)), if_neg (zno rp0_S3 (by assumption)), if_pos (zyes rp0_S5 (by assumption))]) | (omega) | (exfalso; omega)) (show zFm I0 L0 R0 S5 from by first | (exact rp1_S5))
    · skip
      have g19 := i_ne h6
      have li20 : (1 : Int32).toInt = 1 := rfl
      exact K ((1 : Int32)) _ hI_S3 (by omega) (show (1 : Int32).toInt = zForm (f 65) (f 64 2) ((f 64 3).toInt - (f 64 2).toInt) from by first | (unfold zForm; rw [if_neg (zno rp0_S1 (by assumption)), if_pos (zyes rp0_S3 (by assumption))]; first | done | rfl) | (unfold zForm; rw [if_neg (zno rp0_S1 (by assumption)), if_pos (zyes rp0_S3 (by assumption))]) | (omega) | (exfalso; omega)) (show zFm I0 L0 R0 S3 from by first | (exact rp1_S3))
  · skip
    have g21 := i_ne h3
    exact K ((0 : Int32)) _ hI_S1 (by omega) (show (0 : Int32).toInt = zForm (f 65) (f 64 2) ((f 64 3).toInt - (f 64 2).toInt) from by first | (unfold zForm; rw [if_pos (zyes rp0_S1 (by assumption))]; first | done | rfl) | (unfold zForm; rw [if_pos (zyes rp0_S1 (by assumption))]) | (omega) | (exfalso; omega)) (show zFm I0 L0 R0 S1 from by first | (exact rp1_S1))

