/-! from 95.i19 -/
/-! the class opens a heap (written by wip/tools/gen18c.py) -/
theorem g_131_64_14_sq_0 {X : Nat × (Nat → Int32)} {d w : Nat} {S : ma_S} {Q : Option ma_V ⊕ Nat → ma_S → Prop}  (hd : 5 ≤ d) (hw : 100 ≤ w) (hS : zT S) (h : if ((mI S 64 3) - (mI S 64 2)) = (4 : Int32) then (if (100 : Int32) ≤ ((mI S 64 2) + (0 : Int32)) then (Q (.inl (some (.inl (1 : Int32)))) S) else ((0 ≤ ((mI S 64 2) + (0 : Int32)) ∧ ((mI S 64 2) + (0 : Int32)).toNatClampNeg < 100) ∧ (if (mI S 65 ((mI S 64 2) + (0 : Int32)).toNatClampNeg) = (110 : Int32) then (if (100 : Int32) ≤ ((mI S 64 2) + (1 : Int32)) then (Q (.inl (some (.inl (1 : Int32)))) S) else ((0 ≤ ((mI S 64 2) + (1 : Int32)) ∧ ((mI S 64 2) + (1 : Int32)).toNatClampNeg < 100) ∧ (if (mI S 65 ((mI S 64 2) + (1 : Int32)).toNatClampNeg) = (101 : Int32) then (if (100 : Int32) ≤ ((mI S 64 2) + (2 : Int32)) then (Q (.inl (some (.inl (1 : Int32)))) S) else ((0 ≤ ((mI S 64 2) + (2 : Int32)) ∧ ((mI S 64 2) + (2 : Int32)).toNatClampNeg < 100) ∧ (if (mI S 65 ((mI S 64 2) + (2 : Int32)).toNatClampNeg) = (120 : Int32) then (if (100 : Int32) ≤ ((mI S 64 2) + (3 : Int32)) then (Q (.inl (some (.inl (1 : Int32)))) S) else ((0 ≤ ((mI S 64 2) + (3 : Int32)) ∧ ((mI S 64 2) + (3 : Int32)).toNatClampNeg < 100) ∧ (if (mI S 65 ((mI S 64 2) + (3 : Int32)).toNatClampNeg) = (116 : Int32) then (Q (.inl (some (.inl (1 : Int32)))) S) else (Q (.inl (some (.inl (0 : Int32)))) S)))) else (Q (.inl (some (.inl (0 : Int32)))) S)))) else (Q (.inl (some (.inl (0 : Int32)))) S)))) else (Q (.inl (some (.inl (0 : Int32)))) S)))) else (Q (.inl (some (.inl (0 : Int32)))) S)) : ma_wp X d w 131 0 [(0, .inr (.inr (some 64))), (1, .inr (.inr (some 14)))] [] S Q := by
  refine zw_push hm_131 dX11_tokenIs_0 (v := .inr (.inr (some 64))) rfl ?_
  refine zw_gf hm_131 dX11_tokenIs_1 (v := .inl (mI S 64 3)) (zT_is hS s_64) (zT_t hS s_64) rfl f_11_275_11 rfl ?_
  refine zw_push hm_131 dX11_tokenIs_4 (v := .inr (.inr (some 64))) rfl ?_
  refine zw_gf hm_131 dX11_tokenIs_5 (v := .inl (mI S 64 2)) (zT_is hS s_64) (zT_t hS s_64) rfl f_11_92_11 rfl ?_
  refine zw_stk hm_131 dX11_tokenIs_8 (st₉ := [.inl ((mI S 64 3) - (mI S 64 2))]) rfl rfl ?_
  refine zw_push hm_131 dX11_tokenIs_9 (v := .inr (.inr (some 14))) rfl ?_
  refine zw_cv hm_131 dX11_tokenIs_10 v_11_288_17 hm_277 [] [.inl ((mI S 64 3) - (mI S 64 2))] rfl rfl ⟨by omega, by omega⟩ rfl (tx_len (v := (4 : Int32)) (by decide) (by omega) (by omega) rfl rfl ?_)
  show ma_wp X d w 131 13 [(0, .inr (.inr (some 64))), (1, .inr (.inr (some 14)))] [.inl (4 : Int32), .inl ((mI S 64 3) - (mI S 64 2))] S _
  refine zw_if2 hm_131 dX11_tokenIs_13 (t := 18) rfl zc2_eq ?_ ?_
  · intro hc
    rw [if_pos hc] at h
    refine zw_push hm_131 dX11_tokenIs_18 (v := .inl (0 : Int32)) rfl ?_
    refine zw_sto hm_131 dX11_tokenIs_19 [(2, .inl (0 : Int32)), (0, .inr (.inr (some 64))), (1, .inr (.inr (some 14)))] rfl rfl rfl ?_
    refine zw_push hm_131 dX11_tokenIs_20 (v := .inl (0 : Int32)) rfl ?_
    refine zw_push hm_131 dX11_tokenIs_21 (v := .inr (.inr (some 14))) rfl ?_
    refine zw_cv hm_131 dX11_tokenIs_22 v_11_288_17 hm_277 [] [.inl (0 : Int32)] rfl rfl ⟨by omega, by omega⟩ rfl (tx_len (v := (4 : Int32)) (by decide) (by omega) (by omega) rfl rfl ?_)
    show ma_wp X d w 131 25 [(2, .inl (0 : Int32)), (0, .inr (.inr (some 64))), (1, .inr (.inr (some 14)))] [.inl (4 : Int32), .inl (0 : Int32)] S _
    refine zw_if2 hm_131 dX11_tokenIs_25 (t := 66) rfl zc2_ge (fun hc => absurd hc (by decide)) (fun _ => ?_)
    refine zw_push hm_131 dX11_tokenIs_28 (v := .inr (.inr (some 64))) rfl ?_
    refine zw_gf hm_131 dX11_tokenIs_29 (v := .inl (mI S 64 2)) (zT_is hS s_64) (zT_t hS s_64) rfl f_11_92_11 rfl ?_
    refine zw_push hm_131 dX11_tokenIs_32 (v := .inl (0 : Int32)) rfl ?_
    refine zw_stk hm_131 dX11_tokenIs_33 (st₉ := [.inl ((mI S 64 2) + (0 : Int32))]) rfl rfl ?_
    refine zw_push hm_131 dX11_tokenIs_34 (v := .inl (100 : Int32)) rfl ?_
    refine zw_if2 hm_131 dX11_tokenIs_36 (t := 66) rfl zc2_ge ?_ ?_
    · intro hc
      rw [if_pos hc] at h
      refine zw_push hm_131 dX11_tokenIs_66 (v := .inl (1 : Int32)) rfl ?_
      exact zw_bret hm_131 dX11_tokenIs_67 (by decide) h
    · intro hc
      rw [if_neg hc] at h
      refine zw_push hm_131 dX11_tokenIs_39 (v := .inr (.inr (some 64))) rfl ?_
      refine zw_gf hm_131 dX11_tokenIs_40 (v := .inr (.inr (some 65))) (zT_is hS s_64) (zT_t hS s_64) rfl f_11_9_11 (zT_f hS r_64_0) ?_
      refine zw_push hm_131 dX11_tokenIs_43 (v := .inr (.inr (some 64))) rfl ?_
      refine zw_gf hm_131 dX11_tokenIs_44 (v := .inl (mI S 64 2)) (zT_is hS s_64) (zT_t hS s_64) rfl f_11_92_11 rfl ?_
      refine zw_push hm_131 dX11_tokenIs_47 (v := .inl (0 : Int32)) rfl ?_
      refine zw_stk hm_131 dX11_tokenIs_48 (st₉ := [.inl ((mI S 64 2) + (0 : Int32)), .inr (.inr (some 65))]) rfl rfl ?_
      obtain ⟨hg, h⟩ := h
      refine zw_ba hm_131 dX11_tokenIs_49 (zT_is hS s_65) (zT_h hS s_65) rfl rfl hg ?_
      show ma_wp X d w 131 50 [(2, .inl (0 : Int32)), (0, .inr (.inr (some 64))), (1, .inr (.inr (some 14)))] [.inl (mI S 65 ((mI S 64 2) + (0 : Int32)).toNatClampNeg)] S _
      refine zw_push hm_131 dX11_tokenIs_50 (v := .inr (.inr (some 14))) rfl ?_
      refine zw_push hm_131 dX11_tokenIs_51 (v := .inl (0 : Int32)) rfl ?_
      refine zw_cv hm_131 dX11_tokenIs_52 v_11_293_17 hm_279 [.inl (0 : Int32)] [.inl (mI S 65 ((mI S 64 2) + (0 : Int32)).toNatClampNeg)] rfl rfl ⟨by omega, by omega⟩ rfl (tx_char (v := (110 : Int32)) (by decide) (by omega) (by omega) (by decide) (by decide) (by decide) (by decide) ?_)
      show ma_wp X d w 131 55 [(2, .inl (0 : Int32)), (0, .inr (.inr (some 64))), (1, .inr (.inr (some 14)))] [.inl (110 : Int32), .inl (mI S 65 ((mI S 64 2) + (0 : Int32)).toNatClampNeg)] S _
      refine zw_if2 hm_131 dX11_tokenIs_55 (t := 60) rfl zc2_eq ?_ ?_
      · intro hc
        rw [if_pos hc] at h
        refine zw_sto hm_131 dX11_tokenIs_60 [(2, .inl (1 : Int32)), (0, .inr (.inr (some 64))), (1, .inr (.inr (some 14)))] rfl rfl rfl ?_
        refine zw_goto hm_131 dX11_tokenIs_63 (t := 20) rfl ?_
        refine zw_push hm_131 dX11_tokenIs_20 (v := .inl (1 : Int32)) rfl ?_
        refine zw_push hm_131 dX11_tokenIs_21 (v := .inr (.inr (some 14))) rfl ?_
        refine zw_cv hm_131 dX11_tokenIs_22 v_11_288_17 hm_277 [] [.inl (1 : Int32)] rfl rfl ⟨by omega, by omega⟩ rfl (tx_len (v := (4 : Int32)) (by decide) (by omega) (by omega) rfl rfl ?_)
        show ma_wp X d w 131 25 [(2, .inl (1 : Int32)), (0, .inr (.inr (some 64))), (1, .inr (.inr (some 14)))] [.inl (4 : Int32), .inl (1 : Int32)] S _
        refine zw_if2 hm_131 dX11_tokenIs_25 (t := 66) rfl zc2_ge (fun hc => absurd hc (by decide)) (fun _ => ?_)
        refine zw_push hm_131 dX11_tokenIs_28 (v := .inr (.inr (some 64))) rfl ?_
        refine zw_gf hm_131 dX11_tokenIs_29 (v := .inl (mI S 64 2)) (zT_is hS s_64) (zT_t hS s_64) rfl f_11_92_11 rfl ?_
        refine zw_push hm_131 dX11_tokenIs_32 (v := .inl (1 : Int32)) rfl ?_
        refine zw_stk hm_131 dX11_tokenIs_33 (st₉ := [.inl ((mI S 64 2) + (1 : Int32))]) rfl rfl ?_
        refine zw_push hm_131 dX11_tokenIs_34 (v := .inl (100 : Int32)) rfl ?_
        refine zw_if2 hm_131 dX11_tokenIs_36 (t := 66) rfl zc2_ge ?_ ?_
        · intro hc
          rw [if_pos hc] at h
          refine zw_push hm_131 dX11_tokenIs_66 (v := .inl (1 : Int32)) rfl ?_
          exact zw_bret hm_131 dX11_tokenIs_67 (by decide) h
        · intro hc
          rw [if_neg hc] at h
          refine zw_push hm_131 dX11_tokenIs_39 (v := .inr (.inr (some 64))) rfl ?_
          refine zw_gf hm_131 dX11_tokenIs_40 (v := .inr (.inr (some 65))) (zT_is hS s_64) (zT_t hS s_64) rfl f_11_9_11 (zT_f hS r_64_0) ?_
          refine zw_push hm_131 dX11_tokenIs_43 (v := .inr (.inr (some 64))) rfl ?_
          refine zw_gf hm_131 dX11_tokenIs_44 (v := .inl (mI S 64 2)) (zT_is hS s_64) (zT_t hS s_64) rfl f_11_92_11 rfl ?_
          refine zw_push hm_131 dX11_tokenIs_47 (v := .inl (1 : Int32)) rfl ?_
          refine zw_stk hm_131 dX11_tokenIs_48 (st₉ := [.inl ((mI S 64 2) + (1 : Int32)), .inr (.inr (some 65))]) rfl rfl ?_
          obtain ⟨hg, h⟩ := h
          refine zw_ba hm_131 dX11_tokenIs_49 (zT_is hS s_65) (zT_h hS s_65) rfl rfl hg ?_
          show ma_wp X d w 131 50 [(2, .inl (1 : Int32)), (0, .inr (.inr (some 64))), (1, .inr (.inr (some 14)))] [.inl (mI S 65 ((mI S 64 2) + (1 : Int32)).toNatClampNeg)] S _
          refine zw_push hm_131 dX11_tokenIs_50 (v := .inr (.inr (some 14))) rfl ?_
          refine zw_push hm_131 dX11_tokenIs_51 (v := .inl (1 : Int32)) rfl ?_
          refine zw_cv hm_131 dX11_tokenIs_52 v_11_293_17 hm_279 [.inl (1 : Int32)] [.inl (mI S 65 ((mI S 64 2) + (1 : Int32)).toNatClampNeg)] rfl rfl ⟨by omega, by omega⟩ rfl (tx_char (v := (101 : Int32)) (by decide) (by omega) (by omega) (by decide) (by decide) (by decide) (by decide) ?_)
          show ma_wp X d w 131 55 [(2, .inl (1 : Int32)), (0, .inr (.inr (some 64))), (1, .inr (.inr (some 14)))] [.inl (101 : Int32), .inl (mI S 65 ((mI S 64 2) + (1 : Int32)).toNatClampNeg)] S _
          refine zw_if2 hm_131 dX11_tokenIs_55 (t := 60) rfl zc2_eq ?_ ?_
          · intro hc
            rw [if_pos hc] at h
            refine zw_sto hm_131 dX11_tokenIs_60 [(2, .inl (2 : Int32)), (0, .inr (.inr (some 64))), (1, .inr (.inr (some 14)))] rfl rfl rfl ?_
            refine zw_goto hm_131 dX11_tokenIs_63 (t := 20) rfl ?_
            refine zw_push hm_131 dX11_tokenIs_20 (v := .inl (2 : Int32)) rfl ?_
            refine zw_push hm_131 dX11_tokenIs_21 (v := .inr (.inr (some 14))) rfl ?_
            refine zw_cv hm_131 dX11_tokenIs_22 v_11_288_17 hm_277 [] [.inl (2 : Int32)] rfl rfl ⟨by omega, by omega⟩ rfl (tx_len (v := (4 : Int32)) (by decide) (by omega) (by omega) rfl rfl ?_)
            show ma_wp X d w 131 25 [(2, .inl (2 : Int32)), (0, .inr (.inr (some 64))), (1, .inr (.inr (some 14)))] [.inl (4 : Int32), .inl (2 : Int32)] S _
            refine zw_if2 hm_131 dX11_tokenIs_25 (t := 66) rfl zc2_ge (fun hc => absurd hc (by decide)) (fun _ => ?_)
            refine zw_push hm_131 dX11_tokenIs_28 (v := .inr (.inr (some 64))) rfl ?_
            refine zw_gf hm_131 dX11_tokenIs_29 (v := .inl (mI S 64 2)) (zT_is hS s_64) (zT_t hS s_64) rfl f_11_92_11 rfl ?_
            refine zw_push hm_131 dX11_tokenIs_32 (v := .inl (2 : Int32)) rfl ?_
            refine zw_stk hm_131 dX11_tokenIs_33 (st₉ := [.inl ((mI S 64 2) + (2 : Int32))]) rfl rfl ?_
            refine zw_push hm_131 dX11_tokenIs_34 (v := .inl (100 : Int32)) rfl ?_
            refine zw_if2 hm_131 dX11_tokenIs_36 (t := 66) rfl zc2_ge ?_ ?_
            · intro hc
              rw [if_pos hc] at h
              refine zw_push hm_131 dX11_tokenIs_66 (v := .inl (1 : Int32)) rfl ?_
              exact zw_bret hm_131 dX11_tokenIs_67 (by decide) h
            · intro hc
              rw [if_neg hc] at h
              refine zw_push hm_131 dX11_tokenIs_39 (v := .inr (.inr (some 64))) rfl ?_
              refine zw_gf hm_131 dX11_tokenIs_40 (v := .inr (.inr (some 65))) (zT_is hS s_64) (zT_t hS s_64) rfl f_11_9_11 (zT_f hS r_64_0) ?_
              refine zw_push hm_131 dX11_tokenIs_43 (v := .inr (.inr (some 64))) rfl ?_
              refine zw_gf hm_131 dX11_tokenIs_44 (v := .inl (mI S 64 2)) (zT_is hS s_64) (zT_t hS s_64) rfl f_11_92_11 rfl ?_
              refine zw_push hm_131 dX11_tokenIs_47 (v := .inl (2 : Int32)) rfl ?_
              refine zw_stk hm_131 dX11_tokenIs_48 (st₉ := [.inl ((mI S 64 2) + (2 : Int32)), .inr (.inr (some 65))]) rfl rfl ?_
              obtain ⟨hg, h⟩ := h
              refine zw_ba hm_131 dX11_tokenIs_49 (zT_is hS s_65) (zT_h hS s_65) rfl rfl hg ?_
              show ma_wp X d w 131 50 [(2, .inl (2 : Int32)), (0, .inr (.inr (some 64))), (1, .inr (.inr (some 14)))] [.inl (mI S 65 ((mI S 64 2) + (2 : Int32)).toNatClampNeg)] S _
              refine zw_push hm_131 dX11_tokenIs_50 (v := .inr (.inr (some 14))) rfl ?_
              refine zw_push hm_131 dX11_tokenIs_51 (v := .inl (2 : Int32)) rfl ?_
              refine zw_cv hm_131 dX11_tokenIs_52 v_11_293_17 hm_279 [.inl (2 : Int32)] [.inl (mI S 65 ((mI S 64 2) + (2 : Int32)).toNatClampNeg)] rfl rfl ⟨by omega, by omega⟩ rfl (tx_char (v := (120 : Int32)) (by decide) (by omega) (by omega) (by decide) (by decide) (by decide) (by decide) ?_)
              show ma_wp X d w 131 55 [(2, .inl (2 : Int32)), (0, .inr (.inr (some 64))), (1, .inr (.inr (some 14)))] [.inl (120 : Int32), .inl (mI S 65 ((mI S 64 2) + (2 : Int32)).toNatClampNeg)] S _
              refine zw_if2 hm_131 dX11_tokenIs_55 (t := 60) rfl zc2_eq ?_ ?_
              · intro hc
                rw [if_pos hc] at h
                refine zw_sto hm_131 dX11_tokenIs_60 [(2, .inl (3 : Int32)), (0, .inr (.inr (some 64))), (1, .inr (.inr (some 14)))] rfl rfl rfl ?_
                refine zw_goto hm_131 dX11_tokenIs_63 (t := 20) rfl ?_
                refine zw_push hm_131 dX11_tokenIs_20 (v := .inl (3 : Int32)) rfl ?_
                refine zw_push hm_131 dX11_tokenIs_21 (v := .inr (.inr (some 14))) rfl ?_
                refine zw_cv hm_131 dX11_tokenIs_22 v_11_288_17 hm_277 [] [.inl (3 : Int32)] rfl rfl ⟨by omega, by omega⟩ rfl (tx_len (v := (4 : Int32)) (by decide) (by omega) (by omega) rfl rfl ?_)
                show ma_wp X d w 131 25 [(2, .inl (3 : Int32)), (0, .inr (.inr (some 64))), (1, .inr (.inr (some 14)))] [.inl (4 : Int32), .inl (3 : Int32)] S _
                refine zw_if2 hm_131 dX11_tokenIs_25 (t := 66) rfl zc2_ge (fun hc => absurd hc (by decide)) (fun _ => ?_)
                refine zw_push hm_131 dX11_tokenIs_28 (v := .inr (.inr (some 64))) rfl ?_
                refine zw_gf hm_131 dX11_tokenIs_29 (v := .inl (mI S 64 2)) (zT_is hS s_64) (zT_t hS s_64) rfl f_11_92_11 rfl ?_
                refine zw_push hm_131 dX11_tokenIs_32 (v := .inl (3 : Int32)) rfl ?_
                refine zw_stk hm_131 dX11_tokenIs_33 (st₉ := [.inl ((mI S 64 2) + (3 : Int32))]) rfl rfl ?_
                refine zw_push hm_131 dX11_tokenIs_34 (v := .inl (100 : Int32)) rfl ?_
                refine zw_if2 hm_131 dX11_tokenIs_36 (t := 66) rfl zc2_ge ?_ ?_
                · intro hc
                  rw [if_pos hc] at h
                  refine zw_push hm_131 dX11_tokenIs_66 (v := .inl (1 : Int32)) rfl ?_
                  exact zw_bret hm_131 dX11_tokenIs_67 (by decide) h
                · intro hc
                  rw [if_neg hc] at h
                  refine zw_push hm_131 dX11_tokenIs_39 (v := .inr (.inr (some 64))) rfl ?_
                  refine zw_gf hm_131 dX11_tokenIs_40 (v := .inr (.inr (some 65))) (zT_is hS s_64) (zT_t hS s_64) rfl f_11_9_11 (zT_f hS r_64_0) ?_
                  refine zw_push hm_131 dX11_tokenIs_43 (v := .inr (.inr (some 64))) rfl ?_
                  refine zw_gf hm_131 dX11_tokenIs_44 (v := .inl (mI S 64 2)) (zT_is hS s_64) (zT_t hS s_64) rfl f_11_92_11 rfl ?_
                  refine zw_push hm_131 dX11_tokenIs_47 (v := .inl (3 : Int32)) rfl ?_
                  refine zw_stk hm_131 dX11_tokenIs_48 (st₉ := [.inl ((mI S 64 2) + (3 : Int32)), .inr (.inr (some 65))]) rfl rfl ?_
                  obtain ⟨hg, h⟩ := h
                  refine zw_ba hm_131 dX11_tokenIs_49 (zT_is hS s_65) (zT_h hS s_65) rfl rfl hg ?_
                  show ma_wp X d w 131 50 [(2, .inl (3 : Int32)), (0, .inr (.inr (some 64))), (1, .inr (.inr (some 14)))] [.inl (mI S 65 ((mI S 64 2) + (3 : Int32)).toNatClampNeg)] S _
                  refine zw_push hm_131 dX11_tokenIs_50 (v := .inr (.inr (some 14))) rfl ?_
                  refine zw_push hm_131 dX11_tokenIs_51 (v := .inl (3 : Int32)) rfl ?_
                  refine zw_cv hm_131 dX11_tokenIs_52 v_11_293_17 hm_279 [.inl (3 : Int32)] [.inl (mI S 65 ((mI S 64 2) + (3 : Int32)).toNatClampNeg)] rfl rfl ⟨by omega, by omega⟩ rfl (tx_char (v := (116 : Int32)) (by decide) (by omega) (by omega) (by decide) (by decide) (by decide) (by decide) ?_)
                  show ma_wp X d w 131 55 [(2, .inl (3 : Int32)), (0, .inr (.inr (some 64))), (1, .inr (.inr (some 14)))] [.inl (116 : Int32), .inl (mI S 65 ((mI S 64 2) + (3 : Int32)).toNatClampNeg)] S _
                  refine zw_if2 hm_131 dX11_tokenIs_55 (t := 60) rfl zc2_eq ?_ ?_
                  · intro hc
                    rw [if_pos hc] at h
                    refine zw_sto hm_131 dX11_tokenIs_60 [(2, .inl (4 : Int32)), (0, .inr (.inr (some 64))), (1, .inr (.inr (some 14)))] rfl rfl rfl ?_
                    refine zw_goto hm_131 dX11_tokenIs_63 (t := 20) rfl ?_
                    refine zw_push hm_131 dX11_tokenIs_20 (v := .inl (4 : Int32)) rfl ?_
                    refine zw_push hm_131 dX11_tokenIs_21 (v := .inr (.inr (some 14))) rfl ?_
                    refine zw_cv hm_131 dX11_tokenIs_22 v_11_288_17 hm_277 [] [.inl (4 : Int32)] rfl rfl ⟨by omega, by omega⟩ rfl (tx_len (v := (4 : Int32)) (by decide) (by omega) (by omega) rfl rfl ?_)
                    show ma_wp X d w 131 25 [(2, .inl (4 : Int32)), (0, .inr (.inr (some 64))), (1, .inr (.inr (some 14)))] [.inl (4 : Int32), .inl (4 : Int32)] S _
                    refine zw_if2 hm_131 dX11_tokenIs_25 (t := 66) rfl zc2_ge (fun _ => ?_) (fun hc => absurd (by decide) hc)
                    refine zw_push hm_131 dX11_tokenIs_66 (v := .inl (1 : Int32)) rfl ?_
                    exact zw_bret hm_131 dX11_tokenIs_67 (by decide) h
                  · intro hc
                    rw [if_neg hc] at h
                    refine zw_push hm_131 dX11_tokenIs_58 (v := .inl (0 : Int32)) rfl ?_
                    exact zw_bret hm_131 dX11_tokenIs_59 (by decide) h
              · intro hc
                rw [if_neg hc] at h
                refine zw_push hm_131 dX11_tokenIs_58 (v := .inl (0 : Int32)) rfl ?_
                exact zw_bret hm_131 dX11_tokenIs_59 (by decide) h
          · intro hc
            rw [if_neg hc] at h
            refine zw_push hm_131 dX11_tokenIs_58 (v := .inl (0 : Int32)) rfl ?_
            exact zw_bret hm_131 dX11_tokenIs_59 (by decide) h
      · intro hc
        rw [if_neg hc] at h
        refine zw_push hm_131 dX11_tokenIs_58 (v := .inl (0 : Int32)) rfl ?_
        exact zw_bret hm_131 dX11_tokenIs_59 (by decide) h
  · intro hc
    rw [if_neg hc] at h
    refine zw_push hm_131 dX11_tokenIs_16 (v := .inl (0 : Int32)) rfl ?_
    exact zw_bret hm_131 dX11_tokenIs_17 (by decide) h
theorem sp_131_64_14_sq {X : Nat × (Nat → Int32)} {d w : Nat} {f : Nat → Nat → Int32} {r : Nat → Nat → Option Nat} {C Z N : Nat} {Q : Option ma_V ⊕ Nat → ma_S → Prop} {I0 : Nat→Nat→Int32} {L0 : Nat→Nat→Int64} {R0 : zRT} {S : ma_S}  (hd : 5 ≤ d) (hw : 100 ≤ w) (hI : zY0 f r C Z N S) (hpre0 : zFm I0 L0 R0 S) (K : ∀ v S₉, zY0 f r C Z N S₉ → (v = 0 ∨ v = 1) → ((v = 1 ∧ zwd (f 65) (f 64 2) ((f 64 3).toInt - (f 64 2).toInt) 110 101 120 116 0 0 0) ∨ (v = 0 ∧ ¬ zwd (f 65) (f 64 2) ((f 64 3).toInt - (f 64 2).toInt) 110 101 120 116 0 0 0)) → (zFm I0 L0 R0 S₉) → Q (.inl (some (.inl v))) S₉) : ma_wp X d w 131 0 [(0, .inr (.inr (some 64))), (1, .inr (.inr (some 14)))] [] S Q := by
  refine g_131_64_14_sq_0  (by omega) (by omega) (zG_T hI) ?_
  have q1 : (mI S 64 3).toInt = (f 64 3).toInt := zG_zi hI rfl
  have f2 := zG_s hI (0) (100) (c := 64) (k := 3) (by decide)
  have q3 : (mI S 64 2).toInt = (f 64 2).toInt := zG_zi hI rfl
  have f4 := zG_s hI (0) (100) (c := 64) (k := 2) (by decide)
  first | have e5 : ((mI S 64 3) - (mI S 64 2)).toInt = (mI S 64 3).toInt - (mI S 64 2).toInt := i_sub (by omega) (by omega) | have b6 := i_bd ((mI S 64 3) - (mI S 64 2))
  have li7 : (4 : Int32).toInt = 4 := rfl
  refine zd (fun h8 => ?_) (fun h8 => ?_)
  · skip
    have g9 := i_eq h8
    have li10 : (100 : Int32).toInt = 100 := rfl
    first | have e11 : ((mI S 64 2) + (0 : Int32)).toInt = (mI S 64 2).toInt + (0) := i_addk rfl (by omega) (by omega) | have b12 := i_bd ((mI S 64 2) + (0 : Int32))
    refine zd (fun h13 => ?_) (fun h13 => ?_)
    · skip
      have g14 := i_le h13
      have li15 : (1 : Int32).toInt = 1 := rfl
      exact K ((1 : Int32)) _ hI (by decide) (show ((1 : Int32) = 1 ∧ zwd (f 65) (f 64 2) ((f 64 3).toInt - (f 64 2).toInt) 110 101 120 116 0 0 0) ∨ ((1 : Int32) = 0 ∧ ¬ zwd (f 65) (f 64 2) ((f 64 3).toInt - (f 64 2).toInt) 110 101 120 116 0 0 0) from by first | (rw [show f 65 = mI S 65 from funext (fun k => (zG_z hI rfl).symm), show f 64 2 = mI S 64 2 from (zG_z hI rfl).symm, show f 64 3 = mI S 64 3 from (zG_z hI rfl).symm]; exact Or.inl ⟨rfl, by rw [if_pos rfl]; omega, (by assumption), (by assumption), (by assumption), (by assumption), Or.inl rfl, Or.inl rfl, Or.inl rfl⟩) | (omega) | (exfalso; omega)) (show zFm I0 L0 R0 S from by first | (exact hpre0))
    · skip
      have g16 := i_nle h13
      refine ⟨i_ix (by omega) (by omega), ?_⟩
      have q17 : (mI S 65 ((mI S 64 2) + (0 : Int32)).toNatClampNeg).toInt = (f 65 ((mI S 64 2) + (0 : Int32)).toNatClampNeg).toInt := zG_zi hI rfl
      have b18 := i_bd (mI S 65 ((mI S 64 2) + (0 : Int32)).toNatClampNeg)
      have li19 : (110 : Int32).toInt = 110 := rfl
      refine zd (fun h20 => ?_) (fun h20 => ?_)
      · skip
        have g21 := i_eq h20
        first | have e22 : ((mI S 64 2) + (1 : Int32)).toInt = (mI S 64 2).toInt + (1) := i_addk rfl (by omega) (by omega) | have b23 := i_bd ((mI S 64 2) + (1 : Int32))
        refine zd (fun h24 => ?_) (fun h24 => ?_)
        · skip
          have g25 := i_le h24
          have li26 : (1 : Int32).toInt = 1 := rfl
          exact K ((1 : Int32)) _ hI (by decide) (show ((1 : Int32) = 1 ∧ zwd (f 65) (f 64 2) ((f 64 3).toInt - (f 64 2).toInt) 110 101 120 116 0 0 0) ∨ ((1 : Int32) = 0 ∧ ¬ zwd (f 65) (f 64 2) ((f 64 3).toInt - (f 64 2).toInt) 110 101 120 116 0 0 0) from by first | (rw [show f 65 = mI S 65 from funext (fun k => (zG_z hI rfl).symm), show f 64 2 = mI S 64 2 from (zG_z hI rfl).symm, show f 64 3 = mI S 64 3 from (zG_z hI rfl).symm]; exact Or.inl ⟨rfl, by rw [if_pos rfl]; omega, (by assumption), (by assumption), (by assumption), (by assumption), Or.inl rfl, Or.inl rfl, Or.inl rfl⟩) | (omega) | (exfalso; omega)) (show zFm I0 L0 R0 S from by first | (exact hpre0))
        · skip
          have g27 := i_nle h24
          refine ⟨i_ix (by omega) (by omega), ?_⟩
          have q28 : (mI S 65 ((mI S 64 2) + (1 : Int32)).toNatClampNeg).toInt = (f 65 ((mI S 64 2) + (1 : Int32)).toNatClampNeg).toInt := zG_zi hI rfl
          have b29 := i_bd (mI S 65 ((mI S 64 2) + (1 : Int32)).toNatClampNeg)
          have li30 : (101 : Int32).toInt = 101 := rfl
          refine zd (fun h31 => ?_) (fun h31 => ?_)
          · skip
            have g32 := i_eq h31
            first | have e33 : ((mI S 64 2) + (2 : Int32)).toInt = (mI S 64 2).toInt + (2) := i_addk rfl (by omega) (by omega) | have b34 := i_bd ((mI S 64 2) + (2 : Int32))
            refine zd (fun h35 => ?_) (fun h35 => ?_)
            · skip
              have g36 := i_le h35
              have li37 : (1 : Int32).toInt = 1 := rfl
              exact K ((1 : Int32)) _ hI (by decide) (show ((1 : Int32) = 1 ∧ zwd (f 65) (f 64 2) ((f 64 3).toInt - (f 64 2).toInt) 110 101 120 116 0 0 0) ∨ ((1 : Int32) = 0 ∧ ¬ zwd (f 65) (f 64 2) ((f 64 3).toInt - (f 64 2).toInt) 110 101 120 116 0 0 0) from by first | (rw [show f 65 = mI S 65 from funext (fun k => (zG_z hI rfl).symm), show f 64 2 = mI S 64 2 from (zG_z hI rfl).symm, show f 64 3 = mI S 64 3 from (zG_z hI rfl).symm]; exact Or.inl ⟨rfl, by rw [if_pos rfl]; omega, (by assumption), (by assumption), (by assumption), (by assumption), Or.inl rfl, Or.inl rfl, Or.inl rfl⟩) | (omega) | (exfalso; omega)) (show zFm I0 L0 R0 S from by first | (exact hpre0))
            · skip
              have g38 := i_nle h35
              refine ⟨i_ix (by omega) (by omega), ?_⟩
              have q39 : (mI S 65 ((mI S 64 2) + (2 : Int32)).toNatClampNeg).toInt = (f 65 ((mI S 64 2) + (2 : Int32)).toNatClampNeg).toInt := zG_zi hI rfl
              have b40 := i_bd (mI S 65 ((mI S 64 2) + (2 : Int32)).toNatClampNeg)
              have li41 : (120 : Int32).toInt = 120 := rfl
              refine zd (fun h42 => ?_) (fun h42 => ?_)
              · skip
                have g43 := i_eq h42
                first | have e44 : ((mI S 64 2) + (3 : Int32)).toInt = (mI S 64 2).toInt + (3) := i_addk rfl (by omega) (by omega) | have b45 := i_bd ((mI S 64 2) + (3 : Int32))
                refine zd (fun h46 => ?_) (fun h46 => ?_)
                · skip
                  have g47 := i_le h46
                  have li48 : (1 : Int32).toInt = 1 := rfl
                  exact K ((1 : Int32)) _ hI (by decide) (show ((1 : Int32) = 1 ∧ zwd (f 65) (f 64 2) ((f 64 3).toInt - (f 64 2).toInt) 110 101 120 116 0 0 0) ∨ ((1 : Int32) = 0 ∧ ¬ zwd (f 65) (f 64 2) ((f 64 3).toInt - (f 64 2).toInt) 110 101 120 116 0 0 0) from by first | (rw [show f 65 = mI S 65 from funext (fun k => (zG_z hI rfl).symm), show f 64 2 = mI S 64 2 from (zG_z hI rfl).symm, show f 64 3 = mI S 64 3 from (zG_z hI rfl).symm]; exact Or.inl ⟨rfl, by rw [if_pos rfl]; omega, (by assumption), (by assumption), (by assumption), (by assumption), Or.inl rfl, Or.inl rfl, Or.inl rfl⟩) | (omega) | (exfalso; omega)) (show zFm I0 L0 R0 S from by first | (exact hpre0))
                · skip
                  have g49 := i_nle h46
                  refine ⟨i_ix (by omega) (by omega), ?_⟩
                  have q50 : (mI S 65 ((mI S 64 2) + (3 : Int32)).toNatClampNeg).toInt = (f 65 ((mI S 64 2) + (3 : Int32)).toNatClampNeg).toInt := zG_zi hI rfl
                  have b51 := i_bd (mI S 65 ((mI S 64 2) + (3 : Int32)).toNatClampNeg)
                  have li52 : (116 : Int32).toInt = 116 := rfl
                  refine zd (fun h53 => ?_) (fun h53 => ?_)
                  · skip
                    have g54 := i_eq h53
                    have li55 : (1 : Int32).toInt = 1 := rfl
                    exact K ((1 : Int32)) _ hI (by decide) (show ((1 : Int32) = 1 ∧ zwd (f 65) (f 64 2) ((f 64 3).toInt - (f 64 2).toInt) 110 101 120 116 0 0 0) ∨ ((1 : Int32) = 0 ∧ ¬ zwd (f 65) (f 64 2) ((f 64 3).toInt - (f 64 2).toInt) 110 101 120 116 0 0 0) from by first | (rw [show f 65 = mI S 65 from funext (fun k => (zG_z hI rfl).symm), show f 64 2 = mI S 64 2 from (zG_z hI rfl).symm, show f 64 3 = mI S 64 3 from (zG_z hI rfl).symm]; exact Or.inl ⟨rfl, by rw [if_pos rfl]; omega, (by assumption), (by assumption), (by assumption), (by assumption), Or.inl rfl, Or.inl rfl, Or.inl rfl⟩) | (omega) | (exfalso; omega)) (show zFm I0 L0 R0 S from by first | (exact hpre0))
                  · skip
                    have g56 := i_ne h53
                    have li57 : (0 : Int32).toInt = 0 := rfl
                    exact K ((0 : Int32)) _ hI (by decide) (show ((0 : Int32) = 1 ∧ zwd (f 65) (f 64 2) ((f 64 3).toInt - (f 64 2).toInt) 110 101 120 116 0 0 0) ∨ ((0 : Int32) = 0 ∧ ¬ zwd (f 65) (f 64 2) ((f 64 3).toInt - (f 64 2).toInt) 110 101 120 116 0 0 0) from by first | (rw [show f 65 = mI S 65 from funext (fun k => (zG_z hI rfl).symm), show f 64 2 = mI S 64 2 from (zG_z hI rfl).symm, show f 64 3 = mI S 64 3 from (zG_z hI rfl).symm]; exact Or.inr ⟨rfl, fun z => absurd z.2.1 (by assumption)⟩) | (rw [show f 65 = mI S 65 from funext (fun k => (zG_z hI rfl).symm), show f 64 2 = mI S 64 2 from (zG_z hI rfl).symm, show f 64 3 = mI S 64 3 from (zG_z hI rfl).symm]; exact Or.inr ⟨rfl, fun z => absurd z.2.2.1 (by assumption)⟩) | (rw [show f 65 = mI S 65 from funext (fun k => (zG_z hI rfl).symm), show f 64 2 = mI S 64 2 from (zG_z hI rfl).symm, show f 64 3 = mI S 64 3 from (zG_z hI rfl).symm]; exact Or.inr ⟨rfl, fun z => absurd z.2.2.2.1 (by assumption)⟩) | (rw [show f 65 = mI S 65 from funext (fun k => (zG_z hI rfl).symm), show f 64 2 = mI S 64 2 from (zG_z hI rfl).symm, show f 64 3 = mI S 64 3 from (zG_z hI rfl).symm]; exact Or.inr ⟨rfl, fun z => absurd z.2.2.2.2.1 (by assumption)⟩) | (rw [show f 65 = mI S 65 from funext (fun k => (zG_z hI rfl).symm), show f 64 2 = mI S 64 2 from (zG_z hI rfl).symm, show f 64 3 = mI S 64 3 from (zG_z hI rfl).symm]; exact Or.inr ⟨rfl, fun z => by have y := z.1; rw [if_pos rfl] at y; omega⟩) | (omega) | (exfalso; omega)) (show zFm I0 L0 R0 S from by first | (exact hpre0))
              · skip
                have g58 := i_ne h42
                have li59 : (0 : Int32).toInt = 0 := rfl
                exact K ((0 : Int32)) _ hI (by decide) (show ((0 : Int32) = 1 ∧ zwd (f 65) (f 64 2) ((f 64 3).toInt - (f 64 2).toInt) 110 101 120 116 0 0 0) ∨ ((0 : Int32) = 0 ∧ ¬ zwd (f 65) (f 64 2) ((f 64 3).toInt - (f 64 2).toInt) 110 101 120 116 0 0 0) from by first | (rw [show f 65 = mI S 65 from funext (fun k => (zG_z hI rfl).symm), show f 64 2 = mI S 64 2 from (zG_z hI rfl).symm, show f 64 3 = mI S 64 3 from (zG_z hI rfl).symm]; exact Or.inr ⟨rfl, fun z => absurd z.2.1 (by assumption)⟩) | (rw [show f 65 = mI S 65 from funext (fun k => (zG_z hI rfl).symm), show f 64 2 = mI S 64 2 from (zG_z hI rfl).symm, show f 64 3 = mI S 64 3 from (zG_z hI rfl).symm]; exact Or.inr ⟨rfl, fun z => absurd z.2.2.1 (by assumption)⟩) | (rw [show f 65 = mI S 65 from funext (fun k => (zG_z hI rfl).symm), show f 64 2 = mI S 64 2 from (zG_z hI rfl).symm, show f 64 3 = mI S 64 3 from (zG_z hI rfl).symm]; exact Or.inr ⟨rfl, fun z => absurd z.2.2.2.1 (by assumption)⟩) | (rw [show f 65 = mI S 65 from funext (fun k => (zG_z hI rfl).symm), show f 64 2 = mI S 64 2 from (zG_z hI rfl).symm, show f 64 3 = mI S 64 3 from (zG_z hI rfl).symm]; exact Or.inr ⟨rfl, fun z => absurd z.2.2.2.2.1 (by assumption)⟩) | (rw [show f 65 = mI S 65 from funext (fun k => (zG_z hI rfl).symm), show f 64 2 = mI S 64 2 from (zG_z hI rfl).symm, show f 64 3 = mI S 64 3 from (zG_z hI rfl).symm]; exact Or.inr ⟨rfl, fun z => by have y := z.1; rw [if_pos rfl] at y; omega⟩) | (omega) | (exfalso; omega)) (show zFm I0 L0 R0 S from by first | (exact hpre0))
          · skip
            have g60 := i_ne h31
            have li61 : (0 : Int32).toInt = 0 := rfl
            exact K ((0 : Int32)) _ hI (by decide) (show ((0 : Int32) = 1 ∧ zwd (f 65) (f 64 2) ((f 64 3).toInt - (f 64 2).toInt) 110 101 120 116 0 0 0) ∨ ((0 : Int32) = 0 ∧ ¬ zwd (f 65) (f 64 2) ((f 64 3).toInt - (f 64 2).toInt) 110 101 120 116 0 0 0) from by first | (rw [show f 65 = mI S 65 from funext (fun k => (zG_z hI rfl).symm), show f 64 2 = mI S 64 2 from (zG_z hI rfl).symm, show f 64 3 = mI S 64 3 from (zG_z hI rfl).symm]; exact Or.inr ⟨rfl, fun z => absurd z.2.1 (by assumption)⟩) | (rw [show f 65 = mI S 65 from funext (fun k => (zG_z hI rfl).symm), show f 64 2 = mI S 64 2 from (zG_z hI rfl).symm, show f 64 3 = mI S 64 3 from (zG_z hI rfl).symm]; exact Or.inr ⟨rfl, fun z => absurd z.2.2.1 (by assumption)⟩) | (rw [show f 65 = mI S 65 from funext (fun k => (zG_z hI rfl).symm), show f 64 2 = mI S 64 2 from (zG_z hI rfl).symm, show f 64 3 = mI S 64 3 from (zG_z hI rfl).symm]; exact Or.inr ⟨rfl, fun z => absurd z.2.2.2.1 (by assumption)⟩) | (rw [show f 65 = mI S 65 from funext (fun k => (zG_z hI rfl).symm), show f 64 2 = mI S 64 2 from (zG_z hI rfl).symm, show f 64 3 = mI S 64 3 from (zG_z hI rfl).symm]; exact Or.inr ⟨rfl, fun z => absurd z.2.2.2.2.1 (by assumption)⟩) | (rw [show f 65 = mI S 65 from funext (fun k => (zG_z hI rfl).symm), show f 64 2 = mI S 64 2 from (zG_z hI rfl).symm, show f 64 3 = mI S 64 3 from (zG_z hI rfl).symm]; exact Or.inr ⟨rfl, fun z => by have y := z.1; rw [if_pos rfl] at y; omega⟩) | (omega) | (exfalso; omega)) (show zFm I0 L0 R0 S from by first | (exact hpre0))
      · skip
        have g62 := i_ne h20
        have li63 : (0 : Int32).toInt = 0 := rfl
        exact K ((0 : Int32)) _ hI (by decide) (show ((0 : Int32) = 1 ∧ zwd (f 65) (f 64 2) ((f 64 3).toInt - (f 64 2).toInt) 110 101 120 116 0 0 0) ∨ ((0 : Int32) = 0 ∧ ¬ zwd (f 65) (f 64 2) ((f 64 3).toInt - (f 64 2).toInt) 110 101 120 116 0 0 0) from by first | (rw [show f 65 = mI S 65 from funext (fun k => (zG_z hI rfl).symm), show f 64 2 = mI S 64 2 from (zG_z hI rfl).symm, show f 64 3 = mI S 64 3 from (zG_z hI rfl).symm]; exact Or.inr ⟨rfl, fun z => absurd z.2.1 (by assumption)⟩) | (rw [show f 65 = mI S 65 from funext (fun k => (zG_z hI rfl).symm), show f 64 2 = mI S 64 2 from (zG_z hI rfl).symm, show f 64 3 = mI S 64 3 from (zG_z hI rfl).symm]; exact Or.inr ⟨rfl, fun z => absurd z.2.2.1 (by assumption)⟩) | (rw [show f 65 = mI S 65 from funext (fun k => (zG_z hI rfl).symm), show f 64 2 = mI S 64 2 from (zG_z hI rfl).symm, show f 64 3 = mI S 64 3 from (zG_z hI rfl).symm]; exact Or.inr ⟨rfl, fun z => absurd z.2.2.2.1 (by assumption)⟩) | (rw [show f 65 = mI S 65 from funext (fun k => (zG_z hI rfl).symm), show f 64 2 = mI S 64 2 from (zG_z hI rfl).symm, show f 64 3 = mI S 64 3 from (zG_z hI rfl).symm]; exact Or.inr ⟨rfl, fun z => absurd z.2.2.2.2.1 (by assumption)⟩) | (rw [show f 65 = mI S 65 from funext (fun k => (zG_z hI rfl).symm), show f 64 2 = mI S 64 2 from (zG_z hI rfl).symm, show f 64 3 = mI S 64 3 from (zG_z hI rfl).symm]; exact Or.inr ⟨rfl, fun z => by have y := z.1; rw [if_pos rfl] at y; omega⟩) | (omega) | (exfalso; omega)) (show zFm I0 L0 R0 S from by first | (exact hpre0))
  · skip
    have g64 := i_ne h8
    have li65 : (0 : Int32).toInt = 0 := rfl
    exact K ((0 : Int32)) _ hI (by decide) (show ((0 : Int32) = 1 ∧ zwd (f 65) (f 64 2) ((f 64 3).toInt - (f 64 2).toInt) 110 101 120 116 0 0 0) ∨ ((0 : Int32) = 0 ∧ ¬ zwd (f 65) (f 64 2) ((f 64 3).toInt - (f 64 2).toInt) 110 101 120 116 0 0 0) from by first | (rw [show f 65 = mI S 65 from funext (fun k => (zG_z hI rfl).symm), show f 64 2 = mI S 64 2 from (zG_z hI rfl).symm, show f 64 3 = mI S 64 3 from (zG_z hI rfl).symm]; exact Or.inr ⟨rfl, fun z => absurd z.2.1 (by assumption)⟩) | (rw [show f 65 = mI S 65 from funext (fun k => (zG_z hI rfl).symm), show f 64 2 = mI S 64 2 from (zG_z hI rfl).symm, show f 64 3 = mI S 64 3 from (zG_z hI rfl).symm]; exact Or.inr ⟨rfl, fun z => absurd z.2.2.1 (by assumption)⟩) | (rw [show f 65 = mI S 65 from funext (fun k => (zG_z hI rfl).symm), show f 64 2 = mI S 64 2 from (zG_z hI rfl).symm, show f 64 3 = mI S 64 3 from (zG_z hI rfl).symm]; exact Or.inr ⟨rfl, fun z => absurd z.2.2.2.1 (by assumption)⟩) | (rw [show f 65 = mI S 65 from funext (fun k => (zG_z hI rfl).symm), show f 64 2 = mI S 64 2 from (zG_z hI rfl).symm, show f 64 3 = mI S 64 3 from (zG_z hI rfl).symm]; exact Or.inr ⟨rfl, fun z => absurd z.2.2.2.2.1 (by assumption)⟩) | (rw [show f 65 = mI S 65 from funext (fun k => (zG_z hI rfl).symm), show f 64 2 = mI S 64 2 from (zG_z hI rfl).symm, show f 64 3 = mI S 64 3 from (zG_z hI rfl).symm]; exact Or.inr ⟨rfl, fun z => by have y := z.1; rw [if_pos rfl] at y; omega⟩) | (omega) | (exfalso; omega)) (show zFm I0 L0 R0 S from by first | (exact hpre0))

