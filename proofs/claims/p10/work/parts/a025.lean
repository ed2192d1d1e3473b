/-! from 95.i13 -/
/-! the class opens a heap (written by wip/tools/gen18c.py) -/
theorem g_131_64_2_sq_0 {X : Nat × (Nat → Int32)} {d w : Nat} {S : ma_S} {Q : Option ma_V ⊕ Nat → ma_S → Prop}  (hd : 5 ≤ d) (hw : 100 ≤ w) (hS : zT S) (h : if ((mI S 64 3) - (mI S 64 2)) = (6 : Int32) then (if (100 : Int32) ≤ ((mI S 64 2) + (0 : Int32)) then (Q (.inl (some (.inl (1 : Int32)))) S) else ((0 ≤ ((mI S 64 2) + (0 : Int32)) ∧ ((mI S 64 2) + (0 : Int32)).toNatClampNeg < 100) ∧ (if (mI S 65 ((mI S 64 2) + (0 : Int32)).toNatClampNeg) = (104 : Int32) then (if (100 : Int32) ≤ ((mI S 64 2) + (1 : Int32)) then (Q (.inl (some (.inl (1 : Int32)))) S) else ((0 ≤ ((mI S 64 2) + (1 : Int32)) ∧ ((mI S 64 2) + (1 : Int32)).toNatClampNeg < 100) ∧ (if (mI S 65 ((mI S 64 2) + (1 : Int32)).toNatClampNeg) = (97 : Int32) then (if (100 : Int32) ≤ ((mI S 64 2) + (2 : Int32)) then (Q (.inl (some (.inl (1 : Int32)))) S) else ((0 ≤ ((mI S 64 2) + (2 : Int32)) ∧ ((mI S 64 2) + (2 : Int32)).toNatClampNeg < 100) ∧ (if (mI S 65 ((mI S 64 2) + (2 : Int32)).toNatClampNeg) = (108 : Int32) then (if (100 : Int32) ≤ ((mI S 64 2) + (3 : Int32)) then (Q (.inl (some (.inl (1 : Int32)))) S) else ((0 ≤ ((mI S 64 2) + (3 : Int32)) ∧ ((mI S 64 2) + (3 : Int32)).toNatClampNeg < 100) ∧ (if (mI S 65 ((mI S 64 2) + (3 : Int32)).toNatClampNeg) = (118 : Int32) then (if (100 : Int32) ≤ ((mI S 64 2) + (4 : Int32)) then (Q (.inl (some (.inl (1 : Int32)))) S) else ((0 ≤ ((mI S 64 2) + (4 : Int32)) ∧ ((mI S 64 2) + (4 : Int32)).toNatClampNeg < 100) ∧ (if (mI S 65 ((mI S 64 2) + (4 : Int32)).toNatClampNeg) = (101 : Int32) then (if (100 : Int32) ≤ ((mI S 64 2) + (5 : Int32)) then (Q (.inl (some (.inl (1 : Int32)))) S) else ((0 ≤ ((mI S 64 2) + (5 : Int32)) ∧ ((mI S 64 2) + (5 : Int32)).toNatClampNeg < 100) ∧ (if (mI S 65 ((mI S 64 2) + (5 : Int32)).toNatClampNeg) = (115 : Int32) then (Q (.inl (some (.inl (1 : Int32)))) S) else (Q (.inl (some (.inl (0 : Int32)))) S)))) else (Q (.inl (some (.inl (0 : Int32)))) S)))) else (Q (.inl (some (.inl (0 : Int32)))) S)))) else (Q (.inl (some (.inl (0 : Int32)))) S)))) else (Q (.inl (some (.inl (0 : Int32)))) S)))) else (Q (.inl (some (.inl (0 : Int32)))) S)))) else (Q (.inl (some (.inl (0 : Int32)))) S)) : ma_wp X d w 131 0 [(0, .inr (.inr (some 64))), (1, .inr (.inr (some 2)))] [] S Q := by
  refine zw_push hm_131 dX11_tokenIs_0 (v := .inr (.inr (some 64))) rfl ?_
  refine zw_gf hm_131 dX11_tokenIs_1 (v := .inl (mI S 64 3)) (zT_is hS s_64) (zT_t hS s_64) rfl f_11_275_11 rfl ?_
  refine zw_push hm_131 dX11_tokenIs_4 (v := .inr (.inr (some 64))) rfl ?_
  refine zw_gf hm_131 dX11_tokenIs_5 (v := .inl (mI S 64 2)) (zT_is hS s_64) (zT_t hS s_64) rfl f_11_92_11 rfl ?_
  refine zw_stk hm_131 dX11_tokenIs_8 (st₉ := [.inl ((mI S 64 3) - (mI S 64 2))]) rfl rfl ?_
  refine zw_push hm_131 dX11_tokenIs_9 (v := .inr (.inr (some 2))) rfl ?_
  refine zw_cv hm_131 dX11_tokenIs_10 v_11_288_17 hm_277 [] [.inl ((mI S 64 3) - (mI S 64 2))] rfl rfl ⟨by omega, by omega⟩ rfl (tx_len (v := (6 : Int32)) (by decide) (by omega) (by omega) rfl rfl ?_)
  show ma_wp X d w 131 13 [(0, .inr (.inr (some 64))), (1, .inr (.inr (some 2)))] [.inl (6 : Int32), .inl ((mI S 64 3) - (mI S 64 2))] S _
  refine zw_if2 hm_131 dX11_tokenIs_13 (t := 18) rfl zc2_eq ?_ ?_
  · intro hc
    rw [if_pos hc] at h
    refine zw_push hm_131 dX11_tokenIs_18 (v := .inl (0 : Int32)) rfl ?_
    refine zw_sto hm_131 dX11_tokenIs_19 [(2, .inl (0 : Int32)), (0, .inr (.inr (some 64))), (1, .inr (.inr (some 2)))] rfl rfl rfl ?_
    refine zw_push hm_131 dX11_tokenIs_20 (v := .inl (0 : Int32)) rfl ?_
    refine zw_push hm_131 dX11_tokenIs_21 (v := .inr (.inr (some 2))) rfl ?_
    refine zw_cv hm_131 dX11_tokenIs_22 v_11_288_17 hm_277 [] [.inl (0 : Int32)] rfl rfl ⟨by omega, by omega⟩ rfl (tx_len (v := (6 : Int32)) (by decide) (by omega) (by omega) rfl rfl ?_)
    show ma_wp X d w 131 25 [(2, .inl (0 : Int32)), (0, .inr (.inr (some 64))), (1, .inr (.inr (some 2)))] [.inl (6 : Int32), .inl (0 : Int32)] S _
    refine zw_if2 hm_131 dX11_tokenIs_25 (t := 66) rfl zc2_ge (fun hc => absurd hc (by decide)) (fun _ => ?_)
    refine zw_push hm_131 dX11_tokenIs_28 (v := .inr (.inr (some 64))) rfl ?_
    refine zw_gf hm_131 dX11_tokenIs_29 (v := .inl (mI S 64 2)) (zT_is hS s_64) (zT_t hS s_64) rfl f_11_92_11 rfl ?_
    refine zw_push hm_131 dX11_tokenIs_32 (v := .inl (0 : Int32)) rfl ?_
    refine zw_stk hm_131 dX11_tokenIs_33 (st₉ := [.inl ((mI S 64 2) + (0 : Int32))]) rfl rfl ?_
    refine zw_push hm_131 dX11_tokenIs_34 (v := .inl (100 : Int32)) rfl ?_
    refine zw_if2 hm_131 dX11_tokenIs_36 (t := 66) rfl zc2_ge ?_ ?_
    · intro hc
      rw [if_pos hc] at h
      refine zw_push hm_131 dX11_tokenIs_66 (v := .inl (1 : Int32)) rfl ?_
      exact zw_bret hm_131 dX11_tokenIs_67 (by decide) h
    · intro hc
      rw [if_neg hc] at h
      refine zw_push hm_131 dX11_tokenIs_39 (v := .inr (.inr (some 64))) rfl ?_
      refine zw_gf hm_131 dX11_tokenIs_40 (v := .inr (.inr (some 65))) (zT_is hS s_64) (zT_t hS s_64) rfl f_11_9_11 (zT_f hS r_64_0) ?_
      refine zw_push hm_131 dX11_tokenIs_43 (v := .inr (.inr (some 64))) rfl ?_
      refine zw_gf hm_131 dX11_tokenIs_44 (v := .inl (mI S 64 2)) (zT_is hS s_64) (zT_t hS s_64) rfl f_11_92_11 rfl ?_
      refine zw_push hm_131 dX11_tokenIs_47 (v := .inl (0 : Int32)) rfl ?_
      refine zw_stk hm_131 dX11_tokenIs_48 (st₉ := [.inl ((mI S 64 2) + (0 : Int32)), .inr (.inr (some 65))]) rfl rfl ?_
      obtain ⟨hg, h⟩ := h
      refine zw_ba hm_131 dX11_tokenIs_49 (zT_is hS s_65) (zT_h hS s_65) rfl rfl hg ?_
      show ma_wp X d w 131 50 [(2, .inl (0 : Int32)), (0, .inr (.inr (some 64))), (1, .inr (.inr (some 2)))] [.inl (mI S 65 ((mI S 64 2) + (0 : Int32)).toNatClampNeg)] S _
      refine zw_push hm_131 dX11_tokenIs_50 (v := .inr (.inr (some 2))) rfl ?_
      refine zw_push hm_131 dX11_tokenIs_51 (v := .inl (0 : Int32)) rfl ?_
      refine zw_cv hm_131 dX11_tokenIs_52 v_11_293_17 hm_279 [.inl (0 : Int32)] [.inl (mI S 65 ((mI S 64 2) + (0 : Int32)).toNatClampNeg)] rfl rfl ⟨by omega, by omega⟩ rfl (tx_char (v := (104 : Int32)) (by decide) (by omega) (by omega) (by decide) (by decide) (by decide) (by decide) ?_)
      show ma_wp X d w 131 55 [(2, .inl (0 : Int32)), (0, .inr (.inr (some 64))), (1, .inr (.inr (some 2)))] [.inl (104 : Int32), .inl (mI S 65 ((mI S 64 2) + (0 : Int32)).toNatClampNeg)] S _
      refine zw_if2 hm_131 dX11_tokenIs_55 (t := 60) rfl zc2_eq ?_ ?_
      · intro hc
        rw [if_pos hc] at h
        refine zw_sto hm_131 dX11_tokenIs_60 [(2, .inl (1 : Int32)), (0, .inr (.inr (some 64))), (1, .inr (.inr (some 2)))] rfl rfl rfl ?_
        refine zw_goto hm_131 dX11_tokenIs_63 (t := 20) rfl ?_
        refine zw_push hm_131 dX11_tokenIs_20 (v := .inl (1 : Int32)) rfl ?_
        refine zw_push hm_131 dX11_tokenIs_21 (v := .inr (.inr (some 2))) rfl ?_
        refine zw_cv hm_131 dX11_tokenIs_22 v_11_288_17 hm_277 [] [.inl (1 : Int32)] rfl rfl ⟨by omega, by omega⟩ rfl (tx_len (v := (6 : Int32)) (by decide) (by omega) (by omega) rfl rfl ?_)
        show ma_wp X d w 131 25 [(2, .inl (1 : Int32)), (0, .inr (.inr (some 64))), (1, .inr (.inr (some 2)))] [.inl (6 : Int32), .inl (1 : Int32)] S _
        refine zw_if2 hm_131 dX11_tokenIs_25 (t := 66) rfl zc2_ge (fun hc => absurd hc (by decide)) (fun _ => ?_)
        refine zw_push hm_131 dX11_tokenIs_28 (v := .inr (.inr (some 64))) rfl ?_
        refine zw_gf hm_131 dX11_tokenIs_29 (v := .inl (mI S 64 2)) (zT_is hS s_64) (zT_t hS s_64) rfl f_11_92_11 rfl ?_
        refine zw_push hm_131 dX11_tokenIs_32 (v := .inl (1 : Int32)) rfl ?_
        refine zw_stk hm_131 dX11_tokenIs_33 (st₉ := [.inl ((mI S 64 2) + (1 : Int32))]) rfl rfl ?_
        refine zw_push hm_131 dX11_tokenIs_34 (v := .inl (100 : Int32)) rfl ?_
        refine zw_if2 hm_131 dX11_tokenIs_36 (t := 66) rfl zc2_ge ?_ ?_
        · intro hc
          rw [if_pos hc] at h
          refine zw_push hm_131 dX11_tokenIs_66 (v := .inl (1 : Int32)) rfl ?_
          exact zw_bret hm_131 dX11_tokenIs_67 (by decide) h
        · intro hc
          rw [if_neg hc] at h
          refine zw_push hm_131 dX11_tokenIs_39 (v := .inr (.inr (some 64))) rfl ?_
          refine zw_gf hm_131 dX11_tokenIs_40 (v := .inr (.inr (some 65))) (zT_is hS s_64) (zT_t hS s_64) rfl f_11_9_11 (zT_f hS r_64_0) ?_
          refine zw_push hm_131 dX11_tokenIs_43 (v := .inr (.inr (some 64))) rfl ?_
          refine zw_gf hm_131 dX11_tokenIs_44 (v := .inl (mI S 64 2)) (zT_is hS s_64) (zT_t hS s_64) rfl f_11_92_11 rfl ?_
          refine zw_push hm_131 dX11_tokenIs_47 (v := .inl (1 : Int32)) rfl ?_
          refine zw_stk hm_131 dX11_tokenIs_48 (st₉ := [.inl ((mI S 64 2) + (1 : Int32)), .inr (.inr (some 65))]) rfl rfl ?_
          obtain ⟨hg, h⟩ := h
          refine zw_ba hm_131 dX11_tokenIs_49 (zT_is hS s_65) (zT_h hS s_65) rfl rfl hg ?_
          show ma_wp X d w 131 50 [(2, .inl (1 : Int32)), (0, .inr (.inr (some 64))), (1, .inr (.inr (some 2)))] [.inl (mI S 65 ((mI S 64 2) + (1 : Int32)).toNatClampNeg)] S _
          refine zw_push hm_131 dX11_tokenIs_50 (v := .inr (.inr (some 2))) rfl ?_
          refine zw_push hm_131 dX11_tokenIs_51 (v := .inl (1 : Int32)) rfl ?_
          refine zw_cv hm_131 dX11_tokenIs_52 v_11_293_17 hm_279 [.inl (1 : Int32)] [.inl (mI S 65 ((mI S 64 2) + (1 : Int32)).toNatClampNeg)] rfl rfl ⟨by omega, by omega⟩ rfl (tx_char (v := (97 : Int32)) (by decide) (by omega) (by omega) (by decide) (by decide) (by decide) (by decide) ?_)
          show ma_wp X d w 131 55 [(2, .inl (1 : Int32)), (0, .inr (.inr (some 64))), (1, .inr (.inr (some 2)))] [.inl (97 : Int32), .inl (mI S 65 ((mI S 64 2) + (1 : Int32)).toNatClampNeg)] S _
          refine zw_if2 hm_131 dX11_tokenIs_55 (t := 60) rfl zc2_eq ?_ ?_
          · intro hc
            rw [if_pos hc] at h
            refine zw_sto hm_131 dX11_tokenIs_60 [(2, .inl (2 : Int32)), (0, .inr (.inr (some 64))), (1, .inr (.inr (some 2)))] rfl rfl rfl ?_
            refine zw_goto hm_131 dX11_tokenIs_63 (t := 20) rfl ?_
            refine zw_push hm_131 dX11_tokenIs_20 (v := .inl (2 : Int32)) rfl ?_
            refine zw_push hm_131 dX11_tokenIs_21 (v := .inr (.inr (some 2))) rfl ?_
            refine zw_cv hm_131 dX11_tokenIs_22 v_11_288_17 hm_277 [] [.inl (2 : Int32)] rfl rfl ⟨by omega, by omega⟩ rfl (tx_len (v := (6 : Int32)) (by decide) (by omega) (by omega) rfl rfl ?_)
            show ma_wp X d w 131 25 [(2, .inl (2 : Int32)), (0, .inr (.inr (some 64))), (1, .inr (.inr (some 2)))] [.inl (6 : Int32), .inl (2 : Int32)] S _
            refine zw_if2 hm_131 dX11_tokenIs_25 (t := 66) rfl zc2_ge (fun hc => absurd hc (by decide)) (fun _ => ?_)
            refine zw_push hm_131 dX11_tokenIs_28 (v := .inr (.inr (some 64))) rfl ?_
            refine zw_gf hm_131 dX11_tokenIs_29 (v := .inl (mI S 64 2)) (zT_is hS s_64) (zT_t hS s_64) rfl f_11_92_11 rfl ?_
            refine zw_push hm_131 dX11_tokenIs_32 (v := .inl (2 : Int32)) rfl ?_
            refine zw_stk hm_131 dX11_tokenIs_33 (st₉ := [.inl ((mI S 64 2) + (2 : Int32))]) rfl rfl ?_
            refine zw_push hm_131 dX11_tokenIs_34 (v := .inl (100 : Int32)) rfl ?_
            refine zw_if2 hm_131 dX11_tokenIs_36 (t := 66) rfl zc2_ge ?_ ?_
            · intro hc
              rw [if_pos hc] at h
              refine zw_push hm_131 dX11_tokenIs_66 (v := .inl (1 : Int32)) rfl ?_
              exact zw_bret hm_131 dX11_tokenIs_67 (by decide) h
            · intro hc
              rw [if_neg hc] at h
              refine zw_push hm_131 dX11_tokenIs_39 (v := .inr (.inr (some 64))) rfl ?_
              refine zw_gf hm_131 dX11_tokenIs_40 (v := .inr (.inr (some 65))) (zT_is hS s_64) (zT_t hS s_64) rfl f_11_9_11 (zT_f hS r_64_0) ?_
              refine zw_push hm_131 dX11_tokenIs_43 (v := .inr (.inr (some 64))) rfl ?_
              refine zw_gf hm_131 dX11_tokenIs_44 (v := .inl (mI S 64 2)) (zT_is hS s_64) (zT_t hS s_64) rfl f_11_92_11 rfl ?_
              refine zw_push hm_131 dX11_tokenIs_47 (v := .inl (2 : Int32)) rfl ?_
              refine zw_stk hm_131 dX11_tokenIs_48 (st₉ := [.inl ((mI S 64 2) + (2 : Int32)), .inr (.inr (some 65))]) rfl rfl ?_
              obtain ⟨hg, h⟩ := h
              refine zw_ba hm_131 dX11_tokenIs_49 (zT_is hS s_65) (zT_h hS s_65) rfl rfl hg ?_
              show ma_wp X d w 131 50 [(2, .inl (2 : Int32)), (0, .inr (.inr (some 64))), (1, .inr (.inr (some 2)))] [.inl (mI S 65 ((mI S 64 2) + (2 : Int32)).toNatClampNeg)] S _
              refine zw_push hm_131 dX11_tokenIs_50 (v := .inr (.inr (some 2))) rfl ?_
              refine zw_push hm_131 dX11_tokenIs_51 (v := .inl (2 : Int32)) rfl ?_
              refine zw_cv hm_131 dX11_tokenIs_52 v_11_293_17 hm_279 [.inl (2 : Int32)] [.inl (mI S 65 ((mI S 64 2) + (2 : Int32)).toNatClampNeg)] rfl rfl ⟨by omega, by omega⟩ rfl (tx_char (v := (108 : Int32)) (by decide) (by omega) (by omega) (by decide) (by decide) (by decide) (by decide) ?_)
              show ma_wp X d w 131 55 [(2, .inl (2 : Int32)), (0, .inr (.inr (some 64))), (1, .inr (.inr (some 2)))] [.inl (108 : Int32), .inl (mI S 65 ((mI S 64 2) + (2 : Int32)).toNatClampNeg)] S _
              refine zw_if2 hm_131 dX11_tokenIs_55 (t := 60) rfl zc2_eq ?_ ?_
              · intro hc
                rw [if_pos hc] at h
                refine zw_sto hm_131 dX11_tokenIs_60 [(2, .inl (3 : Int32)), (0, .inr (.inr (some 64))), (1, .inr (.inr (some 2)))] rfl rfl rfl ?_
                refine zw_goto hm_131 dX11_tokenIs_63 (t := 20) rfl ?_
                refine zw_push hm_131 dX11_tokenIs_20 (v := .inl (3 : Int32)) rfl ?_
                refine zw_push hm_131 dX11_tokenIs_21 (v := .inr (.inr (some 2))) rfl ?_
                refine zw_cv hm_131 dX11_tokenIs_22 v_11_288_17 hm_277 [] [.inl (3 : Int32)] rfl rfl ⟨by omega, by omega⟩ rfl (tx_len (v := (6 : Int32)) (by decide) (by omega) (by omega) rfl rfl ?_)
                show ma_wp X d w 131 25 [(2, .inl (3 : Int32)), (0, .inr (.inr (some 64))), (1, .inr (.inr (some 2)))] [.inl (6 : Int32), .inl (3 : Int32)] S _
                refine zw_if2 hm_131 dX11_tokenIs_25 (t := 66) rfl zc2_ge (fun hc => absurd hc (by decide)) (fun _ => ?_)
                refine zw_push hm_131 dX11_tokenIs_28 (v := .inr (.inr (some 64))) rfl ?_
                refine zw_gf hm_131 dX11_tokenIs_29 (v := .inl (mI S 64 2)) (zT_is hS s_64) (zT_t hS s_64) rfl f_11_92_11 rfl ?_
                refine zw_push hm_131 dX11_tokenIs_32 (v := .inl (3 : Int32)) rfl ?_
                refine zw_stk hm_131 dX11_tokenIs_33 (st₉ := [.inl ((mI S 64 2) + (3 : Int32))]) rfl rfl ?_
                refine zw_push hm_131 dX11_tokenIs_34 (v := .inl (100 : Int32)) rfl ?_
                refine zw_if2 hm_131 dX11_tokenIs_36 (t := 66) rfl zc2_ge ?_ ?_
                · intro hc
                  rw [if_pos hc] at h
                  refine zw_push hm_131 dX11_tokenIs_66 (v := .inl (1 : Int32)) rfl ?_
                  exact zw_bret hm_131 dX11_tokenIs_67 (by decide) h
                · intro hc
                  rw [if_neg hc] at h
                  refine zw_push hm_131 dX11_tokenIs_39 (v := .inr (.inr (some 64))) rfl ?_
                  refine zw_gf hm_131 dX11_tokenIs_40 (v := .inr (.inr (some 65))) (zT_is hS s_64) (zT_t hS s_64) rfl f_11_9_11 (zT_f hS r_64_0) ?_
                  refine zw_push hm_131 dX11_tokenIs_43 (v := .inr (.inr (some 64))) rfl ?_
                  refine zw_gf hm_131 dX11_tokenIs_44 (v := .inl (mI S 64 2)) (zT_is hS s_64) (zT_t hS s_64) rfl f_11_92_11 rfl ?_
                  refine zw_push hm_131 dX11_tokenIs_47 (v := .inl (3 : Int32)) rfl ?_
                  refine zw_stk hm_131 dX11_tokenIs_48 (st₉ := [.inl ((mI S 64 2) + (3 : Int32)), .inr (.inr (some 65))]) rfl rfl ?_
                  obtain ⟨hg, h⟩ := h
                  refine zw_ba hm_131 dX11_tokenIs_49 (zT_is hS s_65) (zT_h hS s_65) rfl rfl hg ?_
                  show ma_wp X d w 131 50 [(2, .inl (3 : Int32)), (0, .inr (.inr (some 64))), (1, .inr (.inr (some 2)))] [.inl (mI S 65 ((mI S 64 2) + (3 : Int32)).toNatClampNeg)] S _
                  refine zw_push hm_131 dX11_tokenIs_50 (v := .inr (.inr (some 2))) rfl ?_
                  refine zw_push hm_131 dX11_tokenIs_51 (v := .inl (3 : Int32)) rfl ?_
                  refine zw_cv hm_131 dX11_tokenIs_52 v_11_293_17 hm_279 [.inl (3 : Int32)] [.inl (mI S 65 ((mI S 64 2) + (3 : Int32)).toNatClampNeg)] rfl rfl ⟨by omega, by omega⟩ rfl (tx_char (v := (118 : Int32)) (by decide) (by omega) (by omega) (by decide) (by decide) (by decide) (by decide) ?_)
                  show ma_wp X d w 131 55 [(2, .inl (3 : Int32)), (0, .inr (.inr (some 64))), (1, .inr (.inr (some 2)))] [.inl (118 : Int32), .inl (mI S 65 ((mI S 64 2) + (3 : Int32)).toNatClampNeg)] S _
                  refine zw_if2 hm_131 dX11_tokenIs_55 (t := 60) rfl zc2_eq ?_ ?_
                  · intro hc
                    rw [if_pos hc] at h
                    refine zw_sto hm_131 dX11_tokenIs_60 [(2, .inl (4 : Int32)), (0, .inr (.inr (some 64))), (1, .inr (.inr (some 2)))] rfl rfl rfl ?_
                    refine zw_goto hm_131 dX11_tokenIs_63 (t := 20) rfl ?_
                    refine zw_push hm_131 dX11_tokenIs_20 (v := .inl (4 : Int32)) rfl ?_
                    refine zw_push hm_131 dX11_tokenIs_21 (v := .inr (.inr (some 2))) rfl ?_
                    refine zw_cv hm_131 dX11_tokenIs_22 v_11_288_17 hm_277 [] [.inl (4 : Int32)] rfl rfl ⟨by omega, by omega⟩ rfl (tx_len (v := (6 : Int32)) (by decide) (by omega) (by omega) rfl rfl ?_)
                    show ma_wp X d w 131 25 [(2, .inl (4 : Int32)), (0, .inr (.inr (some 64))), (1, .inr (.inr (some 2)))] [.inl (6 : Int32), .inl (4 : Int32)] S _
                    refine zw_if2 hm_131 dX11_tokenIs_25 (t := 66) rfl zc2_ge (fun hc => absurd hc (by decide)) (fun _ => ?_)
                    refine zw_push hm_131 dX11_tokenIs_28 (v := .inr (.inr (some 64))) rfl ?_
                    refine zw_gf hm_131 dX11_tokenIs_29 (v := .inl (mI S 64 2)) (zT_is hS s_64) (zT_t hS s_64) rfl f_11_92_11 rfl ?_
                    refine zw_push hm_131 dX11_tokenIs_32 (v := .inl (4 : Int32)) rfl ?_
                    refine zw_stk hm_131 dX11_tokenIs_33 (st₉ := [.inl ((mI S 64 2) + (4 : Int32))]) rfl rfl ?_
                    refine zw_push hm_131 dX11_tokenIs_34 (v := .inl (100 : Int32)) rfl ?_
                    refine zw_if2 hm_131 dX11_tokenIs_36 (t := 66) rfl zc2_ge ?_ ?_
                    · intro hc
                      rw [if_pos hc] at h
                      refine zw_push hm_131 dX11_tokenIs_66 (v := .inl (1 : Int32)) rfl ?_
                      exact zw_bret hm_131 dX11_tokenIs_67 (by decide) h
                    · intro hc
                      rw [if_neg hc] at h
                      refine zw_push hm_131 dX11_tokenIs_39 (v := .inr (.inr (some 64))) rfl ?_
                      refine zw_gf hm_131 dX11_tokenIs_40 (v := .inr (.inr (some 65))) (zT_is hS s_64) (zT_t hS s_64) rfl f_11_9_11 (zT_f hS r_64_0) ?_
                      refine zw_push hm_131 dX11_tokenIs_43 (v := .inr (.inr (some 64))) rfl ?_
                      refine zw_gf hm_131 dX11_tokenIs_44 (v := .inl (mI S 64 2)) (zT_is hS s_64) (zT_t hS s_64) rfl f_11_92_11 rfl ?_
                      refine zw_push hm_131 dX11_tokenIs_47 (v := .inl (4 : Int32)) rfl ?_
                      refine zw_stk hm_131 dX11_tokenIs_48 (st₉ := [.inl ((mI S 64 2) + (4 : Int32)), .inr (.inr (some 65))]) rfl rfl ?_
                      obtain ⟨hg, h⟩ := h
                      refine zw_ba hm_131 dX11_tokenIs_49 (zT_is hS s_65) (zT_h hS s_65) rfl rfl hg ?_
                      show ma_wp X d w 131 50 [(2, .inl (4 : Int32)), (0, .inr (.inr (some 64))), (1, .inr (.inr (some 2)))] [.inl (mI S 65 ((mI S 64 2) + (4 : Int32)).toNatClampNeg)] S _
                      refine zw_push hm_131 dX11_tokenIs_50 (v := .inr (.inr (some 2))) rfl ?_
                      refine zw_push hm_131 dX11_tokenIs_51 (v := .inl (4 : Int32)) rfl ?_
                      refine zw_cv hm_131 dX11_tokenIs_52 v_11_293_17 hm_279 [.inl (4 : Int32)] [.inl (mI S 65 ((mI S 64 2) + (4 : Int32)).toNatClampNeg)] rfl rfl ⟨by omega, by omega⟩ rfl (tx_char (v := (101 : Int32)) (by decide) (by omega) (by omega) (by decide) (by decide) (by decide) (by decide) ?_)
                      show ma_wp X d w 131 55 [(2, .inl (4 : Int32)), (0, .inr (.inr (some 64))), (1, .inr (.inr (some 2)))] [.inl (101 : Int32), .inl (mI S 65 ((mI S 64 2) + (4 : Int32)).toNatClampNeg)] S _
                      refine zw_if2 hm_131 dX11_tokenIs_55 (t := 60) rfl zc2_eq ?_ ?_
                      · intro hc
                        rw [if_pos hc] at h
                        refine zw_sto hm_131 dX11_tokenIs_60 [(2, .inl (5 : Int32)), (0, .inr (.inr (some 64))), (1, .inr (.inr (some 2)))] rfl rfl rfl ?_
                        refine zw_goto hm_131 dX11_tokenIs_63 (t := 20) rfl ?_
                        refine zw_push hm_131 dX11_tokenIs_20 (v := .inl (5 : Int32)) rfl ?_
                        refine zw_push hm_131 dX11_tokenIs_21 (v := .inr (.inr (some 2))) rfl ?_
                        refine zw_cv hm_131 dX11_tokenIs_22 v_11_288_17 hm_277 [] [.inl (5 : Int32)] rfl rfl ⟨by omega, by omega⟩ rfl (tx_len (v := (6 : Int32)) (by decide) (by omega) (by omega) rfl rfl ?_)
                        show ma_wp X d w 131 25 [(2, .inl (5 : Int32)), (0, .inr (.inr (some 64))), (1, .inr (.inr (some 2)))] [.inl (6 : Int32), .inl (5 : Int32)] S _
                        refine zw_if2 hm_131 dX11_tokenIs_25 (t := 66) rfl zc2_ge (fun hc => absurd hc (by decide)) (fun _ => ?_)
                        refine zw_push hm_131 dX11_tokenIs_28 (v := .inr (.inr (some 64))) rfl ?_
                        refine zw_gf hm_131 dX11_tokenIs_29 (v := .inl (mI S 64 2)) (zT_is hS s_64) (zT_t hS s_64) rfl f_11_92_11 rfl ?_
                        refine zw_push hm_131 dX11_tokenIs_32 (v := .inl (5 : Int32)) rfl ?_
                        refine zw_stk hm_131 dX11_tokenIs_33 (st₉ := [.inl ((mI S 64 2) + (5 : Int32))]) rfl rfl ?_
                        refine zw_push hm_131 dX11_tokenIs_34 (v := .inl (100 : Int32)) rfl ?_
                        refine zw_if2 hm_131 dX11_tokenIs_36 (t := 66) rfl zc2_ge ?_ ?_
                        · intro hc
                          rw [if_pos hc] at h
                          refine zw_push hm_131 dX11_tokenIs_66 (v := .inl (1 : Int32)) rfl ?_
                          exact zw_bret hm_131 dX11_tokenIs_67 (by decide) h
                        · intro hc
                          rw [if_neg hc] at h
                          refine zw_push hm_131 dX11_tokenIs_39 (v := .inr (.inr (some 64))) rfl ?_
                          refine zw_gf hm_131 dX11_tokenIs_40 (v := .inr (.inr (some 65))) (zT_is hS s_64) (zT_t hS s_64) rfl f_11_9_11 (zT_f hS r_64_0) ?_
                          refine zw_push hm_131 dX11_tokenIs_43 (v := .inr (.inr (some 64))) rfl ?_
                          refine zw_gf hm_131 dX11_tokenIs_44 (v := .inl (mI S 64 2)) (zT_is hS s_64) (zT_t hS s_64) rfl f_11_92_11 rfl ?_
                          refine zw_push hm_131 dX11_tokenIs_47 (v := .inl (5 : Int32)) rfl ?_
                          refine zw_stk hm_131 dX11_tokenIs_48 (st₉ := [.inl ((mI S 64 2) + (5 : Int32)), .inr (.inr (some 65))]) rfl rfl ?_
                          obtain ⟨hg, h⟩ := h
                          refine zw_ba hm_131 dX11_tokenIs_49 (zT_is hS s_65) (zT_h hS s_65) rfl rfl hg ?_
                          show ma_wp X d w 131 50 [(2, .inl (5 : Int32)), (0, .inr (.inr (some 64))), (1, .inr (.inr (some 2)))] [.inl (mI S 65 ((mI S 64 2) + (5 : Int32)).toNatClampNeg)] S _
                          refine zw_push hm_131 dX11_tokenIs_50 (v := .inr (.inr (some 2))) rfl ?_
                          refine zw_push hm_131 dX11_tokenIs_51 (v := .inl (5 : Int32)) rfl ?_
                          refine zw_cv hm_131 dX11_tokenIs_52 v_11_293_17 hm_279 [.inl (5 : Int32)] [.inl (mI S 65 ((mI S 64 2) + (5 : Int32)).toNatClampNeg)] rfl rfl ⟨by omega, by omega⟩ rfl (tx_char (v := (115 : Int32)) (by decide) (by omega) (by omega) (by decide) (by decide) (by decide) (by decide) ?_)
                          show ma_wp X d w 131 55 [(2, .inl (5 : Int32)), (0, .inr (.inr (some 64))), (1, .inr (.inr (some 2)))] [.inl (115 : Int32), .inl (mI S 65 ((mI S 64 2) + (5 : Int32)).toNatClampNeg)] S _
                          refine zw_if2 hm_131 dX11_tokenIs_55 (t := 60) rfl zc2_eq ?_ ?_
                          · intro hc
                            rw [if_pos hc] at h
                            refine zw_sto hm_131 dX11_tokenIs_60 [(2, .inl (6 : Int32)), (0, .inr (.inr (some 64))), (1, .inr (.inr (some 2)))] rfl rfl rfl ?_
                            refine zw_goto hm_131 dX11_tokenIs_63 (t := 20) rfl ?_
                            refine zw_push hm_131 dX11_tokenIs_20 (v := .inl (6 : Int32)) rfl ?_
                            refine zw_push hm_131 dX11_tokenIs_21 (v := .inr (.inr (some 2))) rfl ?_
                            refine zw_cv hm_131 dX11_tokenIs_22 v_11_288_17 hm_277 [] [.inl (6 : Int32)] rfl rfl ⟨by omega, by omega⟩ rfl (tx_len (v := (6 : Int32)) (by decide) (by omega) (by omega) rfl rfl ?_)
                            show ma_wp X d w 131 25 [(2, .inl (6 : Int32)), (0, .inr (.inr (some 64))), (1, .inr (.inr (some 2)))] [.inl (6 : Int32), .inl (6 : Int32)] S _
                            refine zw_if2 hm_131 dX11_tokenIs_25 (t := 66) rfl zc2_ge (fun _ => ?_) (fun hc => absurd (by decide) hc)
                            refine zw_push hm_131 dX11_tokenIs_66 (v := .inl (1 : Int32)) rfl ?_
                            exact zw_bret hm_131 dX11_tokenIs_67 (by decide) h
                          · intro hc
                            rw [if_neg hc] at h
                            refine zw_push hm_131 dX11_tokenIs_58 (v := .inl (0 : Int32)) rfl ?_
                            exact zw_bret hm_131 dX11_tokenIs_59 (by decide) h
                      · intro hc
                        rw [if_neg hc] at h
                        refine zw_push hm_131 dX11_tokenIs_58 (v := .inl (0 : Int32)) rfl ?_
                        exact zw_bret hm_131 dX11_tokenIs_59 (by decide) h
                  · intro hc
                    rw [if_neg hc] at h
                    refine zw_push hm_131 dX11_tokenIs_58 (v := .inl (0 : Int32)) rfl ?_
                    exact zw_bret hm_131 dX11_tokenIs_59 (by decide) h
              · intro hc
                rw [if_neg hc] at h
                refine zw_push hm_131 dX11_tokenIs_58 (v := .inl (0 : Int32)) rfl ?_
                exact zw_bret hm_131 dX11_tokenIs_59 (by decide) h
          · intro hc
            rw [if_neg hc] at h
            refine zw_push hm_131 dX11_tokenIs_58 (v := .inl (0 : Int32)) rfl ?_
            exact zw_bret hm_131 dX11_tokenIs_59 (by decide) h
      · intro hc
        rw [if_neg hc] at h
        refine zw_push hm_131 dX11_tokenIs_58 (v := .inl (0 : Int32)) rfl ?_
        exact zw_bret hm_131 dX11_tokenIs_59 (by decide) h
  · intro hc
    rw [if_neg hc] at h
    refine zw_push hm_131 dX11_tokenIs_16 (v := .inl (0 : Int32)) rfl ?_
    exact zw_bret hm_131 dX11_tokenIs_17 (by decide) h
theorem sp_131_64_2_sq {X : Nat × (Nat → Int32)} {d w : Nat} {f : Nat → Nat → Int32} {r : Nat → Nat → Option Nat} {C Z N : Nat} {Q : Option ma_V ⊕ Nat → ma_S → Prop} {I0 : Nat→Nat→Int32} {L0 : Nat→Nat→Int64} {R0 : zRT} {S : ma_S}  (hd : 5 ≤ d) (hw : 100 ≤ w) (hI : zY0 f r C Z N S) (hpre0 : zFm I0 L0 R0 S) (K : ∀ v S₉, zY0 f r C Z N S₉ → (v = 0 ∨ v = 1) → ((v = 1 ∧ zwd (f 65) (f 64 2) ((f 64 3).toInt - (f 64 2).toInt) 104 97 108 118 101 115 0) ∨ (v = 0 ∧ ¬ zwd (f 65) (f 64 2) ((f 64 3).toInt - (f 64 2).toInt) 104 97 108 118 101 115 0)) → (zFm I0 L0 R0 S₉) → Q (.inl (some (.inl v))) S₉) : ma_wp X d w 131 0 [(0, .inr (.inr (some 64))), (1, .inr (.inr (some 2)))] [] S Q := by
  refine g_131_64_2_sq_0  (by omega) (by omega) (zG_T hI) ?_
  have q1 : (mI S 64 3).toInt = (f 64 3).toInt := zG_zi hI rfl
  have f2 := zG_s hI (0) (100) (c := 64) (k := 3) (by decide)
  have q3 : (mI S 64 2).toInt = (f 64 2).toInt := zG_zi hI rfl
  have f4 := zG_s hI (0) (100) (c := 64) (k := 2) (by decide)
  first | have e5 : ((mI S 64 3) - (mI S 64 2)).toInt = (mI S 64 3).toInt - (mI S 64 2).toInt := i_sub (by omega) (by omega) | have b6 := i_bd ((mI S 64 3) - (mI S 64 2))
  have li7 : (6 : Int32).toInt = 6 := rfl
  refine zd (fun h8 => ?_) (fun h8 => ?_)
  · skip
    have g9 := i_eq h8
    have li10 : (100 : Int32).toInt = 100 := rfl
    first | have e11 : ((mI S 64 2) + (0 : Int32)).toInt = (mI S 64 2).toInt + (0) := i_addk rfl (by omega) (by omega) | have b12 := i_bd ((mI S 64 2) + (0 : Int32))
    refine zd (fun h13 => ?_) (fun h13 => ?_)
    · skip
      have g14 := i_le h13
      have li15 : (1 : Int32).toInt = 1 := rfl
      exact K ((1 : Int32)) _ hI (by decide) (show ((1 : Int32) = 1 ∧ zwd (f 65) (f 64 2) ((f 64 3).toInt - (f 64 2).toInt) 104 97 108 118 101 115 0) ∨ ((1 : Int32) = 0 ∧ ¬ zwd (f 65) (f 64 2) ((f 64 3).toInt - (f 64 2).toInt) 104 97 108 118 101 115 0) from by first | (omega) | (rw [show f 65 = mI S 65 from funext (fun k => (zG_z hI rfl).symm), show f 64 2 = mI S 64 2 from (zG_z hI rfl).symm, show f 64 3 = mI S 64 3 from (zG_z hI rfl).symm]; exact Or.inl ⟨rfl, by rw [if_neg (by decide), if_neg (by decide), if_pos rfl]; omega, (by assumption), (by assumption), (by assumption), (by assumption), Or.inr (by assumption), Or.inr (Or.inr (by assumption)), Or.inr (Or.inr (Or.inl rfl))⟩) | (exfalso; omega)) (show zFm I0 L0 R0 S from by first | (exact hpre0))
    · skip
      have g16 := i_nle h13
      refine ⟨i_ix (by omega) (by omega), ?_⟩
      have q17 : (mI S 65 ((mI S 64 2) + (0 : Int32)).toNatClampNeg).toInt = (f 65 ((mI S 64 2) + (0 : Int32)).toNatClampNeg).toInt := zG_zi hI rfl
      have b18 := i_bd (mI S 65 ((mI S 64 2) + (0 : Int32)).toNatClampNeg)
      have li19 : (104 : Int32).toInt = 104 := rfl
      refine zd (fun h20 => ?_) (fun h20 => ?_)
      · skip
        have g21 := i_eq h20
        first | have e22 : ((mI S 64 2) + (1 : Int32)).toInt = (mI S 64 2).toInt + (1) := i_addk rfl (by omega) (by omega) | have b23 := i_bd ((mI S 64 2) + (1 : Int32))
        refine zd (fun h24 => ?_) (fun h24 => ?_)
        · skip
          have g25 := i_le h24
          have li26 : (1 : Int32).toInt = 1 := rfl
          exact K ((1 : Int32)) _ hI (by decide) (show ((1 : Int32) = 1 ∧ zwd (f 65) (f 64 2) ((f 64 3).toInt - (f 64 2).toInt) 104 97 108 118 101 115 0) ∨ ((1 : Int32) = 0 ∧ ¬ zwd (f 65) (f 64 2) ((f 64 3).toInt - (f 64 2).toInt) 104 97 108 118 101 115 0) from by first | (omega) | (rw [show f 65 = mI S 65 from funext (fun k => (zG_z hI rfl).symm), show f 64 2 = mI S 64 2 from (zG_z hI rfl).symm, show f 64 3 = mI S 64 3 from (zG_z hI rfl).symm]; exact Or.inl ⟨rfl, by rw [if_neg (by decide), if_neg (by decide), if_pos rfl]; omega, (by assumption), (by assumption), (by assumption), (by assumption), Or.inr (by assumption), Or.inr (Or.inr (by assumption)), Or.inr (Or.inr (Or.inl rfl))⟩) | (exfalso; omega)) (show zFm I0 L0 R0 S from by first | (exact hpre0))
        · skip
          have g27 := i_nle h24
          refine ⟨i_ix (by omega) (by omega), ?_⟩
          have q28 : (mI S 65 ((mI S 64 2) + (1 : Int32)).toNatClampNeg).toInt = (f 65 ((mI S 64 2) + (1 : Int32)).toNatClampNeg).toInt := zG_zi hI rfl
          have b29 := i_bd (mI S 65 ((mI S 64 2) + (1 : Int32)).toNatClampNeg)
          have li30 : (97 : Int32).toInt = 97 := rfl
          refine zd (fun h31 => ?_) (fun h31 => ?_)
          · skip
            have g32 := i_eq h31
            first | have e33 : ((mI S 64 2) + (2 : Int32)).toInt = (mI S 64 2).toInt + (2) := i_addk rfl (by omega) (by omega) | have b34 := i_bd ((mI S 64 2) + (2 : Int32))
            refine zd (fun h35 => ?_) (fun h35 => ?_)
            · skip
              have g36 := i_le h35
              have li37 : (1 : Int32).toInt = 1 := rfl
              exact K ((1 : Int32)) _ hI (by decide) (show ((1 : Int32) = 1 ∧ zwd (f 65) (f 64 2) ((f 64 3).toInt - (f 64 2).toInt) 104 97 108 118 101 115 0) ∨ ((1 : Int32) = 0 ∧ ¬ zwd (f 65) (f 64 2) ((f 64 3).toInt - (f 64 2).toInt) 104 97 108 118 101 115 0) from by first | (omega) | (rw [show f 65 = mI S 65 from funext (fun k => (zG_z hI rfl).symm), show f 64 2 = mI S 64 2 from (zG_z hI rfl).symm, show f 64 3 = mI S 64 3 from (zG_z hI rfl).symm]; exact Or.inl ⟨rfl, by rw [if_neg (by decide), if_neg (by decide), if_pos rfl]; omega, (by assumption), (by assumption), (by assumption), (by assumption), Or.inr (by assumption), Or.inr (Or.inr (by assumption)), Or.inr (Or.inr (Or.inl rfl))⟩) | (exfalso; omega)) (show zFm I0 L0 R0 S from by first | (exact hpre0))
            · skip
              have g38 := i_nle h35
              refine ⟨i_ix (by omega) (by omega), ?_⟩
              have q39 : (mI S 65 ((mI S 64 2) + (2 : Int32)).toNatClampNeg).toInt = (f 65 ((mI S 64 2) + (2 : Int32)).toNatClampNeg).toInt := zG_zi hI rfl
              have b40 := i_bd (mI S 65 ((mI S 64 2) + (2 : Int32)).toNatClampNeg)
              have li41 : (108 : Int32).toInt = 108 := rfl
              refine zd (fun h42 => ?_) (fun h42 => ?_)
              · skip
                have g43 := i_eq h42
                first | have e44 : ((mI S 64 2) + (3 : Int32)).toInt = (mI S 64 2).toInt + (3) := i_addk rfl (by omega) (by omega) | have b45 := i_bd ((mI S 64 2) + (3 : Int32))
                refine zd (fun h46 => ?_) (fun h46 => ?_)
                · skip
                  have g47 := i_le h46
                  have li48 : (1 : Int32).toInt = 1 := rfl
                  exact K ((1 : Int32)) _ hI (by decide) (show ((1 : Int32) = 1 ∧ zwd (f 65) (f 64 2) ((f 64 3).toInt - (f 64 2).toInt) 104 97 108 118 101 115 0) ∨ ((1 : Int32) = 0 ∧ ¬ zwd (f 65) (f 64 2) ((f 64 3).toInt - (f 64 2).toInt) 104 97 108 118 101 115 0) from by first | (omega) | (rw [show f 65 = mI S 65 from funext (fun k => (zG_z hI rfl).symm), show f 64 2 = mI S 64 2 from (zG_z hI rfl).symm, show f 64 3 = mI S 64 3 from (zG_z hI rfl).symm]; exact Or.inl ⟨rfl, by rw [if_neg (by decide), if_neg (by decide), if_pos rfl]; omega, (by assumption), (by assumption), (by assumption), (by assumption), Or.inr (by assumption), Or.inr (Or.inr (by assumption)), Or.inr (Or.inr (Or.inl rfl))⟩) | (exfalso; omega)) (show zFm I0 L0 R0 S from by first | (exact hpre0))
                · skip
                  have g49 := i_nle h46
                  refine ⟨i_ix (by omega) (by omega), ?_⟩
                  have q50 : (mI S 65 ((mI S 64 2) + (3 : Int32)).toNatClampNeg).toInt = (f 65 ((mI S 64 2) + (3 : Int32)).toNatClampNeg).toInt := zG_zi hI rfl
                  have b51 := i_bd (mI S 65 ((mI S 64 2) + (3 : Int32)).toNatClampNeg)
                  have li52 : (118 : Int32).toInt = 118 := rfl
                  refine zd (fun h53 => ?_) (fun h53 => ?_)
                  · skip
                    have g54 := i_eq h53
                    first | have e55 : ((mI S 64 2) + (4 : Int32)).toInt = (mI S 64 2).toInt + (4) := i_addk rfl (by omega) (by omega) | have b56 := i_bd ((mI S 64 2) + (4 : Int32))
                    refine zd (fun h57 => ?_) (fun h57 => ?_)
                    · skip
                      have g58 := i_le h57
                      have li59 : (1 : Int32).toInt = 1 := rfl
                      exact K ((1 : Int32)) _ hI (by decide) (show ((1 : Int32) = 1 ∧ zwd (f 65) (f 64 2) ((f 64 3).toInt - (f 64 2).toInt) 104 97 108 118 101 115 0) ∨ ((1 : Int32) = 0 ∧ ¬ zwd (f 65) (f 64 2) ((f 64 3).toInt - (f 64 2).toInt) 104 97 108 118 101 115 0) from by first | (omega) | (rw [show f 65 = mI S 65 from funext (fun k => (zG_z hI rfl).symm), show f 64 2 = mI S 64 2 from (zG_z hI rfl).symm, show f 64 3 = mI S 64 3 from (zG_z hI rfl).symm]; exact Or.inl ⟨rfl, by rw [if_neg (by decide), if_neg (by decide), if_pos rfl]; omega, (by assumption), (by assumption), (by assumption), (by assumption), Or.inr (by assumption), Or.inr (Or.inr (by assumption)), Or.inr (Or.inr (Or.inl rfl))⟩) | (exfalso; omega)) (show zFm I0 L0 R0 S from by first | (exact hpre0))
                    · skip
                      have g60 := i_nle h57
                      refine ⟨i_ix (by omega) (by omega), ?_⟩
                      have q61 : (mI S 65 ((mI S 64 2) + (4 : Int32)).toNatClampNeg).toInt = (f 65 ((mI S 64 2) + (4 : Int32)).toNatClampNeg).toInt := zG_zi hI rfl
                      have b62 := i_bd (mI S 65 ((mI S 64 2) + (4 : Int32)).toNatClampNeg)
                      have li63 : (101 : Int32).toInt = 101 := rfl
                      refine zd (fun h64 => ?_) (fun h64 => ?_)
                      · skip
                        have g65 := i_eq h64
                        first | have e66 : ((mI S 64 2) + (5 : Int32)).toInt = (mI S 64 2).toInt + (5) := i_addk rfl (by omega) (by omega) | have b67 := i_bd ((mI S 64 2) + (5 : Int32))
                        refine zd (fun h68 => ?_) (fun h68 => ?_)
                        · skip
                          have g69 := i_le h68
                          have li70 : (1 : Int32).toInt = 1 := rfl
                          exact K ((1 : Int32)) _ hI (by decide) (show ((1 : Int32) = 1 ∧ zwd (f 65) (f 64 2) ((f 64 3).toInt - (f 64 2).toInt) 104 97 108 118 101 115 0) ∨ ((1 : Int32) = 0 ∧ ¬ zwd (f 65) (f 64 2) ((f 64 3).toInt - (f 64 2).toInt) 104 97 108 118 101 115 0) from by first | (omega) | (rw [show f 65 = mI S 65 from funext (fun k => (zG_z hI rfl).symm), show f 64 2 = mI S 64 2 from (zG_z hI rfl).symm, show f 64 3 = mI S 64 3 from (zG_z hI rfl).symm]; exact Or.inl ⟨rfl, by rw [if_neg (by decide), if_neg (by decide), if_pos rfl]; omega, (by assumption), (by assumption), (by assumption), (by assumption), Or.inr (by assumption), Or.inr (Or.inr (by assumption)), Or.inr (Or.inr (Or.inl rfl))⟩) | (exfalso; omega)) (show zFm I0 L0 R0 S from by first | (exact hpre0))
                        · skip
                          have g71 := i_nle h68
                          refine ⟨i_ix (by omega) (by omega), ?_⟩
                          have q72 : (mI S 65 ((mI S 64 2) + (5 : Int32)).toNatClampNeg).toInt = (f 65 ((mI S 64 2) + (5 : Int32)).toNatClampNeg).toInt := zG_zi hI rfl
                          have b73 := i_bd (mI S 65 ((mI S 64 2) + (5 : Int32)).toNatClampNeg)
                          have li74 : (115 : Int32).toInt = 115 := rfl
                          refine zd (fun h75 => ?_) (fun h75 => ?_)
                          · skip
                            have g76 := i_eq h75
                            have li77 : (1 : Int32).toInt = 1 := rfl
                            exact K ((1 : Int32)) _ hI (by decide) (show ((1 : Int32) = 1 ∧ zwd (f 65) (f 64 2) ((f 64 3).toInt - (f 64 2).toInt) 104 97 108 118 101 115 0) ∨ ((1 : Int32) = 0 ∧ ¬ zwd (f 65) (f 64 2) ((f 64 3).toInt - (f 64 2).toInt) 104 97 108 118 101 115 0) from by first | (rw [show f 65 = mI S 65 from funext (fun k => (zG_z hI rfl).symm), show f 64 2 = mI S 64 2 from (zG_z hI rfl).symm, show f 64 3 = mI S 64 3 from (zG_z hI rfl).symm]; exact Or.inl ⟨rfl, by rw [if_neg (by decide), if_neg (by decide), if_pos rfl]; omega, (by assumption), (by assumption), (by assumption), (by assumption), Or.inr (by assumption), Or.inr (Or.inr (by assumption)), Or.inr (Or.inr (Or.inl rfl))⟩) | (omega) | (exfalso; omega)) (show zFm I0 L0 R0 S from by first | (exact hpre0))
                          · skip
                            have g78 := i_ne h75
                            have li79 : (0 : Int32).toInt = 0 := rfl
                            exact K ((0 : Int32)) _ hI (by decide) (show ((0 : Int32) = 1 ∧ zwd (f 65) (f 64 2) ((f 64 3).toInt - (f 64 2).toInt) 104 97 108 118 101 115 0) ∨ ((0 : Int32) = 0 ∧ ¬ zwd (f 65) (f 64 2) ((f 64 3).toInt - (f 64 2).toInt) 104 97 108 118 101 115 0) from by first | (rw [show f 65 = mI S 65 from funext (fun k => (zG_z hI rfl).symm), show f 64 2 = mI S 64 2 from (zG_z hI rfl).symm, show f 64 3 = mI S 64 3 from (zG_z hI rfl).symm]; exact Or.inr ⟨rfl, fun z => absurd (z.2.2.2.2.2.2.1.elim (fun y => absurd y (by decide)) (fun y => y.elim (fun y => absurd y (by decide)) id)) (by assumption)⟩) | (rw [show f 65 = mI S 65 from funext (fun k => (zG_z hI rfl).symm), show f 64 2 = mI S 64 2 from (zG_z hI rfl).symm, show f 64 3 = mI S 64 3 from (zG_z hI rfl).symm]; exact Or.inr ⟨rfl, fun z => absurd z.2.1 (by assumption)⟩) | (rw [show f 65 = mI S 65 from funext (fun k => (zG_z hI rfl).symm), show f 64 2 = mI S 64 2 from (zG_z hI rfl).symm, show f 64 3 = mI S 64 3 from (zG_z hI rfl).symm]; exact Or.inr ⟨rfl, fun z => absurd z.2.2.1 (by assumption)⟩) | (rw [show f 65 = mI S 65 from funext (fun k => (zG_z hI rfl).symm), show f 64 2 = mI S 64 2 from (zG_z hI rfl).symm, show f 64 3 = mI S 64 3 from (zG_z hI rfl).symm]; exact Or.inr ⟨rfl, fun z => absurd z.2.2.2.1 (by assumption)⟩) | (rw [show f 65 = mI S 65 from funext (fun k => (zG_z hI rfl).symm), show f 64 2 = mI S 64 2 from (zG_z hI rfl).symm, show f 64 3 = mI S 64 3 from (zG_z hI rfl).symm]; exact Or.inr ⟨rfl, fun z => absurd z.2.2.2.2.1 (by assumption)⟩) | (rw [show f 65 = mI S 65 from funext (fun k => (zG_z hI rfl).symm), show f 64 2 = mI S 64 2 from (zG_z hI rfl).symm, show f 64 3 = mI S 64 3 from (zG_z hI rfl).symm]; exact Or.inr ⟨rfl, fun z => absurd (z.2.2.2.2.2.1.elim (fun y => absurd y (by decide)) id) (by assumption)⟩) | (rw [show f 65 = mI S 65 from funext (fun k => (zG_z hI rfl).symm), show f 64 2 = mI S 64 2 from (zG_z hI rfl).symm, show f 64 3 = mI S 64 3 from (zG_z hI rfl).symm]; exact Or.inr ⟨rfl, fun z => by have y := z.1; rw [if_neg (by decide), if_neg (by decide), if_pos rfl] at y; omega⟩) | (omega) | (exfalso; omega)) (show zFm I0 L0 R0 S from by first | (exact hpre0))
                      · skip
                        have g80 := i_ne h64
                        have li81 : (0 : Int32).toInt = 0 := rfl
                        exact K ((0 : Int32)) _ hI (by decide) (show ((0 : Int32) = 1 ∧ zwd (f 65) (f 64 2) ((f 64 3).toInt - (f 64 2).toInt) 104 97 108 118 101 115 0) ∨ ((0 : Int32) = 0 ∧ ¬ zwd (f 65) (f 64 2) ((f 64 3).toInt - (f 64 2).toInt) 104 97 108 118 101 115 0) from by first | (rw [show f 65 = mI S 65 from funext (fun k => (zG_z hI rfl).symm), show f 64 2 = mI S 64 2 from (zG_z hI rfl).symm, show f 64 3 = mI S 64 3 from (zG_z hI rfl).symm]; exact Or.inr ⟨rfl, fun z => absurd (z.2.2.2.2.2.1.elim (fun y => absurd y (by decide)) id) (by assumption)⟩) | (rw [show f 65 = mI S 65 from funext (fun k => (zG_z hI rfl).symm), show f 64 2 = mI S 64 2 from (zG_z hI rfl).symm, show f 64 3 = mI S 64 3 from (zG_z hI rfl).symm]; exact Or.inr ⟨rfl, fun z => absurd z.2.1 (by assumption)⟩) | (rw [show f 65 = mI S 65 from funext (fun k => (zG_z hI rfl).symm), show f 64 2 = mI S 64 2 from (zG_z hI rfl).symm, show f 64 3 = mI S 64 3 from (zG_z hI rfl).symm]; exact Or.inr ⟨rfl, fun z => absurd z.2.2.1 (by assumption)⟩) | (rw [show f 65 = mI S 65 from funext (fun k => (zG_z hI rfl).symm), show f 64 2 = mI S 64 2 from (zG_z hI rfl).symm, show f 64 3 = mI S 64 3 from (zG_z hI rfl).symm]; exact Or.inr ⟨rfl, fun z => absurd z.2.2.2.1 (by assumption)⟩) | (rw [show f 65 = mI S 65 from funext (fun k => (zG_z hI rfl).symm), show f 64 2 = mI S 64 2 from (zG_z hI rfl).symm, show f 64 3 = mI S 64 3 from (zG_z hI rfl).symm]; exact Or.inr ⟨rfl, fun z => absurd z.2.2.2.2.1 (by assumption)⟩) | (rw [show f 65 = mI S 65 from funext (fun k => (zG_z hI rfl).symm), show f 64 2 = mI S 64 2 from (zG_z hI rfl).symm, show f 64 3 = mI S 64 3 from (zG_z hI rfl).symm]; exact Or.inr ⟨rfl, fun z => absurd (z.2.2.2.2.2.2.1.elim (fun y => absurd y (by decide)) (fun y => y.elim (fun y => absurd y (by decide)) id)) (by assumption)⟩) | (rw [show f 65 = mI S 65 from funext (fun k => (zG_z hI rfl).symm), show f 64 2 = mI S 64 2 from (zG_z hI rfl).symm, show f 64 3 = mI S 64 3 from (zG_z hI rfl).symm]; exact Or.inr ⟨rfl, fun z => by have y := z.1; rw [if_neg (by decide), if_neg (by decide), if_pos rfl] at y; omega⟩) | (omega) | (exfalso; omega)) (show zFm I0 L0 R0 S from by first | (exact hpre0))
                  · skip
                    have g82 := i_ne h53
                    have li83 : (0 : Int32).toInt = 0 := rfl
                    exact K ((0 : Int32)) _ hI (by decide) (show ((0 : Int32) = 1 ∧ zwd (f 65) (f 64 2) ((f 64 3).toInt - (f 64 2).toInt) 104 97 108 118 101 115 0) ∨ ((0 : Int32) = 0 ∧ ¬ zwd (f 65) (f 64 2) ((f 64 3).toInt - (f 64 2).toInt) 104 97 108 118 101 115 0) from by first | (rw [show f 65 = mI S 65 from funext (fun k => (zG_z hI rfl).symm), show f 64 2 = mI S 64 2 from (zG_z hI rfl).symm, show f 64 3 = mI S 64 3 from (zG_z hI rfl).symm]; exact Or.inr ⟨rfl, fun z => absurd z.2.2.2.2.1 (by assumption)⟩) | (rw [show f 65 = mI S 65 from funext (fun k => (zG_z hI rfl).symm), show f 64 2 = mI S 64 2 from (zG_z hI rfl).symm, show f 64 3 = mI S 64 3 from (zG_z hI rfl).symm]; exact Or.inr ⟨rfl, fun z => absurd z.2.1 (by assumption)⟩) | (rw [show f 65 = mI S 65 from funext (fun k => (zG_z hI rfl).symm), show f 64 2 = mI S 64 2 from (zG_z hI rfl).symm, show f 64 3 = mI S 64 3 from (zG_z hI rfl).symm]; exact Or.inr ⟨rfl, fun z => absurd z.2.2.1 (by assumption)⟩) | (rw [show f 65 = mI S 65 from funext (fun k => (zG_z hI rfl).symm), show f 64 2 = mI S 64 2 from (zG_z hI rfl).symm, show f 64 3 = mI S 64 3 from (zG_z hI rfl).symm]; exact Or.inr ⟨rfl, fun z => absurd z.2.2.2.1 (by assumption)⟩) | (rw [show f 65 = mI S 65 from funext (fun k => (zG_z hI rfl).symm), show f 64 2 = mI S 64 2 from (zG_z hI rfl).symm, show f 64 3 = mI S 64 3 from (zG_z hI rfl).symm]; exact Or.inr ⟨rfl, fun z => absurd (z.2.2.2.2.2.1.elim (fun y => absurd y (by decide)) id) (by assumption)⟩) | (rw [show f 65 = mI S 65 from funext (fun k => (zG_z hI rfl).symm), show f 64 2 = mI S 64 2 from (zG_z hI rfl).symm, show f 64 3 = mI S 64 3 from (zG_z hI rfl).symm]; exact Or.inr ⟨rfl, fun z => absurd (z.2.2.2.2.2.2.1.elim (fun y => absurd y (by decide)) (fun y => y.elim (fun y => absurd y (by decide)) id)) (by assumption)⟩) | (rw [show f 65 = mI S 65 from funext (fun k => (zG_z hI rfl).symm), show f 64 2 = mI S 64 2 from (zG_z hI rfl).symm, show f 64 3 = mI S 64 3 from (zG_z hI rfl).symm]; exact Or.inr ⟨rfl, fun z => by have y := z.1; rw [if_neg (by decide), if_neg (by decide), if_pos rfl] at y; omega⟩) | (omega) | (exfalso; omega)) (show zFm I0 L0 R0 S from by first | (exact hpre0))
              · skip
                have g84 := i_ne h42
                have li85 : (0 : Int32).toInt = 0 := rfl
                exact K ((0 : Int32)) _ hI (by decide) (show ((0 : Int32) = 1 ∧ zwd (f 65) (f 64 2) ((f 64 3).toInt - (f 64 2).toInt) 104 97 108 118 101 115 0) ∨ ((0 : Int32) = 0 ∧ ¬ zwd (f 65) (f 64 2) ((f 64 3).toInt - (f 64 2).toInt) 104 97 108 118 101 115 0) from by first | (rw [show f 65 = mI S 65 from funext (fun k => (zG_z hI rfl).symm), show f 64 2 = mI S 64 2 from (zG_z hI rfl).symm, show f 64 3 = mI S 64 3 from (zG_z hI rfl).symm]; exact Or.inr ⟨rfl, fun z => absurd z.2.2.2.1 (by assumption)⟩) | (rw [show f 65 = mI S 65 from funext (fun k => (zG_z hI rfl).symm), show f 64 2 = mI S 64 2 from (zG_z hI rfl).symm, show f 64 3 = mI S 64 3 from (zG_z hI rfl).symm]; exact Or.inr ⟨rfl, fun z => absurd z.2.1 (by assumption)⟩) | (rw [show f 65 = mI S 65 from funext (fun k => (zG_z hI rfl).symm), show f 64 2 = mI S 64 2 from (zG_z hI rfl).symm, show f 64 3 = mI S 64 3 from (zG_z hI rfl).symm]; exact Or.inr ⟨rfl, fun z => absurd z.2.2.1 (by assumption)⟩) | (rw [show f 65 = mI S 65 from funext (fun k => (zG_z hI rfl).symm), show f 64 2 = mI S 64 2 from (zG_z hI rfl).symm, show f 64 3 = mI S 64 3 from (zG_z hI rfl).symm]; exact Or.inr ⟨rfl, fun z => absurd z.2.2.2.2.1 (by assumption)⟩) | (rw [show f 65 = mI S 65 from funext (fun k => (zG_z hI rfl).symm), show f 64 2 = mI S 64 2 from (zG_z hI rfl).symm, show f 64 3 = mI S 64 3 from (zG_z hI rfl).symm]; exact Or.inr ⟨rfl, fun z => absurd (z.2.2.2.2.2.1.elim (fun y => absurd y (by decide)) id) (by assumption)⟩) | (rw [show f 65 = mI S 65 from funext (fun k => (zG_z hI rfl).symm), show f 64 2 = mI S 64 2 from (zG_z hI rfl).symm, show f 64 3 = mI S 64 3 from (zG_z hI rfl).symm]; exact Or.inr ⟨rfl, fun z => absurd (z.2.2.2.2.2.2.1.elim (fun y => absurd y (by decide)) (fun y => y.elim (fun y => absurd y (by decide)) id)) (by assumption)⟩) | (rw [show f 65 = mI S 65 from funext (fun k => (zG_z hI rfl).symm), show f 64 2 = mI S 64 2 from (zG_z hI rfl).symm, show f 64 3 = mI S 64 3 from (zG_z hI rfl).symm]; exact Or.inr ⟨rfl, fun z => by have y := z.1; rw [if_neg (by decide), if_neg (by decide), if_pos rfl] at y; omega⟩) | (omega) | (exfalso; omega)) (show zFm I0 L0 R0 S from by first | (exact hpre0))
          · skip
            have g86 := i_ne h31
            have li87 : (0 : Int32).toInt = 0 := rfl
            exact K ((0 : Int32)) _ hI (by decide) (show ((0 : Int32) = 1 ∧ zwd (f 65) (f 64 2) ((f 64 3).toInt - (f 64 2).toInt) 104 97 108 118 101 115 0) ∨ ((0 : Int32) = 0 ∧ ¬ zwd (f 65) (f 64 2) ((f 64 3).toInt - (f 64 2).toInt) 104 97 108 118 101 115 0) from by first | (rw [show f 65 = mI S 65 from funext (fun k => (zG_z hI rfl).symm), show f 64 2 = mI S 64 2 from (zG_z hI rfl).symm, show f 64 3 = mI S 64 3 from (zG_z hI rfl).symm]; exact Or.inr ⟨rfl, fun z => absurd z.2.2.1 (by assumption)⟩) | (rw [show f 65 = mI S 65 from funext (fun k => (zG_z hI rfl).symm), show f 64 2 = mI S 64 2 from (zG_z hI rfl).symm, show f 64 3 = mI S 64 3 from (zG_z hI rfl).symm]; exact Or.inr ⟨rfl, fun z => absurd z.2.1 (by assumption)⟩) | (rw [show f 65 = mI S 65 from funext (fun k => (zG_z hI rfl).symm), show f 64 2 = mI S 64 2 from (zG_z hI rfl).symm, show f 64 3 = mI S 64 3 from (zG_z hI rfl).symm]; exact Or.inr ⟨rfl, fun z => absurd z.2.2.2.1 (by assumption)⟩) | (rw [show f 65 = mI S 65 from funext (fun k => (zG_z hI rfl).symm), show f 64 2 = mI S 64 2 from (zG_z hI rfl).symm, show f 64 3 = mI S 64 3 from (zG_z hI rfl).symm]; exact Or.inr ⟨rfl, fun z => absurd z.2.2.2.2.1 (by assumption)⟩) | (rw [show f 65 = mI S 65 from funext (fun k => (zG_z hI rfl).symm), show f 64 2 = mI S 64 2 from (zG_z hI rfl).symm, show f 64 3 = mI S 64 3 from (zG_z hI rfl).symm]; exact Or.inr ⟨rfl, fun z => absurd (z.2.2.2.2.2.1.elim (fun y => absurd y (by decide)) id) (by assumption)⟩) | (rw [show f 65 = mI S 65 from funext (fun k => (zG_z hI rfl).symm), show f 64 2 = mI S 64 2 from (zG_z hI rfl).symm, show f 64 3 = mI S 64 3 from (zG_z hI rfl).symm]; exact Or.inr ⟨rfl, fun z => absurd (z.2.2.2.2.2.2.1.elim (fun y => absurd y (by decide)) (fun y => y.elim (fun y => absurd y (by decide)) id)) (by assumption)⟩) | (rw [show f 65 = mI S 65 from funext (fun k => (zG_z hI rfl).symm), show f 64 2 = mI S 64 2 from (zG_z hI rfl).symm, show f 64 3 = mI S 64 3 from (zG_z hI rfl).symm]; exact Or.inr ⟨rfl, fun z => by have y := z.1; rw [if_neg (by decide), if_neg (by decide), if_pos rfl] at y; omega⟩) | (omega) | (exfalso; omega)) (show zFm I0 L0 R0 S from by first | (exact hpre0))
      · skip
        have g88 := i_ne h20
        have li89 : (0 : Int32).toInt = 0 := rfl
        exact K ((0 : Int32)) _ hI (by decide) (show ((0 : Int32) = 1 ∧ zwd (f 65) (f 64 2) ((f 64 3).toInt - (f 64 2).toInt) 104 97 108 118 101 115 0) ∨ ((0 : Int32) = 0 ∧ ¬ zwd (f 65) (f 64 2) ((f 64 3).toInt - (f 64 2).toInt) 104 97 108 118 101 115 0) from by first | (rw [show f 65 = mI S 65 from funext (fun k => (zG_z hI rfl).symm), show f 64 2 = mI S 64 2 from (zG_z hI rfl).symm, show f 64 3 = mI S 64 3 from (zG_z hI rfl).symm]; exact Or.inr ⟨rfl, fun z => absurd z.2.1 (by assumption)⟩) | (rw [show f 65 = mI S 65 from funext (fun k => (zG_z hI rfl).symm), show f 64 2 = mI S 64 2 from (zG_z hI rfl).symm, show f 64 3 = mI S 64 3 from (zG_z hI rfl).symm]; exact Or.inr ⟨rfl, fun z => absurd z.2.2.1 (by assumption)⟩) | (rw [show f 65 = mI S 65 from funext (fun k => (zG_z hI rfl).symm), show f 64 2 = mI S 64 2 from (zG_z hI rfl).symm, show f 64 3 = mI S 64 3 from (zG_z hI rfl).symm]; exact Or.inr ⟨rfl, fun z => absurd z.2.2.2.1 (by assumption)⟩) | (rw [show f 65 = mI S 65 from funext (fun k => (zG_z hI rfl).symm), show f 64 2 = mI S 64 2 from (zG_z hI rfl).symm, show f 64 3 = mI S 64 3 from (zG_z hI rfl).symm]; exact Or.inr ⟨rfl, fun z => absurd z.2.2.2.2.1 (by assumption)⟩) | (rw [show f 65 = mI S 65 from funext (fun k => (zG_z hI rfl).symm), show f 64 2 = mI S 64 2 from (zG_z hI rfl).symm, show f 64 3 = mI S 64 3 from (zG_z hI rfl).symm]; exact Or.inr ⟨rfl, fun z => absurd (z.2.2.2.2.2.1.elim (fun y => absurd y (by decide)) id) (by assumption)⟩) | (rw [show f 65 = mI S 65 from funext (fun k => (zG_z hI rfl).symm), show f 64 2 = mI S 64 2 from (zG_z hI rfl).symm, show f 64 3 = mI S 64 3 from (zG_z hI rfl).symm]; exact Or.inr ⟨rfl, fun z => absurd (z.2.2.2.2.2.2.1.elim (fun y => absurd y (by decide)) (fun y => y.elim (fun y => absurd y (by decide)) id)) (by assumption)⟩) | (rw [show f 65 = mI S 65 from funext (fun k => (zG_z hI rfl).symm), show f 64 2 = mI S 64 2 from (zG_z hI rfl).symm, show f 64 3 = mI S 64 3 from (zG_z hI rfl).symm]; exact Or.inr ⟨rfl, fun z => by have y := z.1; rw [if_neg (by decide), if_neg (by decide), if_pos rfl] at y; omega⟩) | (omega) | (exfalso; omega)) (show zFm I0 L0 R0 S from by first | (exact hpre0))
  · skip
    have g90 := i_ne h8
    have li91 : (0 : Int32).toInt = 0 := rfl
    exact K ((0 : Int32)) _ hI (by decide) (show ((0 : Int32) = 1 ∧ zwd (f 65) (f 64 2) ((f 64 3).toInt - (f 64 2).toInt) 104 97 108 118 101 115 0) ∨ ((0 : Int32) = 0 ∧ ¬ zwd (f 65) (f 64 2) ((f 64 3).toInt - (f 64 2).toInt) 104 97 108 118 101 115 0) from by first | (rw [show f 65 = mI S 65 from funext (fun k => (zG_z hI rfl).symm), show f 64 2 = mI S 64 2 from (zG_z hI rfl).symm, show f 64 3 = mI S 64 3 from (zG_z hI rfl).symm]; exact Or.inr ⟨rfl, fun z => by have y := z.1; rw [if_neg (by decide), if_neg (by decide), if_pos rfl] at y; omega⟩) | (rw [show f 65 = mI S 65 from funext (fun k => (zG_z hI rfl).symm), show f 64 2 = mI S 64 2 from (zG_z hI rfl).symm, show f 64 3 = mI S 64 3 from (zG_z hI rfl).symm]; exact Or.inr ⟨rfl, fun z => absurd z.2.1 (by assumption)⟩) | (rw [show f 65 = mI S 65 from funext (fun k => (zG_z hI rfl).symm), show f 64 2 = mI S 64 2 from (zG_z hI rfl).symm, show f 64 3 = mI S 64 3 from (zG_z hI rfl).symm]; exact Or.inr ⟨rfl, fun z => absurd z.2.2.1 (by assumption)⟩) | (rw [show f 65 = mI S 65 from funext (fun k => (zG_z hI rfl).symm), show f 64 2 = mI S 64 2 from (zG_z hI rfl).symm, show f 64 3 = mI S 64 3 from (zG_z hI rfl).symm]; exact Or.inr ⟨rfl, fun z => absurd z.2.2.2.1 (by assumption)⟩) | (rw [show f 65 = mI S 65 from funext (fun k => (zG_z hI rfl).symm), show f 64 2 = mI S 64 2 from (zG_z hI rfl).symm, show f 64 3 = mI S 64 3 from (zG_z hI rfl).symm]; exact Or.inr ⟨rfl, fun z => absurd z.2.2.2.2.1 (by assumption)⟩) | (rw [show f 65 = mI S 65 from funext (fun k => (zG_z hI rfl).symm), show f 64 2 = mI S 64 2 from (zG_z hI rfl).symm, show f 64 3 = mI S 64 3 from (zG_z hI rfl).symm]; exact Or.inr ⟨rfl, fun z => absurd (z.2.2.2.2.2.1.elim (fun y => absurd y (by decide)) id) (by assumption)⟩) | (rw [show f 65 = mI S 65 from funext (fun k => (zG_z hI rfl).symm), show f 64 2 = mI S 64 2 from (zG_z hI rfl).symm, show f 64 3 = mI S 64 3 from (zG_z hI rfl).symm]; exact Or.inr ⟨rfl, fun z => absurd (z.2.2.2.2.2.2.1.elim (fun y => absurd y (by decide)) (fun y => y.elim (fun y => absurd y (by decide)) id)) (by assumption)⟩) | (omega) | (exfalso; omega)) (show zFm I0 L0 R0 S from by first | (exact hpre0))

/-! from 95.i14 -/
/-! the class opens a heap (written by wip/tools/gen18c.py) -/
theorem g_131_64_3_sq_0 {X : Nat × (Nat → Int32)} {d w : Nat} {S : ma_S} {Q : Option ma_V ⊕ Nat → ma_S → Prop}  (hd : 5 ≤ d) (hw : 100 ≤ w) (hS : zT S) (h : if ((mI S 64 3) - (mI S 64 2)) = (4 : Int32) then (if (100 : Int32) ≤ ((mI S 64 2) + (0 : Int32)) then (Q (.inl (some (.inl (1 : Int32)))) S) else ((0 ≤ ((mI S 64 2) + (0 : Int32)) ∧ ((mI S 64 2) + (0 : Int32)).toNatClampNeg < 100) ∧ (if (mI S 65 ((mI S 64 2) + (0 : Int32)).toNatClampNeg) = (97 : Int32) then (if (100 : Int32) ≤ ((mI S 64 2) + (1 : Int32)) then (Q (.inl (some (.inl (1 : Int32)))) S) else ((0 ≤ ((mI S 64 2) + (1 : Int32)) ∧ ((mI S 64 2) + (1 : Int32)).toNatClampNeg < 100) ∧ (if (mI S 65 ((mI S 64 2) + (1 : Int32)).toNatClampNeg) = (103 : Int32) then (if (100 : Int32) ≤ ((mI S 64 2) + (2 : Int32)) then (Q (.inl (some (.inl (1 : Int32)))) S) else ((0 ≤ ((mI S 64 2) + (2 : Int32)) ∧ ((mI S 64 2) + (2 : Int32)).toNatClampNeg < 100) ∧ (if (mI S 65 ((mI S 64 2) + (2 : Int32)).toNatClampNeg) = (101 : Int32) then (if (100 : Int32) ≤ ((mI S 64 2) + (3 : Int32)) then (Q (.inl (some (.inl (1 : Int32)))) S) else ((0 ≤ ((mI S 64 2) + (3 : Int32)) ∧ ((mI S 64 2) + (3 : Int32)).toNatClampNeg < 100) ∧ (if (mI S 65 ((mI S 64 2) + (3 : Int32)).toNatClampNeg) = (115 : Int32) then (Q (.inl (some (.inl (1 : Int32)))) S) else (Q (.inl (some (.inl (0 : Int32)))) S)))) else (Q (.inl (some (.inl (0 : Int32)))) S)))) else (Q (.inl (some (.inl (0 : Int32)))) S)))) else (Q (.inl (some (.inl (0 : Int32)))) S)))) else (Q (.inl (some (.inl (0 : Int32)))) S)) : ma_wp X d w 131 0 [(0, .inr (.inr (some 64))), (1, .inr (.inr (some 3)))] [] S Q := by
  refine zw_push hm_131 dX11_tokenIs_0 (v := .inr (.inr (some 64))) rfl ?_
  refine zw_gf hm_131 dX11_tokenIs_1 (v := .inl (mI S 64 3)) (zT_is hS s_64) (zT_t hS s_64) rfl f_11_275_11 rfl ?_
  refine zw_push hm_131 dX11_tokenIs_4 (v := .inr (.inr (some 64))) rfl ?_
  refine zw_gf hm_131 dX11_tokenIs_5 (v := .inl (mI S 64 2)) (zT_is hS s_64) (zT_t hS s_64) rfl f_11_92_11 rfl ?_
  refine zw_stk hm_131 dX11_tokenIs_8 (st₉ := [.inl ((mI S 64 3) - (mI S 64 2))]) rfl rfl ?_
  refine zw_push hm_131 dX11_tokenIs_9 (v := .inr (.inr (some 3))) rfl ?_
  refine zw_cv hm_131 dX11_tokenIs_10 v_11_288_17 hm_277 [] [.inl ((mI S 64 3) - (mI S 64 2))] rfl rfl ⟨by omega, by omega⟩ rfl (tx_len (v := (4 : Int32)) (by decide) (by omega) (by omega) rfl rfl ?_)
  show ma_wp X d w 131 13 [(0, .inr (.inr (some 64))), (1, .inr (.inr (some 3)))] [.inl (4 : Int32), .inl ((mI S 64 3) - (mI S 64 2))] S _
  refine zw_if2 hm_131 dX11_tokenIs_13 (t := 18) rfl zc2_eq ?_ ?_
  · intro hc
    rw [if_pos hc] at h
    refine zw_push hm_131 dX11_tokenIs_18 (v := .inl (0 : Int32)) rfl ?_
    refine zw_sto hm_131 dX11_tokenIs_19 [(2, .inl (0 : Int32)), (0, .inr (.inr (some 64))), (1, .inr (.inr (some 3)))] rfl rfl rfl ?_
    refine zw_push hm_131 dX11_tokenIs_20 (v := .inl (0 : Int32)) rfl ?_
    refine zw_push hm_131 dX11_tokenIs_21 (v := .inr (.inr (some 3))) rfl ?_
    refine zw_cv hm_131 dX11_tokenIs_22 v_11_288_17 hm_277 [] [.inl (0 : Int32)] rfl rfl ⟨by omega, by omega⟩ rfl (tx_len (v := (4 : Int32)) (by decide) (by omega) (by omega) rfl rfl ?_)
    show ma_wp X d w 131 25 [(2, .inl (0 : Int32)), (0, .inr (.inr (some 64))), (1, .inr (.inr (some 3)))] [.inl (4 : Int32), .inl (0 : Int32)] S _
    refine zw_if2 hm_131 dX11_tokenIs_25 (t := 66) rfl zc2_ge (fun hc => absurd hc (by decide)) (fun _ => ?_)
    refine zw_push hm_131 dX11_tokenIs_28 (v := .inr (.inr (some 64))) rfl ?_
    refine zw_gf hm_131 dX11_tokenIs_29 (v := .inl (mI S 64 2)) (zT_is hS s_64) (zT_t hS s_64) rfl f_11_92_11 rfl ?_
    refine zw_push hm_131 dX11_tokenIs_32 (v := .inl (0 : Int32)) rfl ?_
    refine zw_stk hm_131 dX11_tokenIs_33 (st₉ := [.inl ((mI S 64 2) + (0 : Int32))]) rfl rfl ?_
    refine zw_push hm_131 dX11_tokenIs_34 (v := .inl (100 : Int32)) rfl ?_
    refine zw_if2 hm_131 dX11_tokenIs_36 (t := 66) rfl zc2_ge ?_ ?_
    · intro hc
      rw [if_pos hc] at h
      refine zw_push hm_131 dX11_tokenIs_66 (v := .inl (1 : Int32)) rfl ?_
      exact zw_bret hm_131 dX11_tokenIs_67 (by decide) h
    · intro hc
      rw [if_neg hc] at h
      refine zw_push hm_131 dX11_tokenIs_39 (v := .inr (.inr (some 64))) rfl ?_
      refine zw_gf hm_131 dX11_tokenIs_40 (v := .inr (.inr (some 65))) (zT_is hS s_64) (zT_t hS s_64) rfl f_11_9_11 (zT_f hS r_64_0) ?_
      refine zw_push hm_131 dX11_tokenIs_43 (v := .inr (.inr (some 64))) rfl ?_
      refine zw_gf hm_131 dX11_tokenIs_44 (v := .inl (mI S 64 2)) (zT_is hS s_64) (zT_t hS s_64) rfl f_11_92_11 rfl ?_
      refine zw_push hm_131 dX11_tokenIs_47 (v := .inl (0 : Int32)) rfl ?_
      refine zw_stk hm_131 dX11_tokenIs_48 (st₉ := [.inl ((mI S 64 2) + (0 : Int32)), .inr (.inr (some 65))]) rfl rfl ?_
      obtain ⟨hg, h⟩ := h
      refine zw_ba hm_131 dX11_tokenIs_49 (zT_is hS s_65) (zT_h hS s_65) rfl rfl hg ?_
      show ma_wp X d w 131 50 [(2, .inl (0 : Int32)), (0, .inr (.inr (some 64))), (1, .inr (.inr (some 3)))] [.inl (mI S 65 ((mI S 64 2) + (0 : Int32)).toNatClampNeg)] S _
      refine zw_push hm_131 dX11_tokenIs_50 (v := .inr (.inr (some 3))) rfl ?_
      refine zw_push hm_131 dX11_tokenIs_51 (v := .inl (0 : Int32)) rfl ?_
      refine zw_cv hm_131 dX11_tokenIs_52 v_11_293_17 hm_279 [.inl (0 : Int32)] [.inl (mI S 65 ((mI S 64 2) + (0 : Int32)).toNatClampNeg)] rfl rfl ⟨by omega, by omega⟩ rfl (tx_char (v := (97 : Int32)) (by decide) (by omega) (by omega) (by decide) (by decide) (by decide) (by decide) ?_)
      show ma_wp X d w 131 55 [(2, .inl (0 : Int32)), (0, .inr (.inr (some 64))), (1, .inr (.inr (some 3)))] [.inl (97 : Int32), .inl (mI S 65 ((mI S 64 2) + (0 : Int32)).toNatClampNeg)] S _
      refine zw_if2 hm_131 dX11_tokenIs_55 (t := 60) rfl zc2_eq ?_ ?_
      · intro hc
        rw [if_pos hc] at h
        refine zw_sto hm_131 dX11_tokenIs_60 [(2, .inl (1 : Int32)), (0, .inr (.inr (some 64))), (1, .inr (.inr (some 3)))] rfl rfl rfl ?_
        refine zw_goto hm_131 dX11_tokenIs_63 (t := 20) rfl ?_
        refine zw_push hm_131 dX11_tokenIs_20 (v := .inl (1 : Int32)) rfl ?_
        refine zw_push hm_131 dX11_tokenIs_21 (v := .inr (.inr (some 3))) rfl ?_
        refine zw_cv hm_131 dX11_tokenIs_22 v_11_288_17 hm_277 [] [.inl (1 : Int32)] rfl rfl ⟨by omega, by omega⟩ rfl (tx_len (v := (4 : Int32)) (by decide) (by omega) (by omega) rfl rfl ?_)
        show ma_wp X d w 131 25 [(2, .inl (1 : Int32)), (0, .inr (.inr (some 64))), (1, .inr (.inr (some 3)))] [.inl (4 : Int32), .inl (1 : Int32)] S _
        refine zw_if2 hm_131 dX11_tokenIs_25 (t := 66) rfl zc2_ge (fun hc => absurd hc (by decide)) (fun _ => ?_)
        refine zw_push hm_131 dX11_tokenIs_28 (v := .inr (.inr (some 64))) rfl ?_
        refine zw_gf hm_131 dX11_tokenIs_29 (v := .inl (mI S 64 2)) (zT_is hS s_64) (zT_t hS s_64) rfl f_11_92_11 rfl ?_
        refine zw_push hm_131 dX11_tokenIs_32 (v := .inl (1 : Int32)) rfl ?_
        refine zw_stk hm_131 dX11_tokenIs_33 (st₉ := [.inl ((mI S 64 2) + (1 : Int32))]) rfl rfl ?_
        refine zw_push hm_131 dX11_tokenIs_34 (v := .inl (100 : Int32)) rfl ?_
        refine zw_if2 hm_131 dX11_tokenIs_36 (t := 66) rfl zc2_ge ?_ ?_
        · intro hc
          rw [if_pos hc] at h
          refine zw_push hm_131 dX11_tokenIs_66 (v := .inl (1 : Int32)) rfl ?_
          exact zw_bret hm_131 dX11_tokenIs_67 (by decide) h
        · intro hc
          rw [if_neg hc] at h
          refine zw_push hm_131 dX11_tokenIs_39 (v := .inr (.inr (some 64))) rfl ?_
          refine zw_gf hm_131 dX11_tokenIs_40 (v := .inr (.inr (some 65))) (zT_is hS s_64) (zT_t hS s_64) rfl f_11_9_11 (zT_f hS r_64_0) ?_
          refine zw_push hm_131 dX11_tokenIs_43 (v := .inr (.inr (some 64))) rfl ?_
          refine zw_gf hm_131 dX11_tokenIs_44 (v := .inl (mI S 64 2)) (zT_is hS s_64) (zT_t hS s_64) rfl f_11_92_11 rfl ?_
          refine zw_push hm_131 dX11_tokenIs_47 (v := .inl (1 : Int32)) rfl ?_
          refine zw_stk hm_131 dX11_tokenIs_48 (st₉ := [.inl ((mI S 64 2) + (1 : Int32)), .inr (.inr (some 65))]) rfl rfl ?_
          obtain ⟨hg, h⟩ := h
          refine zw_ba hm_131 dX11_tokenIs_49 (zT_is hS s_65) (zT_h hS s_65) rfl rfl hg ?_
          show ma_wp X d w 131 50 [(2, .inl (1 : Int32)), (0, .inr (.inr (some 64))), (1, .inr (.inr (some 3)))] [.inl (mI S 65 ((mI S 64 2) + (1 : Int32)).toNatClampNeg)] S _
          refine zw_push hm_131 dX11_tokenIs_50 (v := .inr (.inr (some 3))) rfl ?_
          refine zw_push hm_131 dX11_tokenIs_51 (v := .inl (1 : Int32)) rfl ?_
          refine zw_cv hm_131 dX11_tokenIs_52 v_11_293_17 hm_279 [.inl (1 : Int32)] [.inl (mI S 65 ((mI S 64 2) + (1 : Int32)).toNatClampNeg)] rfl rfl ⟨by omega, by omega⟩ rfl (tx_char (v := (103 : Int32)) (by decide) (by omega) (by omega) (by decide) (by decide) (by decide) (by decide) ?_)
          show ma_wp X d w 131 55 [(2, .inl (1 : Int32)), (0, .inr (.inr (some 64))), (1, .inr (.inr (some 3)))] [.inl (103 : Int32), .inl (mI S 65 ((mI S 64 2) + (1 : Int32)).toNatClampNeg)] S _
          refine zw_if2 hm_131 dX11_tokenIs_55 (t := 60) rfl zc2_eq ?_ ?_
          · intro hc
            rw [if_pos hc] at h
            refine zw_sto hm_131 dX11_tokenIs_60 [(2, .inl (2 : Int32)), (0, .inr (.inr (some 64))), (1, .inr (.inr (some 3)))] rfl rfl rfl ?_
            refine zw_goto hm_131 dX11_tokenIs_63 (t := 20) rfl ?_
            refine zw_push hm_131 dX11_tokenIs_20 (v := .inl (2 : Int32)) rfl ?_
            refine zw_push hm_131 dX11_tokenIs_21 (v := .inr (.inr (some 3))) rfl ?_
            refine zw_cv hm_131 dX11_tokenIs_22 v_11_288_17 hm_277 [] [.inl (2 : Int32)] rfl rfl ⟨by omega, by omega⟩ rfl (tx_len (v := (4 : Int32)) (by decide) (by omega) (by omega) rfl rfl ?_)
            show ma_wp X d w 131 25 [(2, .inl (2 : Int32)), (0, .inr (.inr (some 64))), (1, .inr (.inr (some 3)))] [.inl (4 : Int32), .inl (2 : Int32)] S _
            refine zw_if2 hm_131 dX11_tokenIs_25 (t := 66) rfl zc2_ge (fun hc => absurd hc (by decide)) (fun _ => ?_)
            refine zw_push hm_131 dX11_tokenIs_28 (v := .inr (.inr (some 64))) rfl ?_
            refine zw_gf hm_131 dX11_tokenIs_29 (v := .inl (mI S 64 2)) (zT_is hS s_64) (zT_t hS s_64) rfl f_11_92_11 rfl ?_
            refine zw_push hm_131 dX11_tokenIs_32 (v := .inl (2 : Int32)) rfl ?_
            refine zw_stk hm_131 dX11_tokenIs_33 (st₉ := [.inl ((mI S 64 2) + (2 : Int32))]) rfl rfl ?_
            refine zw_push hm_131 dX11_tokenIs_34 (v := .inl (100 : Int32)) rfl ?_
            refine zw_if2 hm_131 dX11_tokenIs_36 (t := 66) rfl zc2_ge ?_ ?_
            · intro hc
              rw [if_pos hc] at h
              refine zw_push hm_131 dX11_tokenIs_66 (v := .inl (1 : Int32)) rfl ?_
              exact zw_bret hm_131 dX11_tokenIs_67 (by decide) h
            · intro hc
              rw [if_neg hc] at h
              refine zw_push hm_131 dX11_tokenIs_39 (v := .inr (.inr (some 64))) rfl ?_
              refine zw_gf hm_131 dX11_tokenIs_40 (v := .inr (.inr (some 65))) (zT_is hS s_64) (zT_t hS s_64) rfl f_11_9_11 (zT_f hS r_64_0) ?_
              refine zw_push hm_131 dX11_tokenIs_43 (v := .inr (.inr (some 64))) rfl ?_
              refine zw_gf hm_131 dX11_tokenIs_44 (v := .inl (mI S 64 2)) (zT_is hS s_64) (zT_t hS s_64) rfl f_11_92_11 rfl ?_
              refine zw_push hm_131 dX11_tokenIs_47 (v := .inl (2 : Int32)) rfl ?_
              refine zw_stk hm_131 dX11_tokenIs_48 (st₉ := [.inl ((mI S 64 2) + (2 : Int32)), .inr (.inr (some 65))]) rfl rfl ?_
              obtain ⟨hg, h⟩ := h
              refine zw_ba hm_131 dX11_tokenIs_49 (zT_is hS s_65) (zT_h hS s_65) rfl rfl hg ?_
              show ma_wp X d w 131 50 [(2, .inl (2 : Int32)), (0, .inr (.inr (some 64))), (1, .inr (.inr (some 3)))] [.inl (mI S 65 ((mI S 64 2) + (2 : Int32)).toNatClampNeg)] S _
              refine zw_push hm_131 dX11_tokenIs_50 (v := .inr (.inr (some 3))) rfl ?_
              refine zw_push hm_131 dX11_tokenIs_51 (v := .inl (2 : Int32)) rfl ?_
              refine zw_cv hm_131 dX11_tokenIs_52 v_11_293_17 hm_279 [.inl (2 : Int32)] [.inl (mI S 65 ((mI S 64 2) + (2 : Int32)).toNatClampNeg)] rfl rfl ⟨by omega, by omega⟩ rfl (tx_char (v := (101 : Int32)) (by decide) (by omega) (by omega) (by decide) (by decide) (by decide) (by decide) ?_)
              show ma_wp X d w 131 55 [(2, .inl (2 : Int32)), (0, .inr (.inr (some 64))), (1, .inr (.inr (some 3)))] [.inl (101 : Int32), .inl (mI S 65 ((mI S 64 2) + (2 : Int32)).toNatClampNeg)] S _
              refine zw_if2 hm_131 dX11_tokenIs_55 (t := 60) rfl zc2_eq ?_ ?_
              · intro hc
                rw [if_pos hc] at h
                refine zw_sto hm_131 dX11_tokenIs_60 [(2, .inl (3 : Int32)), (0, .inr (.inr (some 64))), (1, .inr (.inr (some 3)))] rfl rfl rfl ?_
                refine zw_goto hm_131 dX11_tokenIs_63 (t := 20) rfl ?_
                refine zw_push hm_131 dX11_tokenIs_20 (v := .inl (3 : Int32)) rfl ?_
                refine zw_push hm_131 dX11_tokenIs_21 (v := .inr (.inr (some 3))) rfl ?_
                refine zw_cv hm_131 dX11_tokenIs_22 v_11_288_17 hm_277 [] [.inl (3 : Int32)] rfl rfl ⟨by omega, by omega⟩ rfl (tx_len (v := (4 : Int32)) (by decide) (by omega) (by omega) rfl rfl ?_)
                show ma_wp X d w 131 25 [(2, .inl (3 : Int32)), (0, .inr (.inr (some 64))), (1, .inr (.inr (some 3)))] [.inl (4 : Int32), .inl (3 : Int32)] S _
                refine zw_if2 hm_131 dX11_tokenIs_25 (t := 66) rfl zc2_ge (fun hc => absurd hc (by decide)) (fun _ => ?_)
                refine zw_push hm_131 dX11_tokenIs_28 (v := .inr (.inr (some 64))) rfl ?_
                refine zw_gf hm_131 dX11_tokenIs_29 (v := .inl (mI S 64 2)) (zT_is hS s_64) (zT_t hS s_64) rfl f_11_92_11 rfl ?_
                refine zw_push hm_131 dX11_tokenIs_32 (v := .inl (3 : Int32)) rfl ?_
                refine zw_stk hm_131 dX11_tokenIs_33 (st₉ := [.inl ((mI S 64 2) + (3 : Int32))]) rfl rfl ?_
                refine zw_push hm_131 dX11_tokenIs_34 (v := .inl (100 : Int32)) rfl ?_
                refine zw_if2 hm_131 dX11_tokenIs_36 (t := 66) rfl zc2_ge ?_ ?_
                · intro hc
                  rw [if_pos hc] at h
                  refine zw_push hm_131 dX11_tokenIs_66 (v := .inl (1 : Int32)) rfl ?_
                  exact zw_bret hm_131 dX11_tokenIs_67 (by decide) h
                · intro hc
                  rw [if_neg hc] at h
                  refine zw_push hm_131 dX11_tokenIs_39 (v := .inr (.inr (some 64))) rfl ?_
                  refine zw_gf hm_131 dX11_tokenIs_40 (v := .inr (.inr (some 65))) (zT_is hS s_64) (zT_t hS s_64) rfl f_11_9_11 (zT_f hS r_64_0) ?_
                  refine zw_push hm_131 dX11_tokenIs_43 (v := .inr (.inr (some 64))) rfl ?_
                  refine zw_gf hm_131 dX11_tokenIs_44 (v := .inl (mI S 64 2)) (zT_is hS s_64) (zT_t hS s_64) rfl f_11_92_11 rfl ?_
                  refine zw_push hm_131 dX11_tokenIs_47 (v := .inl (3 : Int32)) rfl ?_
                  refine zw_stk hm_131 dX11_tokenIs_48 (st₉ := [.inl ((mI S 64 2) + (3 : Int32)), .inr (.inr (some 65))]) rfl rfl ?_
                  obtain ⟨hg, h⟩ := h
                  refine zw_ba hm_131 dX11_tokenIs_49 (zT_is hS s_65) (zT_h hS s_65) rfl rfl hg ?_
                  show ma_wp X d w 131 50 [(2, .inl (3 : Int32)), (0, .inr (.inr (some 64))), (1, .inr (.inr (some 3)))] [.inl (mI S 65 ((mI S 64 2) + (3 : Int32)).toNatClampNeg)] S _
                  refine zw_push hm_131 dX11_tokenIs_50 (v := .inr (.inr (some 3))) rfl ?_
                  refine zw_push hm_131 dX11_tokenIs_51 (v := .inl (3 : Int32)) rfl ?_
                  refine zw_cv hm_131 dX11_tokenIs_52 v_11_293_17 hm_279 [.inl (3 : Int32)] [.inl (mI S 65 ((mI S 64 2) + (3 : Int32)).toNatClampNeg)] rfl rfl ⟨by omega, by omega⟩ rfl (tx_char (v := (115 : Int32)) (by decide) (by omega) (by omega) (by decide) (by decide) (by decide) (by decide) ?_)
                  show ma_wp X d w 131 55 [(2, .inl (3 : Int32)), (0, .inr (.inr (some 64))), (1, .inr (.inr (some 3)))] [.inl (115 : Int32), .inl (mI S 65 ((mI S 64 2) + (3 : Int32)).toNatClampNeg)] S _
                  refine zw_if2 hm_131 dX11_tokenIs_55 (t := 60) rfl zc2_eq ?_ ?_
                  · intro hc
                    rw [if_pos hc] at h
                    refine zw_sto hm_131 dX11_tokenIs_60 [(2, .inl (4 : Int32)), (0, .inr (.inr (some 64))), (1, .inr (.inr (some 3)))] rfl rfl rfl ?_
                    refine zw_goto hm_131 dX11_tokenIs_63 (t := 20) rfl ?_
                    refine zw_push hm_131 dX11_tokenIs_20 (v := .inl (4 : Int32)) rfl ?_
                    refine zw_push hm_131 dX11_tokenIs_21 (v := .inr (.inr (some 3))) rfl ?_
                    refine zw_cv hm_131 dX11_tokenIs_22 v_11_288_17 hm_277 [] [.inl (4 : Int32)] rfl rfl ⟨by omega, by omega⟩ rfl (tx_len (v := (4 : Int32)) (by decide) (by omega) (by omega) rfl rfl ?_)
                    show ma_wp X d w 131 25 [(2, .inl (4 : Int32)), (0, .inr (.inr (some 64))), (1, .inr (.inr (some 3)))] [.inl (4 : Int32), .inl (4 : Int32)] S _
                    refine zw_if2 hm_131 dX11_tokenIs_25 (t := 66) rfl zc2_ge (fun _ => ?_) (fun hc => absurd (by decide) hc)
                    refine zw_push hm_131 dX11_tokenIs_66 (v := .inl (1 : Int32)) rfl ?_
                    exact zw_bret hm_131 dX11_tokenIs_67 (by decide) h
                  · intro hc
                    rw [if_neg hc] at h
                    refine zw_push hm_131 dX11_tokenIs_58 (v := .inl (0 : Int32)) rfl ?_
                    exact zw_bret hm_131 dX11_tokenIs_59 (by decide) h
              · intro hc
                rw [if_neg hc] at h
                refine zw_push hm_131 dX11_tokenIs_58 (v := .inl (0 : Int32)) rfl ?_
                exact zw_bret hm_131 dX11_tokenIs_59 (by decide) h
          · intro hc
            rw [if_neg hc] at h
            refine zw_push hm_131 dX11_tokenIs_58 (v := .inl (0 : Int32)) rfl ?_
            exact zw_bret hm_131 dX11_tokenIs_59 (by decide) h
      · intro hc
        rw [if_neg hc] at h
        refine zw_push hm_131 dX11_tokenIs_58 (v := .inl (0 : Int32)) rfl ?_
        exact zw_bret hm_131 dX11_tokenIs_59 (by decide) h
  · intro hc
    rw [if_neg hc] at h
    refine zw_push hm_131 dX11_tokenIs_16 (v := .inl (0 : Int32)) rfl ?_
    exact zw_bret hm_131 dX11_tokenIs_17 (by decide) h
theorem sp_131_64_3_sq {X : Nat × (Nat → Int32)} {d w : Nat} {f : Nat → Nat → Int32} {r : Nat → Nat → Option Nat} {C Z N : Nat} {Q : Option ma_V ⊕ Nat → ma_S → Prop} {I0 : Nat→Nat→Int32} {L0 : Nat→Nat→Int64} {R0 : zRT} {S : ma_S}  (hd : 5 ≤ d) (hw : 100 ≤ w) (hI : zY0 f r C Z N S) (hpre0 : zFm I0 L0 R0 S) (K : ∀ v S₉, zY0 f r C Z N S₉ → (v = 0 ∨ v = 1) → ((v = 1 ∧ zwd (f 65) (f 64 2) ((f 64 3).toInt - (f 64 2).toInt) 97 103 101 115 0 0 0) ∨ (v = 0 ∧ ¬ zwd (f 65) (f 64 2) ((f 64 3).toInt - (f 64 2).toInt) 97 103 101 115 0 0 0)) → (zFm I0 L0 R0 S₉) → Q (.inl (some (.inl v))) S₉) : ma_wp X d w 131 0 [(0, .inr (.inr (some 64))), (1, .inr (.inr (some 3)))] [] S Q := by
  refine g_131_64_3_sq_0  (by omega) (by omega) (zG_T hI) ?_
  have q1 : (mI S 64 3).toInt = (f 64 3).toInt := zG_zi hI rfl
  have f2 := zG_s hI (0) (100) (c := 64) (k := 3) (by decide)
  have q3 : (mI S 64 2).toInt = (f 64 2).toInt := zG_zi hI rfl
  have f4 := zG_s hI (0) (100) (c := 64) (k := 2) (by decide)
  first | have e5 : ((mI S 64 3) - (mI S 64 2)).toInt = (mI S 64 3).toInt - (mI S 64 2).toInt := i_sub (by omega) (by omega) | have b6 := i_bd ((mI S 64 3) - (mI S 64 2))
  have li7 : (4 : Int32).toInt = 4 := rfl
  refine zd (fun h8 => ?_) (fun h8 => ?_)
  · skip
    have g9 := i_eq h8
    have li10 : (100 : Int32).toInt = 100 := rfl
    first | have e11 : ((mI S 64 2) + (0 : Int32)).toInt = (mI S 64 2).toInt + (0) := i_addk rfl (by omega) (by omega) | have b12 := i_bd ((mI S 64 2) + (0 : Int32))
    refine zd (fun h13 => ?_) (fun h13 => ?_)
    · skip
      have g14 := i_le h13
      have li15 : (1 : Int32).toInt = 1 := rfl
      exact K ((1 : Int32)) _ hI (by decide) (show ((1 : Int32) = 1 ∧ zwd (f 65) (f 64 2) ((f 64 3).toInt - (f 64 2).toInt) 97 103 101 115 0 0 0) ∨ ((1 : Int32) = 0 ∧ ¬ zwd (f 65) (f 64 2) ((f 64 3).toInt - (f 64 2).toInt) 97 103 101 115 0 0 0) from by first | (rw [show f 65 = mI S 65 from funext (fun k => (zG_z hI rfl).symm), show f 64 2 = mI S 64 2 from (zG_z hI rfl).symm, show f 64 3 = mI S 64 3 from (zG_z hI rfl).symm]; exact Or.inl ⟨rfl, by rw [if_pos rfl]; omega, (by assumption), (by assumption), (by assumption), (by assumption), Or.inl rfl, Or.inl rfl, Or.inl rfl⟩) | (omega) | (exfalso; omega)) (show zFm I0 L0 R0 S from by first | (exact hpre0))
    · skip
      have g16 := i_nle h13
      refine ⟨i_ix (by omega) (by omega), ?_⟩
      have q17 : (mI S 65 ((mI S 64 2) + (0 : Int32)).toNatClampNeg).toInt = (f 65 ((mI S 64 2) + (0 : Int32)).toNatClampNeg).toInt := zG_zi hI rfl
      have b18 := i_bd (mI S 65 ((mI S 64 2) + (0 : Int32)).toNatClampNeg)
      have li19 : (97 : Int32).toInt = 97 := rfl
      refine zd (fun h20 => ?_) (fun h20 => ?_)
      · skip
        have g21 := i_eq h20
        first | have e22 : ((mI S 64 2) + (1 : Int32)).toInt = (mI S 64 2).toInt + (1) := i_addk rfl (by omega) (by omega) | have b23 := i_bd ((mI S 64 2) + (1 : Int32))
        refine zd (fun h24 => ?_) (fun h24 => ?_)
        · skip
          have g25 := i_le h24
          have li26 : (1 : Int32).toInt = 1 := rfl
          exact K ((1 : Int32)) _ hI (by decide) (show ((1 : Int32) = 1 ∧ zwd (f 65) (f 64 2) ((f 64 3).toInt - (f 64 2).toInt) 97 103 101 115 0 0 0) ∨ ((1 : Int32) = 0 ∧ ¬ zwd (f 65) (f 64 2) ((f 64 3).toInt - (f 64 2).toInt) 97 103 101 115 0 0 0) from by first | (rw [show f 65 = mI S 65 from funext (fun k => (zG_z hI rfl).symm), show f 64 2 = mI S 64 2 from (zG_z hI rfl).symm, show f 64 3 = mI S 64 3 from (zG_z hI rfl).symm]; exact Or.inl ⟨rfl, by rw [if_pos rfl]; omega, (by assumption), (by assumption), (by assumption), (by assumption), Or.inl rfl, Or.inl rfl, Or.inl rfl⟩) | (omega) | (exfalso; omega)) (show zFm I0 L0 R0 S from by first | (exact hpre0))
        · skip
          have g27 := i_nle h24
          refine ⟨i_ix (by omega) (by omega), ?_⟩
          have q28 : (mI S 65 ((mI S 64 2) + (1 : Int32)).toNatClampNeg).toInt = (f 65 ((mI S 64 2) + (1 : Int32)).toNatClampNeg).toInt := zG_zi hI rfl
          have b29 := i_bd (mI S 65 ((mI S 64 2) + (1 : Int32)).toNatClampNeg)
          have li30 : (103 : Int32).toInt = 103 := rfl
          refine zd (fun h31 => ?_) (fun h31 => ?_)
          · skip
            have g32 := i_eq h31
            first | have e33 : ((mI S 64 2) + (2 : Int32)).toInt = (mI S 64 2).toInt + (2) := i_addk rfl (by omega) (by omega) | have b34 := i_bd ((mI S 64 2) + (2 : Int32))
            refine zd (fun h35 => ?_) (fun h35 => ?_)
            · skip
              have g36 := i_le h35
              have li37 : (1 : Int32).toInt = 1 := rfl
              exact K ((1 : Int32)) _ hI (by decide) (show ((1 : Int32) = 1 ∧ zwd (f 65) (f 64 2) ((f 64 3).toInt - (f 64 2).toInt) 97 103 101 115 0 0 0) ∨ ((1 : Int32) = 0 ∧ ¬ zwd (f 65) (f 64 2) ((f 64 3).toInt - (f 64 2).toInt) 97 103 101 115 0 0 0) from by first | (rw [show f 65 = mI S 65 from funext (fun k => (zG_z hI rfl).symm), show f 64 2 = mI S 64 2 from (zG_z hI rfl).symm, show f 64 3 = mI S 64 3 from (zG_z hI rfl).symm]; exact Or.inl ⟨rfl, by rw [if_pos rfl]; omega, (by assumption), (by assumption), (by assumption), (by assumption), Or.inl rfl, Or.inl rfl, Or.inl rfl⟩) | (omega) | (exfalso; omega)) (show zFm I0 L0 R0 S from by first | (exact hpre0))
            · skip
              have g38 := i_nle h35
              refine ⟨i_ix (by omega) (by omega), ?_⟩
              have q39 : (mI S 65 ((mI S 64 2) + (2 : Int32)).toNatClampNeg).toInt = (f 65 ((mI S 64 2) + (2 : Int32)).toNatClampNeg).toInt := zG_zi hI rfl
              have b40 := i_bd (mI S 65 ((mI S 64 2) + (2 : Int32)).toNatClampNeg)
              have li41 : (101 : Int32).toInt = 101 := rfl
              refine zd (fun h42 => ?_) (fun h42 => ?_)
              · skip
                have g43 := i_eq h42
                first | have e44 : ((mI S 64 2) + (3 : Int32)).toInt = (mI S 64 2).toInt + (3) := i_addk rfl (by omega) (by omega) | have b45 := i_bd ((mI S 64 2) + (3 : Int32))
                refine zd (fun h46 => ?_) (fun h46 => ?_)
                · skip
                  have g47 := i_le h46
                  have li48 : (1 : Int32).toInt = 1 := rfl
                  exact K ((1 : Int32)) _ hI (by decide) (show ((1 : Int32) = 1 ∧ zwd (f 65) (f 64 2) ((f 64 3).toInt - (f 64 2).toInt) 97 103 101 115 0 0 0) ∨ ((1 : Int32) = 0 ∧ ¬ zwd (f 65) (f 64 2) ((f 64 3).toInt - (f 64 2).toInt) 97 103 101 115 0 0 0) from by first | (rw [show f 65 = mI S 65 from funext (fun k => (zG_z hI rfl).symm), show f 64 2 = mI S 64 2 from (zG_z hI rfl).symm, show f 64 3 = mI S 64 3 from (zG_z hI rfl).symm]; exact Or.inl ⟨rfl, by rw [if_pos rfl]; omega, (by assumption), (by assumption), (by assumption), (by assumption), Or.inl rfl, Or.inl rfl, Or.inl rfl⟩) | (omega) | (exfalso; omega)) (show zFm I0 L0 R0 S from by first | (exact hpre0))
                · skip
                  have g49 := i_nle h46
                  refine ⟨i_ix (by omega) (by omega), ?_⟩
                  have q50 : (mI S 65 ((mI S 64 2) + (3 : Int32)).toNatClampNeg).toInt = (f 65 ((mI S 64 2) + (3 : Int32)).toNatClampNeg).toInt := zG_zi hI rfl
                  have b51 := i_bd (mI S 65 ((mI S 64 2) + (3 : Int32)).toNatClampNeg)
                  have li52 : (115 : Int32).toInt = 115 := rfl
                  refine zd (fun h53 => ?_) (fun h53 => ?_)
                  · skip
                    have g54 := i_eq h53
                    have li55 : (1 : Int32).toInt = 1 := rfl
                    exact K ((1 : Int32)) _ hI (by decide) (show ((1 : Int32) = 1 ∧ zwd (f 65) (f 64 2) ((f 64 3).toInt - (f 64 2).toInt) 97 103 101 115 0 0 0) ∨ ((1 : Int32) = 0 ∧ ¬ zwd (f 65) (f 64 2) ((f 64 3).toInt - (f 64 2).toInt) 97 103 101 115 0 0 0) from by first | (rw [show f 65 = mI S 65 from funext (fun k => (zG_z hI rfl).symm), show f 64 2 = mI S 64 2 from (zG_z hI rfl).symm, show f 64 3 = mI S 64 3 from (zG_z hI rfl).symm]; exact Or.inl ⟨rfl, by rw [if_pos rfl]; omega, (by assumption), (by assumption), (by assumption), (by assumption), Or.inl rfl, Or.inl rfl, Or.inl rfl⟩) | (omega) | (exfalso; omega)) (show zFm I0 L0 R0 S from by first | (exact hpre0))
                  · skip
                    have g56 := i_ne h53
                    have li57 : (0 : Int32).toInt = 0 := rfl
                    exact K ((0 : Int32)) _ hI (by decide) (show ((0 : Int32) = 1 ∧ zwd (f 65) (f 64 2) ((f 64 3).toInt - (f 64 2).toInt) 97 103 101 115 0 0 0) ∨ ((0 : Int32) = 0 ∧ ¬ zwd (f 65) (f 64 2) ((f 64 3).toInt - (f 64 2).toInt) 97 103 101 115 0 0 0) from by first | (rw [show f 65 = mI S 65 from funext (fun k => (zG_z hI rfl).symm), show f 64 2 = mI S 64 2 from (zG_z hI rfl).symm, show f 64 3 = mI S 64 3 from (zG_z hI rfl).symm]; exact Or.inr ⟨rfl, fun z => absurd z.2.1 (by assumption)⟩) | (rw [show f 65 = mI S 65 from funext (fun k => (zG_z hI rfl).symm), show f 64 2 = mI S 64 2 from (zG_z hI rfl).symm, show f 64 3 = mI S 64 3 from (zG_z hI rfl).symm]; exact Or.inr ⟨rfl, fun z => absurd z.2.2.1 (by assumption)⟩) | (rw [show f 65 = mI S 65 from funext (fun k => (zG_z hI rfl).symm), show f 64 2 = mI S 64 2 from (zG_z hI rfl).symm, show f 64 3 = mI S 64 3 from (zG_z hI rfl).symm]; exact Or.inr ⟨rfl, fun z => absurd z.2.2.2.1 (by assumption)⟩) | (rw [show f 65 = mI S 65 from funext (fun k => (zG_z hI rfl).symm), show f 64 2 = mI S 64 2 from (zG_z hI rfl).symm, show f 64 3 = mI S 64 3 from (zG_z hI rfl).symm]; exact Or.inr ⟨rfl, fun z => absurd z.2.2.2.2.1 (by assumption)⟩) | (rw [show f 65 = mI S 65 from funext (fun k => (zG_z hI rfl).symm), show f 64 2 = mI S 64 2 from (zG_z hI rfl).symm, show f 64 3 = mI S 64 3 from (zG_z hI rfl).symm]; exact Or.inr ⟨rfl, fun z => by have y := z.1; rw [if_pos rfl] at y; omega⟩) | (omega) | (exfalso; omega)) (show zFm I0 L0 R0 S from by first | (exact hpre0))
              · skip
                have g58 := i_ne h42
                have li59 : (0 : Int32).toInt = 0 := rfl
                exact K ((0 : Int32)) _ hI (by decide) (show ((0 : Int32) = 1 ∧ zwd (f 65) (f 64 2) ((f 64 3).toInt - (f 64 2).toInt) 97 103 101 115 0 0 0) ∨ ((0 : Int32) = 0 ∧ ¬ zwd (f 65) (f 64 2) ((f 64 3).toInt - (f 64 2).toInt) 97 103 101 115 0 0 0) from by first | (rw [show f 65 = mI S 65 from funext (fun k => (zG_z hI rfl).symm), show f 64 2 = mI S 64 2 from (zG_z hI rfl).symm, show f 64 3 = mI S 64 3 from (zG_z hI rfl).symm]; exact Or.inr ⟨rfl, fun z => absurd z.2.1 (by assumption)⟩) | (rw [show f 65 = mI S 65 from funext (fun k => (zG_z hI rfl).symm), show f 64 2 = mI S 64 2 from (zG_z hI rfl).symm, show f 64 3 = mI S 64 3 from (zG_z hI rfl).symm]; exact Or.inr ⟨rfl, fun z => absurd z.2.2.1 (by assumption)⟩) | (rw [show f 65 = mI S 65 from funext (fun k => (zG_z hI rfl).symm), show f 64 2 = mI S 64 2 from (zG_z hI rfl).symm, show f 64 3 = mI S 64 3 from (zG_z hI rfl).symm]; exact Or.inr ⟨rfl, fun z => absurd z.2.2.2.1 (by assumption)⟩) | (rw [show f 65 = mI S 65 from funext (fun k => (zG_z hI rfl).symm), show f 64 2 = mI S 64 2 from (zG_z hI rfl).symm, show f 64 3 = mI S 64 3 from (zG_z hI rfl).symm]; exact Or.inr ⟨rfl, fun z => absurd z.2.2.2.2.1 (by assumption)⟩) | (rw [show f 65 = mI S 65 from funext (fun k => (zG_z hI rfl).symm), show f 64 2 = mI S 64 2 from (zG_z hI rfl).symm, show f 64 3 = mI S 64 3 from (zG_z hI rfl).symm]; exact Or.inr ⟨rfl, fun z => by have y := z.1; rw [if_pos rfl] at y; omega⟩) | (omega) | (exfalso; omega)) (show zFm I0 L0 R0 S from by first | (exact hpre0))
          · skip
            have g60 := i_ne h31
            have li61 : (0 : Int32).toInt = 0 := rfl
            exact K ((0 : Int32)) _ hI (by decide) (show ((0 : Int32) = 1 ∧ zwd (f 65) (f 64 2) ((f 64 3).toInt - (f 64 2).toInt) 97 103 101 115 0 0 0) ∨ ((0 : Int32) = 0 ∧ ¬ zwd (f 65) (f 64 2) ((f 64 3).toInt - (f 64 2).toInt) 97 103 101 115 0 0 0) from by first | (rw [show f 65 = mI S 65 from funext (fun k => (zG_z hI rfl).symm), show f 64 2 = mI S 64 2 from (zG_z hI rfl).symm, show f 64 3 = mI S 64 3 from (zG_z hI rfl).symm]; exact Or.inr ⟨rfl, fun z => absurd z.2.1 (by assumption)⟩) | (rw [show f 65 = mI S 65 from funext (fun k => (zG_z hI rfl).symm), show f 64 2 = mI S 64 2 from (zG_z hI rfl).symm, show f 64 3 = mI S 64 3 from (zG_z hI rfl).symm]; exact Or.inr ⟨rfl, fun z => absurd z.2.2.1 (by assumption)⟩) | (rw [show f 65 = mI S 65 from funext (fun k => (zG_z hI rfl).symm), show f 64 2 = mI S 64 2 from (zG_z hI rfl).symm, show f 64 3 = mI S 64 3 from (zG_z hI rfl).symm]; exact Or.inr ⟨rfl, fun z => absurd z.2.2.2.1 (by assumption)⟩) | (rw [show f 65 = mI S 65 from funext (fun k => (zG_z hI rfl).symm), show f 64 2 = mI S 64 2 from (zG_z hI rfl).symm, show f 64 3 = mI S 64 3 from (zG_z hI rfl).symm]; exact Or.inr ⟨rfl, fun z => absurd z.2.2.2.2.1 (by assumption)⟩) | (rw [show f 65 = mI S 65 from funext (fun k => (zG_z hI rfl).symm), show f 64 2 = mI S 64 2 from (zG_z hI rfl).symm, show f 64 3 = mI S 64 3 from (zG_z hI rfl).symm]; exact Or.inr ⟨rfl, fun z => by have y := z.1; rw [if_pos rfl] at y; omega⟩) | (omega) | (exfalso; omega)) (show zFm I0 L0 R0 S from by first | (exact hpre0))
      · skip
        have g62 := i_ne h20
        have li63 : (0 : Int32).toInt = 0 := rfl
        exact K ((0 : Int32)) _ hI (by decide) (show ((0 : Int32) = 1 ∧ zwd (f 65) (f 64 2) ((f 64 3).toInt - (f 64 2).toInt) 97 103 101 115 0 0 0) ∨ ((0 : Int32) = 0 ∧ ¬ zwd (f 65) (f 64 2) ((f 64 3).toInt - (f 64 2).toInt) 97 103 101 115 0 0 0) from by first | (rw [show f 65 = mI S 65 from funext (fun k => (zG_z hI rfl).symm), show f 64 2 = mI S 64 2 from (zG_z hI rfl).symm, show f 64 3 = mI S 64 3 from (zG_z hI rfl).symm]; exact Or.inr ⟨rfl, fun z => absurd z.2.1 (by assumption)⟩) | (rw [show f 65 = mI S 65 from funext (fun k => (zG_z hI rfl).symm), show f 64 2 = mI S 64 2 from (zG_z hI rfl).symm, show f 64 3 = mI S 64 3 from (zG_z hI rfl).symm]; exact Or.inr ⟨rfl, fun z => absurd z.2.2.1 (by assumption)⟩) | (rw [show f 65 = mI S 65 from funext (fun k => (zG_z hI rfl).symm), show f 64 2 = mI S 64 2 from (zG_z hI rfl).symm, show f 64 3 = mI S 64 3 from (zG_z hI rfl).symm]; exact Or.inr ⟨rfl, fun z => absurd z.2.2.2.1 (by assumption)⟩) | (rw [show f 65 = mI S 65 from funext (fun k => (zG_z hI rfl).symm), show f 64 2 = mI S 64 2 from (zG_z hI rfl).symm, show f 64 3 = mI S 64 3 from (zG_z hI rfl).symm]; exact Or.inr ⟨rfl, fun z => absurd z.2.2.2.2.1 (by assumption)⟩) | (rw [show f 65 = mI S 65 from funext (fun k => (zG_z hI rfl).symm), show f 64 2 = mI S 64 2 from (zG_z hI rfl).symm, show f 64 3 = mI S 64 3 from (zG_z hI rfl).symm]; exact Or.inr ⟨rfl, fun z => by have y := z.1; rw [if_pos rfl] at y; omega⟩) | (omega) | (exfalso; omega)) (show zFm I0 L0 R0 S from by first | (exact hpre0))
  · skip
    have g64 := i_ne h8
    have li65 : (0 : Int32).toInt = 0 := rfl
    exact K ((0 : Int32)) _ hI (by decide) (show ((0 : Int32) = 1 ∧ zwd (f 65) (f 64 2) ((f 64 3).toInt - (f 64 2).toInt) 97 103 101 115 0 0 0) ∨ ((0 : Int32) = 0 ∧ ¬ zwd (f 65) (f 64 2) ((f 64 3).toInt - (f 64 2).toInt) 97 103 101 115 0 0 0) from by first | (rw [show f 65 = mI S 65 from funext (fun k => (zG_z hI rfl).symm), show f 64 2 = mI S 64 2 from (zG_z hI rfl).symm, show f 64 3 = mI S 64 3 from (zG_z hI rfl).symm]; exact Or.inr ⟨rfl, fun z => absurd z.2.1 (by assumption)⟩) | (rw [show f 65 = mI S 65 from funext (fun k => (zG_z hI rfl).symm), show f 64 2 = mI S 64 2 from (zG_z hI rfl).symm, show f 64 3 = mI S 64 3 from (zG_z hI rfl).symm]; exact Or.inr ⟨rfl, fun z => absurd z.2.2.1 (by assumption)⟩) | (rw [show f 65 = mI S 65 from funext (fun k => (zG_z hI rfl).symm), show f 64 2 = mI S 64 2 from (zG_z hI rfl).symm, show f 64 3 = mI S 64 3 from (zG_z hI rfl).symm]; exact Or.inr ⟨rfl, fun z => absurd z.2.2.2.1 (by assumption)⟩) | (rw [show f 65 = mI S 65 from funext (fun k => (zG_z hI rfl).symm), show f 64 2 = mI S 64 2 from (zG_z hI rfl).symm, show f 64 3 = mI S 64 3 from (zG_z hI rfl).symm]; exact Or.inr ⟨rfl, fun z => absurd z.2.2.2.2.1 (by assumption)⟩) | (rw [show f 65 = mI S 65 from funext (fun k => (zG_z hI rfl).symm), show f 64 2 = mI S 64 2 from (zG_z hI rfl).symm, show f 64 3 = mI S 64 3 from (zG_z hI rfl).symm]; exact Or.inr ⟨rfl, fun z => by have y := z.1; rw [if_pos rfl] at y; omega⟩) | (omega) | (exfalso; omega)) (show zFm I0 L0 R0 S from by first | (exact hpre0))

/-! from 95.i15 -/
/-! the class opens a heap (written by wip/tools/gen18c.py) -/
theorem g_131_64_4_sq_0 {X : Nat × (Nat → Int32)} {d w : Nat} {S : ma_S} {Q : Option ma_V ⊕ Nat → ma_S → Prop}  (hd : 5 ≤ d) (hw : 100 ≤ w) (hS : zT S) (h : if ((mI S 64 3) - (mI S 64 2)) = (6 : Int32) then (if (100 : Int32) ≤ ((mI S 64 2) + (0 : Int32)) then (Q (.inl (some (.inl (1 : Int32)))) S) else ((0 ≤ ((mI S 64 2) + (0 : Int32)) ∧ ((mI S 64 2) + (0 : Int32)).toNatClampNeg < 100) ∧ (if (mI S 65 ((mI S 64 2) + (0 : Int32)).toNatClampNeg) = (99 : Int32) then (if (100 : Int32) ≤ ((mI S 64 2) + (1 : Int32)) then (Q (.inl (some (.inl (1 : Int32)))) S) else ((0 ≤ ((mI S 64 2) + (1 : Int32)) ∧ ((mI S 64 2) + (1 : Int32)).toNatClampNeg < 100) ∧ (if (mI S 65 ((mI S 64 2) + (1 : Int32)).toNatClampNeg) = (111 : Int32) then (if (100 : Int32) ≤ ((mI S 64 2) + (2 : Int32)) then (Q (.inl (some (.inl (1 : Int32)))) S) else ((0 ≤ ((mI S 64 2) + (2 : Int32)) ∧ ((mI S 64 2) + (2 : Int32)).toNatClampNeg < 100) ∧ (if (mI S 65 ((mI S 64 2) + (2 : Int32)).toNatClampNeg) = (117 : Int32) then (if (100 : Int32) ≤ ((mI S 64 2) + (3 : Int32)) then (Q (.inl (some (.inl (1 : Int32)))) S) else ((0 ≤ ((mI S 64 2) + (3 : Int32)) ∧ ((mI S 64 2) + (3 : Int32)).toNatClampNeg < 100) ∧ (if (mI S 65 ((mI S 64 2) + (3 : Int32)).toNatClampNeg) = (110 : Int32) then (if (100 : Int32) ≤ ((mI S 64 2) + (4 : Int32)) then (Q (.inl (some (.inl (1 : Int32)))) S) else ((0 ≤ ((mI S 64 2) + (4 : Int32)) ∧ ((mI S 64 2) + (4 : Int32)).toNatClampNeg < 100) ∧ (if (mI S 65 ((mI S 64 2) + (4 : Int32)).toNatClampNeg) = (116 : Int32) then (if (100 : Int32) ≤ ((mI S 64 2) + (5 : Int32)) then (Q (.inl (some (.inl (1 : Int32)))) S) else ((0 ≤ ((mI S 64 2) + (5 : Int32)) ∧ ((mI S 64 2) + (5 : Int32)).toNatClampNeg < 100) ∧ (if (mI S 65 ((mI S 64 2) + (5 : Int32)).toNatClampNeg) = (115 : Int32) then (Q (.inl (some (.inl (1 : Int32)))) S) else (Q (.inl (some (.inl (0 : Int32)))) S)))) else (Q (.inl (some (.inl (0 : Int32)))) S)))) else (Q (.inl (some (.inl (0 : Int32)))) S)))) else (Q (.inl (some (.inl (0 : Int32)))) S)))) else (Q (.inl (some (.inl (0 : Int32)))) S)))) else (Q (.inl (some (.inl (0 : Int32)))) S)))) else (Q (.inl (some (.inl (0 : Int32)))) S)) : ma_wp X d w 131 0 [(0, .inr (.inr (some 64))), (1, .inr (.inr (some 4)))] [] S Q := by
  refine zw_push hm_131 dX11_tokenIs_0 (v := .inr (.inr (some 64))) rfl ?_
  refine zw_gf hm_131 dX11_tokenIs_1 (v := .inl (mI S 64 3)) (zT_is hS s_64) (zT_t hS s_64) rfl f_11_275_11 rfl ?_
  refine zw_push hm_131 dX11_tokenIs_4 (v := .inr (.inr (some 64))) rfl ?_
  refine zw_gf hm_131 dX11_tokenIs_5 (v := .inl (mI S 64 2)) (zT_is hS s_64) (zT_t hS s_64) rfl f_11_92_11 rfl ?_
  refine zw_stk hm_131 dX11_tokenIs_8 (st₉ := [.inl ((mI S 64 3) - (mI S 64 2))]) rfl rfl ?_
  refine zw_push hm_131 dX11_tokenIs_9 (v := .inr (.inr (some 4))) rfl ?_
  refine zw_cv hm_131 dX11_tokenIs_10 v_11_288_17 hm_277 [] [.inl ((mI S 64 3) - (mI S 64 2))] rfl rfl ⟨by omega, by omega⟩ rfl (tx_len (v := (6 : Int32)) (by decide) (by omega) (by omega) rfl rfl ?_)
  show ma_wp X d w 131 13 [(0, .inr (.inr (some 64))), (1, .inr (.inr (some 4)))] [.inl (6 : Int32), .inl ((mI S 64 3) - (mI S 64 2))] S _
  refine zw_if2 hm_131 dX11_tokenIs_13 (t := 18) rfl zc2_eq ?_ ?_
  · intro hc
    rw [if_pos hc] at h
    refine zw_push hm_131 dX11_tokenIs_18 (v := .inl (0 : Int32)) rfl ?_
    refine zw_sto hm_131 dX11_tokenIs_19 [(2, .inl (0 : Int32)), (0, .inr (.inr (some 64))), (1, .inr (.inr (some 4)))] rfl rfl rfl ?_
    refine zw_push hm_131 dX11_tokenIs_20 (v := .inl (0 : Int32)) rfl ?_
    refine zw_push hm_131 dX11_tokenIs_21 (v := .inr (.inr (some 4))) rfl ?_
    refine zw_cv hm_131 dX11_tokenIs_22 v_11_288_17 hm_277 [] [.inl (0 : Int32)] rfl rfl ⟨by omega, by omega⟩ rfl (tx_len (v := (6 : Int32)) (by decide) (by omega) (by omega) rfl rfl ?_)
    show ma_wp X d w 131 25 [(2, .inl (0 : Int32)), (0, .inr (.inr (some 64))), (1, .inr (.inr (some 4)))] [.inl (6 : Int32), .inl (0 : Int32)] S _
    refine zw_if2 hm_131 dX11_tokenIs_25 (t := 66) rfl zc2_ge (fun hc => absurd hc (by decide)) (fun _ => ?_)
    refine zw_push hm_131 dX11_tokenIs_28 (v := .inr (.inr (some 64))) rfl ?_
    refine zw_gf hm_131 dX11_tokenIs_29 (v := .inl (mI S 64 2)) (zT_is hS s_64) (zT_t hS s_64) rfl f_11_92_11 rfl ?_
    refine zw_push hm_131 dX11_tokenIs_32 (v := .inl (0 : Int32)) rfl ?_
    refine zw_stk hm_131 dX11_tokenIs_33 (st₉ := [.inl ((mI S 64 2) + (0 : Int32))]) rfl rfl ?_
    refine zw_push hm_131 dX11_tokenIs_34 (v := .inl (100 : Int32)) rfl ?_
    refine zw_if2 hm_131 dX11_tokenIs_36 (t := 66) rfl zc2_ge ?_ ?_
    · intro hc
      rw [if_pos hc] at h
      refine zw_push hm_131 dX11_tokenIs_66 (v := .inl (1 : Int32)) rfl ?_
      exact zw_bret hm_131 dX11_tokenIs_67 (by decide) h
    · intro hc
      rw [if_neg hc] at h
      refine zw_push hm_131 dX11_tokenIs_39 (v := .inr (.inr (some 64))) rfl ?_
      refine zw_gf hm_131 dX11_tokenIs_40 (v := .inr (.inr (some 65))) (zT_is hS s_64) (zT_t hS s_64) rfl f_11_9_11 (zT_f hS r_64_0) ?_
      refine zw_push hm_131 dX11_tokenIs_43 (v := .inr (.inr (some 64))) rfl ?_
      refine zw_gf hm_131 dX11_tokenIs_44 (v := .inl (mI S 64 2)) (zT_is hS s_64) (zT_t hS s_64) rfl f_11_92_11 rfl ?_
      refine zw_push hm_131 dX11_tokenIs_47 (v := .inl (0 : Int32)) rfl ?_
      refine zw_stk hm_131 dX11_tokenIs_48 (st₉ := [.inl ((mI S 64 2) + (0 : Int32)), .inr (.inr (some 65))]) rfl rfl ?_
      obtain ⟨hg, h⟩ := h
      refine zw_ba hm_131 dX11_tokenIs_49 (zT_is hS s_65) (zT_h hS s_65) rfl rfl hg ?_
      show ma_wp X d w 131 50 [(2, .inl (0 : Int32)), (0, .inr (.inr (some 64))), (1, .inr (.inr (some 4)))] [.inl (mI S 65 ((mI S 64 2) + (0 : Int32)).toNatClampNeg)] S _
      refine zw_push hm_131 dX11_tokenIs_50 (v := .inr (.inr (some 4))) rfl ?_
      refine zw_push hm_131 dX11_tokenIs_51 (v := .inl (0 : Int32)) rfl ?_
      refine zw_cv hm_131 dX11_tokenIs_52 v_11_293_17 hm_279 [.inl (0 : Int32)] [.inl (mI S 65 ((mI S 64 2) + (0 : Int32)).toNatClampNeg)] rfl rfl ⟨by omega, by omega⟩ rfl (tx_char (v := (99 : Int32)) (by decide) (by omega) (by omega) (by decide) (by decide) (by decide) (by decide) ?_)
      show ma_wp X d w 131 55 [(2, .inl (0 : Int32)), (0, .inr (.inr (some 64))), (1, .inr (.inr (some 4)))] [.inl (99 : Int32), .inl (mI S 65 ((mI S 64 2) + (0 : Int32)).toNatClampNeg)] S _
      refine zw_if2 hm_131 dX11_tokenIs_55 (t := 60) rfl zc2_eq ?_ ?_
      · intro hc
        rw [if_pos hc] at h
        refine zw_sto hm_131 dX11_tokenIs_60 [(2, .inl (1 : Int32)), (0, .inr (.inr (some 64))), (1, .inr (.inr (some 4)))] rfl rfl rfl ?_
        refine zw_goto hm_131 dX11_tokenIs_63 (t := 20) rfl ?_
        refine zw_push hm_131 dX11_tokenIs_20 (v := .inl (1 : Int32)) rfl ?_
        refine zw_push hm_131 dX11_tokenIs_21 (v := .inr (.inr (some 4))) rfl ?_
        refine zw_cv hm_131 dX11_tokenIs_22 v_11_288_17 hm_277 [] [.inl (1 : Int32)] rfl rfl ⟨by omega, by omega⟩ rfl (tx_len (v := (6 : Int32)) (by decide) (by omega) (by omega) rfl rfl ?_)
        show ma_wp X d w 131 25 [(2, .inl (1 : Int32)), (0, .inr (.inr (some 64))), (1, .inr (.inr (some 4)))] [.inl (6 : Int32), .inl (1 : Int32)] S _
        refine zw_if2 hm_131 dX11_tokenIs_25 (t := 66) rfl zc2_ge (fun hc => absurd hc (by decide)) (fun _ => ?_)
        refine zw_push hm_131 dX11_tokenIs_28 (v := .inr (.inr (some 64))) rfl ?_
        refine zw_gf hm_131 dX11_tokenIs_29 (v := .inl (mI S 64 2)) (zT_is hS s_64) (zT_t hS s_64) rfl f_11_92_11 rfl ?_
        refine zw_push hm_131 dX11_tokenIs_32 (v := .inl (1 : Int32)) rfl ?_
        refine zw_stk hm_131 dX11_tokenIs_33 (st₉ := [.inl ((mI S 64 2) + (1 : Int32))]) rfl rfl ?_
        refine zw_push hm_131 dX11_tokenIs_34 (v := .inl (100 : Int32)) rfl ?_
        refine zw_if2 hm_131 dX11_tokenIs_36 (t := 66) rfl zc2_ge ?_ ?_
        · intro hc
          rw [if_pos hc] at h
          refine zw_push hm_131 dX11_tokenIs_66 (v := .inl (1 : Int32)) rfl ?_
          exact zw_bret hm_131 dX11_tokenIs_67 (by decide) h
        · intro hc
          rw [if_neg hc] at h
          refine zw_push hm_131 dX11_tokenIs_39 (v := .inr (.inr (some 64))) rfl ?_
          refine zw_gf hm_131 dX11_tokenIs_40 (v := .inr (.inr (some 65))) (zT_is hS s_64) (zT_t hS s_64) rfl f_11_9_11 (zT_f hS r_64_0) ?_
          refine zw_push hm_131 dX11_tokenIs_43 (v := .inr (.inr (some 64))) rfl ?_
          refine zw_gf hm_131 dX11_tokenIs_44 (v := .inl (mI S 64 2)) (zT_is hS s_64) (zT_t hS s_64) rfl f_11_92_11 rfl ?_
          refine zw_push hm_131 dX11_tokenIs_47 (v := .inl (1 : Int32)) rfl ?_
          refine zw_stk hm_131 dX11_tokenIs_48 (st₉ := [.inl ((mI S 64 2) + (1 : Int32)), .inr (.inr (some 65))]) rfl rfl ?_
          obtain ⟨hg, h⟩ := h
          refine zw_ba hm_131 dX11_tokenIs_49 (zT_is hS s_65) (zT_h hS s_65) rfl rfl hg ?_
          show ma_wp X d w 131 50 [(2, .inl (1 : Int32)), (0, .inr (.inr (some 64))), (1, .inr (.inr (some 4)))] [.inl (mI S 65 ((mI S 64 2) + (1 : Int32)).toNatClampNeg)] S _
          refine zw_push hm_131 dX11_tokenIs_50 (v := .inr (.inr (some 4))) rfl ?_
          refine zw_push hm_131 dX11_tokenIs_51 (v := .inl (1 : Int32)) rfl ?_
          refine zw_cv hm_131 dX11_tokenIs_52 v_11_293_17 hm_279 [.inl (1 : Int32)] [.inl (mI S 65 ((mI S 64 2) + (1 : Int32)).toNatClampNeg)] rfl rfl ⟨by omega, by omega⟩ rfl (tx_char (v := (111 : Int32)) (by decide) (by omega) (by omega) (by decide) (by decide) (by decide) (by decide) ?_)
          show ma_wp X d w 131 55 [(2, .inl (1 : Int32)), (0, .inr (.inr (some 64))), (1, .inr (.inr (some 4)))] [.inl (111 : Int32), .inl (mI S 65 ((mI S 64 2) + (1 : Int32)).toNatClampNeg)] S _
          refine zw_if2 hm_131 dX11_tokenIs_55 (t := 60) rfl zc2_eq ?_ ?_
          · intro hc
            rw [if_pos hc] at h
            refine zw_sto hm_131 dX11_tokenIs_60 [(2, .inl (2 : Int32)), (0, .inr (.inr (some 64))), (1, .inr (.inr (some 4)))] rfl rfl rfl ?_
            refine zw_goto hm_131 dX11_tokenIs_63 (t := 20) rfl ?_
            refine zw_push hm_131 dX11_tokenIs_20 (v := .inl (2 : Int32)) rfl ?_
            refine zw_push hm_131 dX11_tokenIs_21 (v := .inr (.inr (some 4))) rfl ?_
            refine zw_cv hm_131 dX11_tokenIs_22 v_11_288_17 hm_277 [] [.inl (2 : Int32)] rfl rfl ⟨by omega, by omega⟩ rfl (tx_len (v := (6 : Int32)) (by decide) (by omega) (by omega) rfl rfl ?_)
            show ma_wp X d w 131 25 [(2, .inl (2 : Int32)), (0, .inr (.inr (some 64))), (1, .inr (.inr (some 4)))] [.inl (6 : Int32), .inl (2 : Int32)] S _
            refine zw_if2 hm_131 dX11_tokenIs_25 (t := 66) rfl zc2_ge (fun hc => absurd hc (by decide)) (fun _ => ?_)
            refine zw_push hm_131 dX11_tokenIs_28 (v := .inr (.inr (some 64))) rfl ?_
            refine zw_gf hm_131 dX11_tokenIs_29 (v := .inl (mI S 64 2)) (zT_is hS s_64) (zT_t hS s_64) rfl f_11_92_11 rfl ?_
            refine zw_push hm_131 dX11_tokenIs_32 (v := .inl (2 : Int32)) rfl ?_
            refine zw_stk hm_131 dX11_tokenIs_33 (st₉ := [.inl ((mI S 64 2) + (2 : Int32))]) rfl rfl ?_
            refine zw_push hm_131 dX11_tokenIs_34 (v := .inl (100 : Int32)) rfl ?_
            refine zw_if2 hm_131 dX11_tokenIs_36 (t := 66) rfl zc2_ge ?_ ?_
            · intro hc
              rw [if_pos hc] at h
              refine zw_push hm_131 dX11_tokenIs_66 (v := .inl (1 : Int32)) rfl ?_
              exact zw_bret hm_131 dX11_tokenIs_67 (by decide) h
            · intro hc
              rw [if_neg hc] at h
              refine zw_push hm_131 dX11_tokenIs_39 (v := .inr (.inr (some 64))) rfl ?_
              refine zw_gf hm_131 dX11_tokenIs_40 (v := .inr (.inr (some 65))) (zT_is hS s_64) (zT_t hS s_64) rfl f_11_9_11 (zT_f hS r_64_0) ?_
              refine zw_push hm_131 dX11_tokenIs_43 (v := .inr (.inr (some 64))) rfl ?_
              refine zw_gf hm_131 dX11_tokenIs_44 (v := .inl (mI S 64 2)) (zT_is hS s_64) (zT_t hS s_64) rfl f_11_92_11 rfl ?_
              refine zw_push hm_131 dX11_tokenIs_47 (v := .inl (2 : Int32)) rfl ?_
              refine zw_stk hm_131 dX11_tokenIs_48 (st₉ := [.inl ((mI S 64 2) + (2 : Int32)), .inr (.inr (some 65))]) rfl rfl ?_
              obtain ⟨hg, h⟩ := h
              refine zw_ba hm_131 dX11_tokenIs_49 (zT_is hS s_65) (zT_h hS s_65) rfl rfl hg ?_
              show ma_wp X d w 131 50 [(2, .inl (2 : Int32)), (0, .inr (.inr (some 64))), (1, .inr (.inr (some 4)))] [.inl (mI S 65 ((mI S 64 2) + (2 : Int32)).toNatClampNeg)] S _
              refine zw_push hm_131 dX11_tokenIs_50 (v := .inr (.inr (some 4))) rfl ?_
              refine zw_push hm_131 dX11_tokenIs_51 (v := .inl (2 : Int32)) rfl ?_
              refine zw_cv hm_131 dX11_tokenIs_52 v_11_293_17 hm_279 [.inl (2 : Int32)] [.inl (mI S 65 ((mI S 64 2) + (2 : Int32)).toNatClampNeg)] rfl rfl ⟨by omega, by omega⟩ rfl (tx_char (v := (117 : Int32)) (by decide) (by omega) (by omega) (by decide) (by decide) (by decide) (by decide) ?_)
              show ma_wp X d w 131 55 [(2, .inl (2 : Int32)), (0, .inr (.inr (some 64))), (1, .inr (.inr (some 4)))] [.inl (117 : Int32), .inl (mI S 65 ((mI S 64 2) + (2 : Int32)).toNatClampNeg)] S _
              refine zw_if2 hm_131 dX11_tokenIs_55 (t := 60) rfl zc2_eq ?_ ?_
              · intro hc
                rw [if_pos hc] at h
                refine zw_sto hm_131 dX11_tokenIs_60 [(2, .inl (3 : Int32)), (0, .inr (.inr (some 64))), (1, .inr (.inr (some 4)))] rfl rfl rfl ?_
                refine zw_goto hm_131 dX11_tokenIs_63 (t := 20) rfl ?_
                refine zw_push hm_131 dX11_tokenIs_20 (v := .inl (3 : Int32)) rfl ?_
                refine zw_push hm_131 dX11_tokenIs_21 (v := .inr (.inr (some 4))) rfl ?_
                refine zw_cv hm_131 dX11_tokenIs_22 v_11_288_17 hm_277 [] [.inl (3 : Int32)] rfl rfl ⟨by omega, by omega⟩ rfl (tx_len (v := (6 : Int32)) (by decide) (by omega) (by omega) rfl rfl ?_)
                show ma_wp X d w 131 25 [(2, .inl (3 : Int32)), (0, .inr (.inr (some 64))), (1, .inr (.inr (some 4)))] [.inl (6 : Int32), .inl (3 : Int32)] S _
                refine zw_if2 hm_131 dX11_tokenIs_25 (t := 66) rfl zc2_ge (fun hc => absurd hc (by decide)) (fun _ => ?_)
                refine zw_push hm_131 dX11_tokenIs_28 (v := .inr (.inr (some 64))) rfl ?_
                refine zw_gf hm_131 dX11_tokenIs_29 (v := .inl (mI S 64 2)) (zT_is hS s_64) (zT_t hS s_64) rfl f_11_92_11 rfl ?_
                refine zw_push hm_131 dX11_tokenIs_32 (v := .inl (3 : Int32)) rfl ?_
                refine zw_stk hm_131 dX11_tokenIs_33 (st₉ := [.inl ((mI S 64 2) + (3 : Int32))]) rfl rfl ?_
                refine zw_push hm_131 dX11_tokenIs_34 (v := .inl (100 : Int32)) rfl ?_
                refine zw_if2 hm_131 dX11_tokenIs_36 (t := 66) rfl zc2_ge ?_ ?_
                · intro hc
                  rw [if_pos hc] at h
                  refine zw_push hm_131 dX11_tokenIs_66 (v := .inl (1 : Int32)) rfl ?_
                  exact zw_bret hm_131 dX11_tokenIs_67 (by decide) h
                · intro hc
                  rw [if_neg hc] at h
                  refine zw_push hm_131 dX11_tokenIs_39 (v := .inr (.inr (some 64))) rfl ?_
                  refine zw_gf hm_131 dX11_tokenIs_40 (v := .inr (.inr (some 65))) (zT_is hS s_64) (zT_t hS s_64) rfl f_11_9_11 (zT_f hS r_64_0) ?_
                  refine zw_push hm_131 dX11_tokenIs_43 (v := .inr (.inr (some 64))) rfl ?_
                  refine zw_gf hm_131 dX11_tokenIs_44 (v := .inl (mI S 64 2)) (zT_is hS s_64) (zT_t hS s_64) rfl f_11_92_11 rfl ?_
                  refine zw_push hm_131 dX11_tokenIs_47 (v := .inl (3 : Int32)) rfl ?_
                  refine zw_stk hm_131 dX11_tokenIs_48 (st₉ := [.inl ((mI S 64 2) + (3 : Int32)), .inr (.inr (some 65))]) rfl rfl ?_
                  obtain ⟨hg, h⟩ := h
                  refine zw_ba hm_131 dX11_tokenIs_49 (zT_is hS s_65) (zT_h hS s_65) rfl rfl hg ?_
                  show ma_wp X d w 131 50 [(2, .inl (3 : Int32)), (0, .inr (.inr (some 64))), (1, .inr (.inr (some 4)))] [.inl (mI S 65 ((mI S 64 2) + (3 : Int32)).toNatClampNeg)] S _
                  refine zw_push hm_131 dX11_tokenIs_50 (v := .inr (.inr (some 4))) rfl ?_
                  refine zw_push hm_131 dX11_tokenIs_51 (v := .inl (3 : Int32)) rfl ?_
                  refine zw_cv hm_131 dX11_tokenIs_52 v_11_293_17 hm_279 [.inl (3 : Int32)] [.inl (mI S 65 ((mI S 64 2) + (3 : Int32)).toNatClampNeg)] rfl rfl ⟨by omega, by omega⟩ rfl (tx_char (v := (110 : Int32)) (by decide) (by omega) (by omega) (by decide) (by decide) (by decide) (by decide) ?_)
                  show ma_wp X d w 131 55 [(2, .inl (3 : Int32)), (0, .inr (.inr (some 64))), (1, .inr (.inr (some 4)))] [.inl (110 : Int32), .inl (mI S 65 ((mI S 64 2) + (3 : Int32)).toNatClampNeg)] S _
                  refine zw_if2 hm_131 dX11_tokenIs_55 (t := 60) rfl zc2_eq ?_ ?_
                  · intro hc
                    rw [if_pos hc] at h
                    refine zw_sto hm_131 dX11_tokenIs_60 [(2, .inl (4 : Int32)), (0, .inr (.inr (some 64))), (1, .inr (.inr (some 4)))] rfl rfl rfl ?_
                    refine zw_goto hm_131 dX11_tokenIs_63 (t := 20) rfl ?_
                    refine zw_push hm_131 dX11_tokenIs_20 (v := .inl (4 : Int32)) rfl ?_
                    refine zw_push hm_131 dX11_tokenIs_21 (v := .inr (.inr (some 4))) rfl ?_
                    refine zw_cv hm_131 dX11_tokenIs_22 v_11_288_17 hm_277 [] [.inl (4 : Int32)] rfl rfl ⟨by omega, by omega⟩ rfl (tx_len (v := (6 : Int32)) (by decide) (by omega) (by omega) rfl rfl ?_)
                    show ma_wp X d w 131 25 [(2, .inl (4 : Int32)), (0, .inr (.inr (some 64))), (1, .inr (.inr (some 4)))] [.inl (6 : Int32), .inl (4 : Int32)] S _
                    refine zw_if2 hm_131 dX11_tokenIs_25 (t := 66) rfl zc2_ge (fun hc => absurd hc (by decide)) (fun _ => ?_)
                    refine zw_push hm_131 dX11_tokenIs_28 (v := .inr (.inr (some 64))) rfl ?_
                    refine zw_gf hm_131 dX11_tokenIs_29 (v := .inl (mI S 64 2)) (zT_is hS s_64) (zT_t hS s_64) rfl f_11_92_11 rfl ?_
                    refine zw_push hm_131 dX11_tokenIs_32 (v := .inl (4 : Int32)) rfl ?_
                    refine zw_stk hm_131 dX11_tokenIs_33 (st₉ := [.inl ((mI S 64 2) + (4 : Int32))]) rfl rfl ?_
                    refine zw_push hm_131 dX11_tokenIs_34 (v := .inl (100 : Int32)) rfl ?_
                    refine zw_if2 hm_131 dX11_tokenIs_36 (t := 66) rfl zc2_ge ?_ ?_
                    · intro hc
                      rw [if_pos hc] at h
                      refine zw_push hm_131 dX11_tokenIs_66 (v := .inl (1 : Int32)) rfl ?_
                      exact zw_bret hm_131 dX11_tokenIs_67 (by decide) h
                    · intro hc
                      rw [if_neg hc] at h
                      refine zw_push hm_131 dX11_tokenIs_39 (v := .inr (.inr (some 64))) rfl ?_
                      refine zw_gf hm_131 dX11_tokenIs_40 (v := .inr (.inr (some 65))) (zT_is hS s_64) (zT_t hS s_64) rfl f_11_9_11 (zT_f hS r_64_0) ?_
                      refine zw_push hm_131 dX11_tokenIs_43 (v := .inr (.inr (some 64))) rfl ?_
                      refine zw_gf hm_131 dX11_tokenIs_44 (v := .inl (mI S 64 2)) (zT_is hS s_64) (zT_t hS s_64) rfl f_11_92_11 rfl ?_
                      refine zw_push hm_131 dX11_tokenIs_47 (v := .inl (4 : Int32)) rfl ?_
                      refine zw_stk hm_131 dX11_tokenIs_48 (st₉ := [.inl ((mI S 64 2) + (4 : Int32)), .inr (.inr (some 65))]) rfl rfl ?_
                      obtain ⟨hg, h⟩ := h
                      refine zw_ba hm_131 dX11_tokenIs_49 (zT_is hS s_65) (zT_h hS s_65) rfl rfl hg ?_
                      show ma_wp X d w 131 50 [(2, .inl (4 : Int32)), (0, .inr (.inr (some 64))), (1, .inr (.inr (some 4)))] [.inl (mI S 65 ((mI S 64 2) + (4 : Int32)).toNatClampNeg)] S _
                      refine zw_push hm_131 dX11_tokenIs_50 (v := .inr (.inr (some 4))) rfl ?_
                      refine zw_push hm_131 dX11_tokenIs_51 (v := .inl (4 : Int32)) rfl ?_
                      refine zw_cv hm_131 dX11_tokenIs_52 v_11_293_17 hm_279 [.inl (4 : Int32)] [.inl (mI S 65 ((mI S 64 2) + (4 : Int32)).toNatClampNeg)] rfl rfl ⟨by omega, by omega⟩ rfl (tx_char (v := (116 : Int32)) (by decide) (by omega) (by omega) (by decide) (by decide) (by decide) (by decide) ?_)
                      show ma_wp X d w 131 55 [(2, .inl (4 : Int32)), (0, .inr (.inr (some 64))), (1, .inr (.inr (some 4)))] [.inl (116 : Int32), .inl (mI S 65 ((mI S 64 2) + (4 : Int32)).toNatClampNeg)] S _
                      refine zw_if2 hm_131 dX11_tokenIs_55 (t := 60) rfl zc2_eq ?_ ?_
                      · intro hc
                        rw [if_pos hc] at h
                        refine zw_sto hm_131 dX11_tokenIs_60 [(2, .inl (5 : Int32)), (0, .inr (.inr (some 64))), (1, .inr (.inr (some 4)))] rfl rfl rfl ?_
                        refine zw_goto hm_131 dX11_tokenIs_63 (t := 20) rfl ?_
                        refine zw_push hm_131 dX11_tokenIs_20 (v := .inl (5 : Int32)) rfl ?_
                        refine zw_push hm_131 dX11_tokenIs_21 (v := .inr (.inr (some 4))) rfl ?_
                        refine zw_cv hm_131 dX11_tokenIs_22 v_11_288_17 hm_277 [] [.inl (5 : Int32)] rfl rfl ⟨by omega, by omega⟩ rfl (tx_len (v := (6 : Int32)) (by decide) (by omega) (by omega) rfl rfl ?_)
                        show ma_wp X d w 131 25 [(2, .inl (5 : Int32)), (0, .inr (.inr (some 64))), (1, .inr (.inr (some 4)))] [.inl (6 : Int32), .inl (5 : Int32)] S _
                        refine zw_if2 hm_131 dX11_tokenIs_25 (t := 66) rfl zc2_ge (fun hc => absurd hc (by decide)) (fun _ => ?_)
                        refine zw_push hm_131 dX11_tokenIs_28 (v := .inr (.inr (some 64))) rfl ?_
                        refine zw_gf hm_131 dX11_tokenIs_29 (v := .inl (mI S 64 2)) (zT_is hS s_64) (zT_t hS s_64) rfl f_11_92_11 rfl ?_
                        refine zw_push hm_131 dX11_tokenIs_32 (v := .inl (5 : Int32)) rfl ?_
                        refine zw_stk hm_131 dX11_tokenIs_33 (st₉ := [.inl ((mI S 64 2) + (5 : Int32))]) rfl rfl ?_
                        refine zw_push hm_131 dX11_tokenIs_34 (v := .inl (100 : Int32)) rfl ?_
                        refine zw_if2 hm_131 dX11_tokenIs_36 (t := 66) rfl zc2_ge ?_ ?_
                        · intro hc
                          rw [if_pos hc] at h
                          refine zw_push hm_131 dX11_tokenIs_66 (v := .inl (1 : Int32)) rfl ?_
                          exact zw_bret hm_131 dX11_tokenIs_67 (by decide) h
                        · intro hc
                          rw [if_neg hc] at h
                          refine zw_push hm_131 dX11_tokenIs_39 (v := .inr (.inr (some 64))) rfl ?_
                          refine zw_gf hm_131 dX11_tokenIs_40 (v := .inr (.inr (some 65))) (zT_is hS s_64) (zT_t hS s_64) rfl f_11_9_11 (zT_f hS r_64_0) ?_
                          refine zw_push hm_131 dX11_tokenIs_43 (v := .inr (.inr (some 64))) rfl ?_
                          refine zw_gf hm_131 dX11_tokenIs_44 (v := .inl (mI S 64 2)) (zT_is hS s_64) (zT_t hS s_64) rfl f_11_92_11 rfl ?_
                          refine zw_push hm_131 dX11_tokenIs_47 (v := .inl (5 : Int32)) rfl ?_
                          refine zw_stk hm_131 dX11_tokenIs_48 (st₉ := [.inl ((mI S 64 2) + (5 : Int32)), .inr (.inr (some 65))]) rfl rfl ?_
                          obtain ⟨hg, h⟩ := h
                          refine zw_ba hm_131 dX11_tokenIs_49 (zT_is hS s_65) (zT_h hS s_65) rfl rfl hg ?_
                          show ma_wp X d w 131 50 [(2, .inl (5 : Int32)), (0, .inr (.inr (some 64))), (1, .inr (.inr (some 4)))] [.inl (mI S 65 ((mI S 64 2) + (5 : Int32)).toNatClampNeg)] S _
                          refine zw_push hm_131 dX11_tokenIs_50 (v := .inr (.inr (some 4))) rfl ?_
                          refine zw_push hm_131 dX11_tokenIs_51 (v := .inl (5 : Int32)) rfl ?_
                          refine zw_cv hm_131 dX11_tokenIs_52 v_11_293_17 hm_279 [.inl (5 : Int32)] [.inl (mI S 65 ((mI S 64 2) + (5 : Int32)).toNatClampNeg)] rfl rfl ⟨by omega, by omega⟩ rfl (tx_char (v := (115 : Int32)) (by decide) (by omega) (by omega) (by decide) (by decide) (by decide) (by decide) ?_)
                          show ma_wp X d w 131 55 [(2, .inl (5 : Int32)), (0, .inr (.inr (some 64))), (1, .inr (.inr (some 4)))] [.inl (115 : Int32), .inl (mI S 65 ((mI S 64 2) + (5 : Int32)).toNatClampNeg)] S _
                          refine zw_if2 hm_131 dX11_tokenIs_55 (t := 60) rfl zc2_eq ?_ ?_
                          · intro hc
                            rw [if_pos hc] at h
                            refine zw_sto hm_131 dX11_tokenIs_60 [(2, .inl (6 : Int32)), (0, .inr (.inr (some 64))), (1, .inr (.inr (some 4)))] rfl rfl rfl ?_
                            refine zw_goto hm_131 dX11_tokenIs_63 (t := 20) rfl ?_
                            refine zw_push hm_131 dX11_tokenIs_20 (v := .inl (6 : Int32)) rfl ?_
                            refine zw_push hm_131 dX11_tokenIs_21 (v := .inr (.inr (some 4))) rfl ?_
                            refine zw_cv hm_131 dX11_tokenIs_22 v_11_288_17 hm_277 [] [.inl (6 : Int32)] rfl rfl ⟨by omega, by omega⟩ rfl (tx_len (v := (6 : Int32)) (by decide) (by omega) (by omega) rfl rfl ?_)
                            show ma_wp X d w 131 25 [(2, .inl (6 : Int32)), (0, .inr (.inr (some 64))), (1, .inr (.inr (some 4)))] [.inl (6 : Int32), .inl (6 : Int32)] S _
                            refine zw_if2 hm_131 dX11_tokenIs_25 (t := 66) rfl zc2_ge (fun _ => ?_) (fun hc => absurd (by decide) hc)
                            refine zw_push hm_131 dX11_tokenIs_66 (v := .inl (1 : Int32)) rfl ?_
                            exact zw_bret hm_131 dX11_tokenIs_67 (by decide) h
                          · intro hc
                            rw [if_neg hc] at h
                            refine zw_push hm_131 dX11_tokenIs_58 (v := .inl (0 : Int32)) rfl ?_
                            exact zw_bret hm_131 dX11_tokenIs_59 (by decide) h
                      · intro hc
                        rw [if_neg hc] at h
                        refine zw_push hm_131 dX11_tokenIs_58 (v := .inl (0 : Int32)) rfl ?_
                        exact zw_bret hm_131 dX11_tokenIs_59 (by decide) h
                  · intro hc
                    rw [if_neg hc] at h
                    refine zw_push hm_131 dX11_tokenIs_58 (v := .inl (0 : Int32)) rfl ?_
                    exact zw_bret hm_131 dX11_tokenIs_59 (by decide) h
              · intro hc
                rw [if_neg hc] at h
                refine zw_push hm_131 dX11_tokenIs_58 (v := .inl (0 : Int32)) rfl ?_
                exact zw_bret hm_131 dX11_tokenIs_59 (by decide) h
          · intro hc
            rw [if_neg hc] at h
            refine zw_push hm_131 dX11_tokenIs_58 (v := .inl (0 : Int32)) rfl ?_
            exact zw_bret hm_131 dX11_tokenIs_59 (by decide) h
      · intro hc
        rw [if_neg hc] at h
        refine zw_push hm_131 dX11_tokenIs_58 (v := .inl (0 : Int32)) rfl ?_
        exact zw_bret hm_131 dX11_tokenIs_59 (by decide) h
  · intro hc
    rw [if_neg hc] at h
    refine zw_push hm_131 dX11_tokenIs_16 (v := .inl (0 : Int32)) rfl ?_
    exact zw_bret hm_131 dX11_tokenIs_17 (by decide) h
theorem sp_131_64_4_sq {X : Nat × (Nat → Int32)} {d w : Nat} {f : Nat → Nat → Int32} {r : Nat → Nat → Option Nat} {C Z N : Nat} {Q : Option ma_V ⊕ Nat → ma_S → Prop} {I0 : Nat→Nat→Int32} {L0 : Nat→Nat→Int64} {R0 : zRT} {S : ma_S}  (hd : 5 ≤ d) (hw : 100 ≤ w) (hI : zY0 f r C Z N S) (hpre0 : zFm I0 L0 R0 S) (K : ∀ v S₉, zY0 f r C Z N S₉ → (v = 0 ∨ v = 1) → ((v = 1 ∧ zwd (f 65) (f 64 2) ((f 64 3).toInt - (f 64 2).toInt) 99 111 117 110 116 115 0) ∨ (v = 0 ∧ ¬ zwd (f 65) (f 64 2) ((f 64 3).toInt - (f 64 2).toInt) 99 111 117 110 116 115 0)) → (zFm I0 L0 R0 S₉) → Q (.inl (some (.inl v))) S₉) : ma_wp X d w 131 0 [(0, .inr (.inr (some 64))), (1, .inr (.inr (some 4)))] [] S Q := by
  refine g_131_64_4_sq_0  (by omega) (by omega) (zG_T hI) ?_
  have q1 : (mI S 64 3).toInt = (f 64 3).toInt := zG_zi hI rfl
  have f2 := zG_s hI (0) (100) (c := 64) (k := 3) (by decide)
  have q3 : (mI S 64 2).toInt = (f 64 2).toInt := zG_zi hI rfl
  have f4 := zG_s hI (0) (100) (c := 64) (k := 2) (by decide)
  first | have e5 : ((mI S 64 3) - (mI S 64 2)).toInt = (mI S 64 3).toInt - (mI S 64 2).toInt := i_sub (by omega) (by omega) | have b6 := i_bd ((mI S 64 3) - (mI S 64 2))
  have li7 : (6 : Int32).toInt = 6 := rfl
  refine zd (fun h8 => ?_) (fun h8 => ?_)
  · skip
    have g9 := i_eq h8
    have li10 : (100 : Int32).toInt = 100 := rfl
    first | have e11 : ((mI S 64 2) + (0 : Int32)).toInt = (mI S 64 2).toInt + (0) := i_addk rfl (by omega) (by omega) | have b12 := i_bd ((mI S 64 2) + (0 : Int32))
    refine zd (fun h13 => ?_) (fun h13 => ?_)
    · skip
      have g14 := i_le h13
      have li15 : (1 : Int32).toInt = 1 := rfl
      exact K ((1 : Int32)) _ hI (by decide) (show ((1 : Int32) = 1 ∧ zwd (f 65) (f 64 2) ((f 64 3).toInt - (f 64 2).toInt) 99 111 117 110 116 115 0) ∨ ((1 : Int32) = 0 ∧ ¬ zwd (f 65) (f 64 2) ((f 64 3).toInt - (f 64 2).toInt) 99 111 117 110 116 115 0) from by first | (omega) | (rw [show f 65 = mI S 65 from funext (fun k => (zG_z hI rfl).symm), show f 64 2 = mI S 64 2 from (zG_z hI rfl).symm, show f 64 3 = mI S 64 3 from (zG_z hI rfl).symm]; exact Or.inl ⟨rfl, by rw [if_neg (by decide), if_neg (by decide), if_pos rfl]; omega, (by assumption), (by assumption), (by assumption), (by assumption), Or.inr (by assumption), Or.inr (Or.inr (by assumption)), Or.inr (Or.inr (Or.inl rfl))⟩) | (exfalso; omega)) (show zFm I0 L0 R0 S from by first | (exact hpre0))
    · skip
      have g16 := i_nle h13
      refine ⟨i_ix (by omega) (by omega), ?_⟩
      have q17 : (mI S 65 ((mI S 64 2) + (0 : Int32)).toNatClampNeg).toInt = (f 65 ((mI S 64 2) + (0 : Int32)).toNatClampNeg).toInt := zG_zi hI rfl
      have b18 := i_bd (mI S 65 ((mI S 64 2) + (0 : Int32)).toNatClampNeg)
      have li19 : (99 : Int32).toInt = 99 := rfl
      refine zd (fun h20 => ?_) (fun h20 => ?_)
      · skip
        have g21 := i_eq h20
        first | have e22 : ((mI S 64 2) + (1 : Int32)).toInt = (mI S 64 2).toInt + (1) := i_addk rfl (by omega) (by omega) | have b23 := i_bd ((mI S 64 2) + (1 : Int32))
        refine zd (fun h24 => ?_) (fun h24 => ?_)
        · skip
          have g25 := i_le h24
          have li26 : (1 : Int32).toInt = 1 := rfl
          exact K ((1 : Int32)) _ hI (by decide) (show ((1 : Int32) = 1 ∧ zwd (f 65) (f 64 2) ((f 64 3).toInt - (f 64 2).toInt) 99 111 117 110 116 115 0) ∨ ((1 : Int32) = 0 ∧ ¬ zwd (f 65) (f 64 2) ((f 64 3).toInt - (f 64 2).toInt) 99 111 117 110 116 115 0) from by first | (omega) | (rw [show f 65 = mI S 65 from funext (fun k => (zG_z hI rfl).symm), show f 64 2 = mI S 64 2 from (zG_z hI rfl).symm, show f 64 3 = mI S 64 3 from (zG_z hI rfl).symm]; exact Or.inl ⟨rfl, by rw [if_neg (by decide), if_neg (by decide), if_pos rfl]; omega, (by assumption), (by assumption), (by assumption), (by assumption), Or.inr (by assumption), Or.inr (Or.inr (by assumption)), Or.inr (Or.inr (Or.inl rfl))⟩) | (exfalso; omega)) (show zFm I0 L0 R0 S from by first | (exact hpre0))
        · skip
          have g27 := i_nle h24
          refine ⟨i_ix (by omega) (by omega), ?_⟩
          have q28 : (mI S 65 ((mI S 64 2) + (1 : Int32)).toNatClampNeg).toInt = (f 65 ((mI S 64 2) + (1 : Int32)).toNatClampNeg).toInt := zG_zi hI rfl
          have b29 := i_bd (mI S 65 ((mI S 64 2) + (1 : Int32)).toNatClampNeg)
          have li30 : (111 : Int32).toInt = 111 := rfl
          refine zd (fun h31 => ?_) (fun h31 => ?_)
          · skip
            have g32 := i_eq h31
            first | have e33 : ((mI S 64 2) + (2 : Int32)).toInt = (mI S 64 2).toInt + (2) := i_addk rfl (by omega) (by omega) | have b34 := i_bd ((mI S 64 2) + (2 : Int32))
            refine zd (fun h35 => ?_) (fun h35 => ?_)
            · skip
              have g36 := i_le h35
              have li37 : (1 : Int32).toInt = 1 := rfl
              exact K ((1 : Int32)) _ hI (by decide) (show ((1 : Int32) = 1 ∧ zwd (f 65) (f 64 2) ((f 64 3).toInt - (f 64 2).toInt) 99 111 117 110 116 115 0) ∨ ((1 : Int32) = 0 ∧ ¬ zwd (f 65) (f 64 2) ((f 64 3).toInt - (f 64 2).toInt) 99 111 117 110 116 115 0) from by first | (omega) | (rw [show f 65 = mI S 65 from funext (fun k => (zG_z hI rfl).symm), show f 64 2 = mI S 64 2 from (zG_z hI rfl).symm, show f 64 3 = mI S 64 3 from (zG_z hI rfl).symm]; exact Or.inl ⟨rfl, by rw [if_neg (by decide), if_neg (by decide), if_pos rfl]; omega, (by assumption), (by assumption), (by assumption), (by assumption), Or.inr (by assumption), Or.inr (Or.inr (by assumption)), Or.inr (Or.inr (Or.inl rfl))⟩) | (exfalso; omega)) (show zFm I0 L0 R0 S from by first | (exact hpre0))
            · skip
              have g38 := i_nle h35
              refine ⟨i_ix (by omega) (by omega), ?_⟩
              have q39 : (mI S 65 ((mI S 64 2) + (2 : Int32)).toNatClampNeg).toInt = (f 65 ((mI S 64 2) + (2 : Int32)).toNatClampNeg).toInt := zG_zi hI rfl
              have b40 := i_bd (mI S 65 ((mI S 64 2) + (2 : Int32)).toNatClampNeg)
              have li41 : (117 : Int32).toInt = 117 := rfl
              refine zd (fun h42 => ?_) (fun h42 => ?_)
              · skip
                have g43 := i_eq h42
                first | have e44 : ((mI S 64 2) + (3 : Int32)).toInt = (mI S 64 2).toInt + (3) := i_addk rfl (by omega) (by omega) | have b45 := i_bd ((mI S 64 2) + (3 : Int32))
                refine zd (fun h46 => ?_) (fun h46 => ?_)
                · skip
                  have g47 := i_le h46
                  have li48 : (1 : Int32).toInt = 1 := rfl
                  exact K ((1 : Int32)) _ hI (by decide) (show ((1 : Int32) = 1 ∧ zwd (f 65) (f 64 2) ((f 64 3).toInt - (f 64 2).toInt) 99 111 117 110 116 115 0) ∨ ((1 : Int32) = 0 ∧ ¬ zwd (f 65) (f 64 2) ((f 64 3).toInt - (f 64 2).toInt) 99 111 117 110 116 115 0) from by first | (omega) | (rw [show f 65 = mI S 65 from funext (fun k => (zG_z hI rfl).symm), show f 64 2 = mI S 64 2 from (zG_z hI rfl).symm, show f 64 3 = mI S 64 3 from (zG_z hI rfl).symm]; exact Or.inl ⟨rfl, by rw [if_neg (by decide), if_neg (by decide), if_pos rfl]; omega, (by assumption), (by assumption), (by assumption), (by assumption), Or.inr (by assumption), Or.inr (Or.inr (by assumption)), Or.inr (Or.inr (Or.inl rfl))⟩) | (exfalso; omega)) (show zFm I0 L0 R0 S from by first | (exact hpre0))
                · skip
                  have g49 := i_nle h46
                  refine ⟨i_ix (by omega) (by omega), ?_⟩
                  have q50 : (mI S 65 ((mI S 64 2) + (3 : Int32)).toNatClampNeg).toInt = (f 65 ((mI S 64 2) + (3 : Int32)).toNatClampNeg).toInt := zG_zi hI rfl
                  have b51 := i_bd (mI S 65 ((mI S 64 2) + (3 : Int32)).toNatClampNeg)
                  have li52 : (110 : Int32).toInt = 110 := rfl
                  refine zd (fun h53 => ?_) (fun h53 => ?_)
                  · skip
                    have g54 := i_eq h53
                    first | have e55 : ((mI S 64 2) + (4 : Int32)).toInt = (mI S 64 2).toInt + (4) := i_addk rfl (by omega) (by omega) | have b56 := i_bd ((mI S 64 2) + (4 : Int32))
                    refine zd (fun h57 => ?_) (fun h57 => ?_)
                    · skip
                      have g58 := i_le h57
                      have li59 : (1 : Int32).toInt = 1 := rfl
                      exact K ((1 : Int32)) _ hI (by decide) (show ((1 : Int32) = 1 ∧ zwd (f 65) (f 64 2) ((f 64 3).toInt - (f 64 2).toInt) 99 111 117 110 116 115 0) ∨ ((1 : Int32) = 0 ∧ ¬ zwd (f 65) (f 64 2) ((f 64 3).toInt - (f 64 2).toInt) 99 111 117 110 116 115 0) from by first | (omega) | (rw [show f 65 = mI S 65 from funext (fun k => (zG_z hI rfl).symm), show f 64 2 = mI S 64 2 from (zG_z hI rfl).symm, show f 64 3 = mI S 64 3 from (zG_z hI rfl).symm]; exact Or.inl ⟨rfl, by rw [if_neg (by decide), if_neg (by decide), if_pos rfl]; omega, (by assumption), (by assumption), (by assumption), (by assumption), Or.inr (by assumption), Or.inr (Or.inr (by assumption)), Or.inr (Or.inr (Or.inl rfl))⟩) | (exfalso; omega)) (show zFm I0 L0 R0 S from by first | (exact hpre0))
                    · skip
                      have g60 := i_nle h57
                      refine ⟨i_ix (by omega) (by omega), ?_⟩
                      have q61 : (mI S 65 ((mI S 64 2) + (4 : Int32)).toNatClampNeg).toInt = (f 65 ((mI S 64 2) + (4 : Int32)).toNatClampNeg).toInt := zG_zi hI rfl
                      have b62 := i_bd (mI S 65 ((mI S 64 2) + (4 : Int32)).toNatClampNeg)
                      have li63 : (116 : Int32).toInt = 116 := rfl
                      refine zd (fun h64 => ?_) (fun h64 => ?_)
                      · skip
                        have g65 := i_eq h64
                        first | have e66 : ((mI S 64 2) + (5 : Int32)).toInt = (mI S 64 2).toInt + (5) := i_addk rfl (by omega) (by omega) | have b67 := i_bd ((mI S 64 2) + (5 : Int32))
                        refine zd (fun h68 => ?_) (fun h68 => ?_)
                        · skip
                          have g69 := i_le h68
                          have li70 : (1 : Int32).toInt = 1 := rfl
                          exact K ((1 : Int32)) _ hI (by decide) (show ((1 : Int32) = 1 ∧ zwd (f 65) (f 64 2) ((f 64 3).toInt - (f 64 2).toInt) 99 111 117 110 116 115 0) ∨ ((1 : Int32) = 0 ∧ ¬ zwd (f 65) (f 64 2) ((f 64 3).toInt - (f 64 2).toInt) 99 111 117 110 116 115 0) from by first | (omega) | (rw [show f 65 = mI S 65 from funext (fun k => (zG_z hI rfl).symm), show f 64 2 = mI S 64 2 from (zG_z hI rfl).symm, show f 64 3 = mI S 64 3 from (zG_z hI rfl).symm]; exact Or.inl ⟨rfl, by rw [if_neg (by decide), if_neg (by decide), if_pos rfl]; omega, (by assumption), (by assumption), (by assumption), (by assumption), Or.inr (by assumption), Or.inr (Or.inr (by assumption)), Or.inr (Or.inr (Or.inl rfl))⟩) | (exfalso; omega)) (show zFm I0 L0 R0 S from by first | (exact hpre0))
                        · skip
                          have g71 := i_nle h68
                          refine ⟨i_ix (by omega) (by omega), ?_⟩
                          have q72 : (mI S 65 ((mI S 64 2) + (5 : Int32)).toNatClampNeg).toInt = (f 65 ((mI S 64 2) + (5 : Int32)).toNatClampNeg).toInt := zG_zi hI rfl
                          have b73 := i_bd (mI S 65 ((mI S 64 2) + (5 : Int32)).toNatClampNeg)
                          have li74 : (115 : Int32).toInt = 115 := rfl
                          refine zd (fun h75 => ?_) (fun h75 => ?_)
                          · skip
                            have g76 := i_eq h75
                            have li77 : (1 : Int32).toInt = 1 := rfl
                            exact K ((1 : Int32)) _ hI (by decide) (show ((1 : Int32) = 1 ∧ zwd (f 65) (f 64 2) ((f 64 3).toInt - (f 64 2).toInt) 99 111 117 110 116 115 0) ∨ ((1 : Int32) = 0 ∧ ¬ zwd (f 65) (f 64 2) ((f 64 3).toInt - (f 64 2).toInt) 99 111 117 110 116 115 0) from by first | (rw [show f 65 = mI S 65 from funext (fun k => (zG_z hI rfl).symm), show f 64 2 = mI S 64 2 from (zG_z hI rfl).symm, show f 64 3 = mI S 64 3 from (zG_z hI rfl).symm]; exact Or.inl ⟨rfl, by rw [if_neg (by decide), if_neg (by decide), if_pos rfl]; omega, (by assumption), (by assumption), (by assumption), (by assumption), Or.inr (by assumption), Or.inr (Or.inr (by assumption)), Or.inr (Or.inr (Or.inl rfl))⟩) | (omega) | (exfalso; omega)) (show zFm I0 L0 R0 S from by first | (exact hpre0))
                          · skip
                            have g78 := i_ne h75
                            have li79 : (0 : Int32).toInt = 0 := rfl
                            exact K ((0 : Int32)) _ hI (by decide) (show ((0 : Int32) = 1 ∧ zwd (f 65) (f 64 2) ((f 64 3).toInt - (f 64 2).toInt) 99 111 117 110 116 115 0) ∨ ((0 : Int32) = 0 ∧ ¬ zwd (f 65) (f 64 2) ((f 64 3).toInt - (f 64 2).toInt) 99 111 117 110 116 115 0) from by first | (rw [show f 65 = mI S 65 from funext (fun k => (zG_z hI rfl).symm), show f 64 2 = mI S 64 2 from (zG_z hI rfl).symm, show f 64 3 = mI S 64 3 from (zG_z hI rfl).symm]; exact Or.inr ⟨rfl, fun z => absurd (z.2.2.2.2.2.2.1.elim (fun y => absurd y (by decide)) (fun y => y.elim (fun y => absurd y (by decide)) id)) (by assumption)⟩) | (rw [show f 65 = mI S 65 from funext (fun k => (zG_z hI rfl).symm), show f 64 2 = mI S 64 2 from (zG_z hI rfl).symm, show f 64 3 = mI S 64 3 from (zG_z hI rfl).symm]; exact Or.inr ⟨rfl, fun z => absurd z.2.1 (by assumption)⟩) | (rw [show f 65 = mI S 65 from funext (fun k => (zG_z hI rfl).symm), show f 64 2 = mI S 64 2 from (zG_z hI rfl).symm, show f 64 3 = mI S 64 3 from (zG_z hI rfl).symm]; exact Or.inr ⟨rfl, fun z => absurd z.2.2.1 (by assumption)⟩) | (rw [show f 65 = mI S 65 from funext (fun k => (zG_z hI rfl).symm), show f 64 2 = mI S 64 2 from (zG_z hI rfl).symm, show f 64 3 = mI S 64 3 from (zG_z hI rfl).symm]; exact Or.inr ⟨rfl, fun z => absurd z.2.2.2.1 (by assumption)⟩) | (rw [show f 65 = mI S 65 from funext (fun k => (zG_z hI rfl).symm), show f 64 2 = mI S 64 2 from (zG_z hI rfl).symm, show f 64 3 = mI S 64 3 from (zG_z hI rfl).symm]; exact Or.inr ⟨rfl, fun z => absurd z.2.2.2.2.1 (by assumption)⟩) | (rw [show f 65 = mI S 65 from funext (fun k => (zG_z hI rfl).symm), show f 64 2 = mI S 64 2 from (zG_z hI rfl).symm, show f 64 3 = mI S 64 3 from (zG_z hI rfl).symm]; exact Or.inr ⟨rfl, fun z => absurd (z.2.2.2.2.2.1.elim (fun y => absurd y (by decide)) id) (by assumption)⟩) | (rw [show f 65 = mI S 65 from funext (fun k => (zG_z hI rfl).symm), show f 64 2 = mI S 64 2 from (zG_z hI rfl).symm, show f 64 3 = mI S 64 3 from (zG_z hI rfl).symm]; exact Or.inr ⟨rfl, fun z => by have y := z.1; rw [if_neg (by decide), if_neg (by decide), if_pos rfl] at y; omega⟩) | (omega) | (exfalso; omega)) (show zFm I0 L0 R0 S from by first | (exact hpre0))
                      · skip
                        have g80 := i_ne h64
                        have li81 : (0 : Int32).toInt = 0 := rfl
                        exact K ((0 : Int32)) _ hI (by decide) (show ((0 : Int32) = 1 ∧ zwd (f 65) (f 64 2) ((f 64 3).toInt - (f 64 2).toInt) 99 111 117 110 116 115 0) ∨ ((0 : Int32) = 0 ∧ ¬ zwd (f 65) (f 64 2) ((f 64 3).toInt - (f 64 2).toInt) 99 111 117 110 116 115 0) from by first | (rw [show f 65 = mI S 65 from funext (fun k => (zG_z hI rfl).symm), show f 64 2 = mI S 64 2 from (zG_z hI rfl).symm, show f 64 3 = mI S 64 3 from (zG_z hI rfl).symm]; exact Or.inr ⟨rfl, fun z => absurd (z.2.2.2.2.2.1.elim (fun y => absurd y (by decide)) id) (by assumption)⟩) | (rw [show f 65 = mI S 65 from funext (fun k => (zG_z hI rfl).symm), show f 64 2 = mI S 64 2 from (zG_z hI rfl).symm, show f 64 3 = mI S 64 3 from (zG_z hI rfl).symm]; exact Or.inr ⟨rfl, fun z => absurd z.2.1 (by assumption)⟩) | (rw [show f 65 = mI S 65 from funext (fun k => (zG_z hI rfl).symm), show f 64 2 = mI S 64 2 from (zG_z hI rfl).symm, show f 64 3 = mI S 64 3 from (zG_z hI rfl).symm]; exact Or.inr ⟨rfl, fun z => absurd z.2.2.1 (by assumption)⟩) | (rw [show f 65 = mI S 65 from funext (fun k => (zG_z hI rfl).symm), show f 64 2 = mI S 64 2 from (zG_z hI rfl).symm, show f 64 3 = mI S 64 3 from (zG_z hI rfl).symm]; exact Or.inr ⟨rfl, fun z => absurd z.2.2.2.1 (by assumption)⟩) | (rw [show f 65 = mI S 65 from funext (fun k => (zG_z hI rfl).symm), show f 64 2 = mI S 64 2 from (zG_z hI rfl).symm, show f 64 3 = mI S 64 3 from (zG_z hI rfl).symm]; exact Or.inr ⟨rfl, fun z => absurd z.2.2.2.2.1 (by assumption)⟩) | (rw [show f 65 = mI S 65 from funext (fun k => (zG_z hI rfl).symm), show f 64 2 = mI S 64 2 from (zG_z hI rfl).symm, show f 64 3 = mI S 64 3 from (zG_z hI rfl).symm]; exact Or.inr ⟨rfl, fun z => absurd (z.2.2.2.2.2.2.1.elim (fun y => absurd y (by decide)) (fun y => y.elim (fun y => absurd y (by decide)) id)) (by assumption)⟩) | (rw [show f 65 = mI S 65 from funext (fun k => (zG_z hI rfl).symm), show f 64 2 = mI S 64 2 from (zG_z hI rfl).symm, show f 64 3 = mI S 64 3 from (zG_z hI rfl).symm]; exact Or.inr ⟨rfl, fun z => by have y := z.1; rw [if_neg (by decide), if_neg (by decide), if_pos rfl] at y; omega⟩) | (omega) | (exfalso; omega)) (show zFm I0 L0 R0 S from by first | (exact hpre0))
                  · skip
                    have g82 := i_ne h53
                    have li83 : (0 : Int32).toInt = 0 := rfl
                    exact K ((0 : Int32)) _ hI (by decide) (show ((0 : Int32) = 1 ∧ zwd (f 65) (f 64 2) ((f 64 3).toInt - (f 64 2).toInt) 99 111 117 110 116 115 0) ∨ ((0 : Int32) = 0 ∧ ¬ zwd (f 65) (f 64 2) ((f 64 3).toInt - (f 64 2).toInt) 99 111 117 110 116 115 0) from by first | (rw [show f 65 = mI S 65 from funext (fun k => (zG_z hI rfl).symm), show f 64 2 = mI S 64 2 from (zG_z hI rfl).symm, show f 64 3 = mI S 64 3 from (zG_z hI rfl).symm]; exact Or.inr ⟨rfl, fun z => absurd z.2.2.2.2.1 (by assumption)⟩) | (rw [show f 65 = mI S 65 from funext (fun k => (zG_z hI rfl).symm), show f 64 2 = mI S 64 2 from (zG_z hI rfl).symm, show f 64 3 = mI S 64 3 from (zG_z hI rfl).symm]; exact Or.inr ⟨rfl, fun z => absurd z.2.1 (by assumption)⟩) | (rw [show f 65 = mI S 65 from funext (fun k => (zG_z hI rfl).symm), show f 64 2 = mI S 64 2 from (zG_z hI rfl).symm, show f 64 3 = mI S 64 3 from (zG_z hI rfl).symm]; exact Or.inr ⟨rfl, fun z => absurd z.2.2.1 (by assumption)⟩) | (rw [show f 65 = mI S 65 from funext (fun k => (zG_z hI rfl).symm), show f 64 2 = mI S 64 2 from (zG_z hI rfl).symm, show f 64 3 = mI S 64 3 from (zG_z hI rfl).symm]; exact Or.inr ⟨rfl, fun z => absurd z.2.2.2.1 (by assumption)⟩) | (rw [show f 65 = mI S 65 from funext (fun k => (zG_z hI rfl).symm), show f 64 2 = mI S 64 2 from (zG_z hI rfl).symm, show f 64 3 = mI S 64 3 from (zG_z hI rfl).symm]; exact Or.inr ⟨rfl, fun z => absurd (z.2.2.2.2.2.1.elim (fun y => absurd y (by decide)) id) (by assumption)⟩) | (rw [show f 65 = mI S 65 from funext (fun k => (zG_z hI rfl).symm), show f 64 2 = mI S 64 2 from (zG_z hI rfl).symm, show f 64 3 = mI S 64 3 from (zG_z hI rfl).symm]; exact Or.inr ⟨rfl, fun z => absurd (z.2.2.2.2.2.2.1.elim (fun y => absurd y (by decide)) (fun y => y.elim (fun y => absurd y (by decide)) id)) (by assumption)⟩) | (rw [show f 65 = mI S 65 from funext (fun k => (zG_z hI rfl).symm), show f 64 2 = mI S 64 2 from (zG_z hI rfl).symm, show f 64 3 = mI S 64 3 from (zG_z hI rfl).symm]; exact Or.inr ⟨rfl, fun z => by have y := z.1; rw [if_neg (by decide), if_neg (by decide), if_pos rfl] at y; omega⟩) | (omega) | (exfalso; omega)) (show zFm I0 L0 R0 S from by first | (exact hpre0))
              · skip
                have g84 := i_ne h42
                have li85 : (0 : Int32).toInt = 0 := rfl
                exact K ((0 : Int32)) _ hI (by decide) (show ((0 : Int32) = 1 ∧ zwd (f 65) (f 64 2) ((f 64 3).toInt - (f 64 2).toInt) 99 111 117 110 116 115 0) ∨ ((0 : Int32) = 0 ∧ ¬ zwd (f 65) (f 64 2) ((f 64 3).toInt - (f 64 2).toInt) 99 111 117 110 116 115 0) from by first | (rw [show f 65 = mI S 65 from funext (fun k => (zG_z hI rfl).symm), show f 64 2 = mI S 64 2 from (zG_z hI rfl).symm, show f 64 3 = mI S 64 3 from (zG_z hI rfl).symm]; exact Or.inr ⟨rfl, fun z => absurd z.2.2.2.1 (by assumption)⟩) | (rw [show f 65 = mI S 65 from funext (fun k => (zG_z hI rfl).symm), show f 64 2 = mI S 64 2 from (zG_z hI rfl).symm, show f 64 3 = mI S 64 3 from (zG_z hI rfl).symm]; exact Or.inr ⟨rfl, fun z => absurd z.2.1 (by assumption)⟩) | (rw [show f 65 = mI S 65 from funext (fun k => (zG_z hI rfl).symm), show f 64 2 = mI S 64 2 from (zG_z hI rfl).symm, show f 64 3 = mI S 64 3 from (zG_z hI rfl).symm]; exact Or.inr ⟨rfl, fun z => absurd z.2.2.1 (by assumption)⟩) | (rw [show f 65 = mI S 65 from funext (fun k => (zG_z hI rfl).symm), show f 64 2 = mI S 64 2 from (zG_z hI rfl).symm, show f 64 3 = mI S 64 3 from (zG_z hI rfl).symm]; exact Or.inr ⟨rfl, fun z => absurd z.2.2.2.2.1 (by assumption)⟩) | (rw [show f 65 = mI S 65 from funext (fun k => (zG_z hI rfl).symm), show f 64 2 = mI S 64 2 from (zG_z hI rfl).symm, show f 64 3 = mI S 64 3 from (zG_z hI rfl).symm]; exact Or.inr ⟨rfl, fun z => absurd (z.2.2.2.2.2.1.elim (fun y => absurd y (by decide)) id) (by assumption)⟩) | (rw [show f 65 = mI S 65 from funext (fun k => (zG_z hI rfl).symm), show f 64 2 = mI S 64 2 from (zG_z hI rfl).symm, show f 64 3 = mI S 64 3 from (zG_z hI rfl).symm]; exact Or.inr ⟨rfl, fun z => absurd (z.2.2.2.2.2.2.1.elim (fun y => absurd y (by decide)) (fun y => y.elim (fun y => absurd y (by decide)) id)) (by assumption)⟩) | (rw [show f 65 = mI S 65 from funext (fun k => (zG_z hI rfl).symm), show f 64 2 = mI S 64 2 from (zG_z hI rfl).symm, show f 64 3 = mI S 64 3 from (zG_z hI rfl).symm]; exact Or.inr ⟨rfl, fun z => by have y := z.1; rw [if_neg (by decide), if_neg (by decide), if_pos rfl] at y; omega⟩) | (omega) | (exfalso; omega)) (show zFm I0 L0 R0 S from by first | (exact hpre0))
          · skip
            have g86 := i_ne h31
            have li87 : (0 : Int32).toInt = 0 := rfl
            exact K ((0 : Int32)) _ hI (by decide) (show ((0 : Int32) = 1 ∧ zwd (f 65) (f 64 2) ((f 64 3).toInt - (f 64 2).toInt) 99 111 117 110 116 115 0) ∨ ((0 : Int32) = 0 ∧ ¬ zwd (f 65) (f 64 2) ((f 64 3).toInt - (f 64 2).toInt) 99 111 117 110 116 115 0) from by first | (rw [show f 65 = mI S 65 from funext (fun k => (zG_z hI rfl).symm), show f 64 2 = mI S 64 2 from (zG_z hI rfl).symm, show f 64 3 = mI S 64 3 from (zG_z hI rfl).symm]; exact Or.inr ⟨rfl, fun z => absurd z.2.2.1 (by assumption)⟩) | (rw [show f 65 = mI S 65 from funext (fun k => (zG_z hI rfl).symm), show f 64 2 = mI S 64 2 from (zG_z hI rfl).symm, show f 64 3 = mI S 64 3 from (zG_z hI rfl).symm]; exact Or.inr ⟨rfl, fun z => absurd z.2.1 (by assumption)⟩) | (rw [show f 65 = mI S 65 from funext (fun k => (zG_z hI rfl).symm), show f 64 2 = mI S 64 2 from (zG_z hI rfl).symm, show f 64 3 = mI S 64 3 from (zG_z hI rfl).symm]; exact Or.inr ⟨rfl, fun z => absurd z.2.2.2.1 (by assumption)⟩) | (rw [show f 65 = mI S 65 from funext (fun k => (zG_z hI rfl).symm), show f 64 2 = mI S 64 2 from (zG_z hI rfl).symm, show f 64 3 = mI S 64 3 from (zG_z hI rfl).symm]; exact Or.inr ⟨rfl, fun z => absurd z.2.2.2.2.1 (by assumption)⟩) | (rw [show f 65 = mI S 65 from funext (fun k => (zG_z hI rfl).symm), show f 64 2 = mI S 64 2 from (zG_z hI rfl).symm, show f 64 3 = mI S 64 3 from (zG_z hI rfl).symm]; exact Or.inr ⟨rfl, fun z => absurd (z.2.2.2.2.2.1.elim (fun y => absurd y (by decide)) id) (by assumption)⟩) | (rw [show f 65 = mI S 65 from funext (fun k => (zG_z hI rfl).symm), show f 64 2 = mI S 64 2 from (zG_z hI rfl).symm, show f 64 3 = mI S 64 3 from (zG_z hI rfl).symm]; exact Or.inr ⟨rfl, fun z => absurd (z.2.2.2.2.2.2.1.elim (fun y => absurd y (by decide)) (fun y => y.elim (fun y => absurd y (by decide)) id)) (by assumption)⟩) | (rw [show f 65 = mI S 65 from funext (fun k => (zG_z hI rfl).symm), show f 64 2 = mI S 64 2 from (zG_z hI rfl).symm, show f 64 3 = mI S 64 3 from (zG_z hI rfl).symm]; exact Or.inr ⟨rfl, fun z => by have y := z.1; rw [if_neg (by decide), if_neg (by decide), if_pos rfl] at y; omega⟩) | (omega) | (exfalso; omega)) (show zFm I0 L0 R0 S from by first | (exact hpre0))
      · skip
        have g88 := i_ne h20
        have li89 : (0 : Int32).toInt = 0 := rfl
        exact K ((0 : Int32)) _ hI (by decide) (show ((0 : Int32) = 1 ∧ zwd (f 65) (f 64 2) ((f 64 3).toInt - (f 64 2).toInt) 99 111 117 110 116 115 0) ∨ ((0 : Int32) = 0 ∧ ¬ zwd (f 65) (f 64 2) ((f 64 3).toInt - (f 64 2).toInt) 99 111 117 110 116 115 0) from by first | (rw [show f 65 = mI S 65 from funext (fun k => (zG_z hI rfl).symm), show f 64 2 = mI S 64 2 from (zG_z hI rfl).symm, show f 64 3 = mI S 64 3 from (zG_z hI rfl).symm]; exact Or.inr ⟨rfl, fun z => absurd z.2.1 (by assumption)⟩) | (rw [show f 65 = mI S 65 from funext (fun k => (zG_z hI rfl).symm), show f 64 2 = mI S 64 2 from (zG_z hI rfl).symm, show f 64 3 = mI S 64 3 from (zG_z hI rfl).symm]; exact Or.inr ⟨rfl, fun z => absurd z.2.2.1 (by assumption)⟩) | (rw [show f 65 = mI S 65 from funext (fun k => (zG_z hI rfl).symm), show f 64 2 = mI S 64 2 from (zG_z hI rfl).symm, show f 64 3 = mI S 64 3 from (zG_z hI rfl).symm]; exact Or.inr ⟨rfl, fun z => absurd z.2.2.2.1 (by assumption)⟩) | (rw [show f 65 = mI S 65 from funext (fun k => (zG_z hI rfl).symm), show f 64 2 = mI S 64 2 from (zG_z hI rfl).symm, show f 64 3 = mI S 64 3 from (zG_z hI rfl).symm]; exact Or.inr ⟨rfl, fun z => absurd z.2.2.2.2.1 (by assumption)⟩) | (rw [show f 65 = mI S 65 from funext (fun k => (zG_z hI rfl).symm), show f 64 2 = mI S 64 2 from (zG_z hI rfl).symm, show f 64 3 = mI S 64 3 from (zG_z hI rfl).symm]; exact Or.inr ⟨rfl, fun z => absurd (z.2.2.2.2.2.1.elim (fun y => absurd y (by decide)) id) (by assumption)⟩) | (rw [show f 65 = mI S 65 from funext (fun k => (zG_z hI rfl).symm), show f 64 2 = mI S 64 2 from (zG_z hI rfl).symm, show f 64 3 = mI S 64 3 from (zG_z hI rfl).symm]; exact Or.inr ⟨rfl, fun z => absurd (z.2.2.2.2.2.2.1.elim (fun y => absurd y (by decide)) (fun y => y.elim (fun y => absurd y (by decide)) id)) (by assumption)⟩) | (rw [show f 65 = mI S 65 from funext (fun k => (zG_z hI rfl).symm), show f 64 2 = mI S 64 2 from (zG_z hI rfl).symm, show f 64 3 = mI S 64 3 from (zG_z hI rfl).symm]; exact Or.inr ⟨rfl, fun z => by have y := z.1; rw [if_neg (by decide), if_neg (by decide), if_pos rfl] at y; omega⟩) | (omega) | (exfalso; omega)) (show zFm I0 L0 R0 S from by first | (exact hpre0))
  · skip
    have g90 := i_ne h8
    have li91 : (0 : Int32).toInt = 0 := rfl
    exact K ((0 : Int32)) _ hI (by decide) (show ((0 : Int32) = 1 ∧ zwd (f 65) (f 64 2) ((f 64 3).toInt - (f 64 2).toInt) 99 111 117 110 116 115 0) ∨ ((0 : Int32) = 0 ∧ ¬ zwd (f 65) (f 64 2) ((f 64 3).toInt - (f 64 2).toInt) 99 111 117 110 116 115 0) from by first | (rw [show f 65 = mI S 65 from funext (fun k => (zG_z hI rfl).symm), show f 64 2 = mI S 64 2 from (zG_z hI rfl).symm, show f 64 3 = mI S 64 3 from (zG_z hI rfl).symm]; exact Or.inr ⟨rfl, fun z => by have y := z.1; rw [if_neg (by decide), if_neg (by decide), if_pos rfl] at y; omega⟩) | (rw [show f 65 = mI S 65 from funext (fun k => (zG_z hI rfl).symm), show f 64 2 = mI S 64 2 from (zG_z hI rfl).symm, show f 64 3 = mI S 64 3 from (zG_z hI rfl).symm]; exact Or.inr ⟨rfl, fun z => absurd z.2.1 (by assumption)⟩) | (rw [show f 65 = mI S 65 from funext (fun k => (zG_z hI rfl).symm), show f 64 2 = mI S 64 2 from (zG_z hI rfl).symm, show f 64 3 = mI S 64 3 from (zG_z hI rfl).symm]; exact Or.inr ⟨rfl, fun z => absurd z.2.2.1 (by assumption)⟩) | (rw [show f 65 = mI S 65 from funext (fun k => (zG_z hI rfl).symm), show f 64 2 = mI S 64 2 from (zG_z hI rfl).symm, show f 64 3 = mI S 64 3 from (zG_z hI rfl).symm]; exact Or.inr ⟨rfl, fun z => absurd z.2.2.2.1 (by assumption)⟩) | (rw [show f 65 = mI S 65 from funext (fun k => (zG_z hI rfl).symm), show f 64 2 = mI S 64 2 from (zG_z hI rfl).symm, show f 64 3 = mI S 64 3 from (zG_z hI rfl).symm]; exact Or.inr ⟨rfl, fun z => absurd z.2.2.2.2.1 (by assumption)⟩) | (rw [show f 65 = mI S 65 from funext (fun k => (zG_z hI rfl).symm), show f 64 2 = mI S 64 2 from (zG_z hI rfl).symm, show f 64 3 = mI S 64 3 from (zG_z hI rfl).symm]; exact Or.inr ⟨rfl, fun z => absurd (z.2.2.2.2.2.1.elim (fun y => absurd y (by decide)) id) (by assumption)⟩) | (rw [show f 65 = mI S 65 from funext (fun k => (zG_z hI rfl).symm), show f 64 2 = mI S 64 2 from (zG_z hI rfl).symm, show f 64 3 = mI S 64 3 from (zG_z hI rfl).symm]; exact Or.inr ⟨rfl, fun z => absurd (z.2.2.2.2.2.2.1.elim (fun y => absurd y (by decide)) (fun y => y.elim (fun y => absurd y (by decide)) id)) (by assumption)⟩) | (omega) | (exfalso; omega)) (show zFm I0 L0 R0 S from by first | (exact hpre0))

/-! from 95.i16 -/
/-! the class opens a heap (written by wip/tools/gen18c.py) -/
theorem g_131_64_5_sq_0 {X : Nat × (Nat → Int32)} {d w : Nat} {S : ma_S} {Q : Option ma_V ⊕ Nat → ma_S → Prop}  (hd : 5 ≤ d) (hw : 100 ≤ w) (hS : zT S) (h : if ((mI S 64 3) - (mI S 64 2)) = (5 : Int32) then (if (100 : Int32) ≤ ((mI S 64 2) + (0 : Int32)) then (Q (.inl (some (.inl (1 : Int32)))) S) else ((0 ≤ ((mI S 64 2) + (0 : Int32)) ∧ ((mI S 64 2) + (0 : Int32)).toNatClampNeg < 100) ∧ (if (mI S 65 ((mI S 64 2) + (0 : Int32)).toNatClampNeg) = (115 : Int32) then (if (100 : Int32) ≤ ((mI S 64 2) + (1 : Int32)) then (Q (.inl (some (.inl (1 : Int32)))) S) else ((0 ≤ ((mI S 64 2) + (1 : Int32)) ∧ ((mI S 64 2) + (1 : Int32)).toNatClampNeg < 100) ∧ (if (mI S 65 ((mI S 64 2) + (1 : Int32)).toNatClampNeg) = (116 : Int32) then (if (100 : Int32) ≤ ((mI S 64 2) + (2 : Int32)) then (Q (.inl (some (.inl (1 : Int32)))) S) else ((0 ≤ ((mI S 64 2) + (2 : Int32)) ∧ ((mI S 64 2) + (2 : Int32)).toNatClampNeg < 100) ∧ (if (mI S 65 ((mI S 64 2) + (2 : Int32)).toNatClampNeg) = (101 : Int32) then (if (100 : Int32) ≤ ((mI S 64 2) + (3 : Int32)) then (Q (.inl (some (.inl (1 : Int32)))) S) else ((0 ≤ ((mI S 64 2) + (3 : Int32)) ∧ ((mI S 64 2) + (3 : Int32)).toNatClampNeg < 100) ∧ (if (mI S 65 ((mI S 64 2) + (3 : Int32)).toNatClampNeg) = (112 : Int32) then (if (100 : Int32) ≤ ((mI S 64 2) + (4 : Int32)) then (Q (.inl (some (.inl (1 : Int32)))) S) else ((0 ≤ ((mI S 64 2) + (4 : Int32)) ∧ ((mI S 64 2) + (4 : Int32)).toNatClampNeg < 100) ∧ (if (mI S 65 ((mI S 64 2) + (4 : Int32)).toNatClampNeg) = (115 : Int32) then (Q (.inl (some (.inl (1 : Int32)))) S) else (Q (.inl (some (.inl (0 : Int32)))) S)))) else (Q (.inl (some (.inl (0 : Int32)))) S)))) else (Q (.inl (some (.inl (0 : Int32)))) S)))) else (Q (.inl (some (.inl (0 : Int32)))) S)))) else (Q (.inl (some (.inl (0 : Int32)))) S)))) else (Q (.inl (some (.inl (0 : Int32)))) S)) : ma_wp X d w 131 0 [(0, .inr (.inr (some 64))), (1, .inr (.inr (some 5)))] [] S Q := by
  refine zw_push hm_131 dX11_tokenIs_0 (v := .inr (.inr (some 64))) rfl ?_
  refine zw_gf hm_131 dX11_tokenIs_1 (v := .inl (mI S 64 3)) (zT_is hS s_64) (zT_t hS s_64) rfl f_11_275_11 rfl ?_
  refine zw_push hm_131 dX11_tokenIs_4 (v := .inr (.inr (some 64))) rfl ?_
  refine zw_gf hm_131 dX11_tokenIs_5 (v := .inl (mI S 64 2)) (zT_is hS s_64) (zT_t hS s_64) rfl f_11_92_11 rfl ?_
  refine zw_stk hm_131 dX11_tokenIs_8 (st₉ := [.inl ((mI S 64 3) - (mI S 64 2))]) rfl rfl ?_
  refine zw_push hm_131 dX11_tokenIs_9 (v := .inr (.inr (some 5))) rfl ?_
  refine zw_cv hm_131 dX11_tokenIs_10 v_11_288_17 hm_277 [] [.inl ((mI S 64 3) - (mI S 64 2))] rfl rfl ⟨by omega, by omega⟩ rfl (tx_len (v := (5 : Int32)) (by decide) (by omega) (by omega) rfl rfl ?_)
  show ma_wp X d w 131 13 [(0, .inr (.inr (some 64))), (1, .inr (.inr (some 5)))] [.inl (5 : Int32), .inl ((mI S 64 3) - (mI S 64 2))] S _
  refine zw_if2 hm_131 dX11_tokenIs_13 (t := 18) rfl zc2_eq ?_ ?_
  · intro hc
    rw [if_pos hc] at h
    refine zw_push hm_131 dX11_tokenIs_18 (v := .inl (0 : Int32)) rfl ?_
    refine zw_sto hm_131 dX11_tokenIs_19 [(2, .inl (0 : Int32)), (0, .inr (.inr (some 64))), (1, .inr (.inr (some 5)))] rfl rfl rfl ?_
    refine zw_push hm_131 dX11_tokenIs_20 (v := .inl (0 : Int32)) rfl ?_
    refine zw_push hm_131 dX11_tokenIs_21 (v := .inr (.inr (some 5))) rfl ?_
    refine zw_cv hm_131 dX11_tokenIs_22 v_11_288_17 hm_277 [] [.inl (0 : Int32)] rfl rfl ⟨by omega, by omega⟩ rfl (tx_len (v := (5 : Int32)) (by decide) (by omega) (by omega) rfl rfl ?_)
    show ma_wp X d w 131 25 [(2, .inl (0 : Int32)), (0, .inr (.inr (some 64))), (1, .inr (.inr (some 5)))] [.inl (5 : Int32), .inl (0 : Int32)] S _
    refine zw_if2 hm_131 dX11_tokenIs_25 (t := 66) rfl zc2_ge (fun hc => absurd hc (by decide)) (fun _ => ?_)
    refine zw_push hm_131 dX11_tokenIs_28 (v := .inr (.inr (some 64))) rfl ?_
    refine zw_gf hm_131 dX11_tokenIs_29 (v := .inl (mI S 64 2)) (zT_is hS s_64) (zT_t hS s_64) rfl f_11_92_11 rfl ?_
    refine zw_push hm_131 dX11_tokenIs_32 (v := .inl (0 : Int32)) rfl ?_
    refine zw_stk hm_131 dX11_tokenIs_33 (st₉ := [.inl ((mI S 64 2) + (0 : Int32))]) rfl rfl ?_
    refine zw_push hm_131 dX11_tokenIs_34 (v := .inl (100 : Int32)) rfl ?_
    refine zw_if2 hm_131 dX11_tokenIs_36 (t := 66) rfl zc2_ge ?_ ?_
    · intro hc
      rw [if_pos hc] at h
      refine zw_push hm_131 dX11_tokenIs_66 (v := .inl (1 : Int32)) rfl ?_
      exact zw_bret hm_131 dX11_tokenIs_67 (by decide) h
    · intro hc
      rw [if_neg hc] at h
      refine zw_push hm_131 dX11_tokenIs_39 (v := .inr (.inr (some 64))) rfl ?_
      refine zw_gf hm_131 dX11_tokenIs_40 (v := .inr (.inr (some 65))) (zT_is hS s_64) (zT_t hS s_64) rfl f_11_9_11 (zT_f hS r_64_0) ?_
      refine zw_push hm_131 dX11_tokenIs_43 (v := .inr (.inr (some 64))) rfl ?_
      refine zw_gf hm_131 dX11_tokenIs_44 (v := .inl (mI S 64 2)) (zT_is hS s_64) (zT_t hS s_64) rfl f_11_92_11 rfl ?_
      refine zw_push hm_131 dX11_tokenIs_47 (v := .inl (0 : Int32)) rfl ?_
      refine zw_stk hm_131 dX11_tokenIs_48 (st₉ := [.inl ((mI S 64 2) + (0 : Int32)), .inr (.inr (some 65))]) rfl rfl ?_
      obtain ⟨hg, h⟩ := h
      refine zw_ba hm_131 dX11_tokenIs_49 (zT_is hS s_65) (zT_h hS s_65) rfl rfl hg ?_
      show ma_wp X d w 131 50 [(2, .inl (0 : Int32)), (0, .inr (.inr (some 64))), (1, .inr (.inr (some 5)))] [.inl (mI S 65 ((mI S 64 2) + (0 : Int32)).toNatClampNeg)] S _
      refine zw_push hm_131 dX11_tokenIs_50 (v := .inr (.inr (some 5))) rfl ?_
      refine zw_push hm_131 dX11_tokenIs_51 (v := .inl (0 : Int32)) rfl ?_
      refine zw_cv hm_131 dX11_tokenIs_52 v_11_293_17 hm_279 [.inl (0 : Int32)] [.inl (mI S 65 ((mI S 64 2) + (0 : Int32)).toNatClampNeg)] rfl rfl ⟨by omega, by omega⟩ rfl (tx_char (v := (115 : Int32)) (by decide) (by omega) (by omega) (by decide) (by decide) (by decide) (by decide) ?_)
      show ma_wp X d w 131 55 [(2, .inl (0 : Int32)), (0, .inr (.inr (some 64))), (1, .inr (.inr (some 5)))] [.inl (115 : Int32), .inl (mI S 65 ((mI S 64 2) + (0 : Int32)).toNatClampNeg)] S _
      refine zw_if2 hm_131 dX11_tokenIs_55 (t := 60) rfl zc2_eq ?_ ?_
      · intro hc
        rw [if_pos hc] at h
        refine zw_sto hm_131 dX11_tokenIs_60 [(2, .inl (1 : Int32)), (0, .inr (.inr (some 64))), (1, .inr (.inr (some 5)))] rfl rfl rfl ?_
        refine zw_goto hm_131 dX11_tokenIs_63 (t := 20) rfl ?_
        refine zw_push hm_131 dX11_tokenIs_20 (v := .inl (1 : Int32)) rfl ?_
        refine zw_push hm_131 dX11_tokenIs_21 (v := .inr (.inr (some 5))) rfl ?_
        refine zw_cv hm_131 dX11_tokenIs_22 v_11_288_17 hm_277 [] [.inl (1 : Int32)] rfl rfl ⟨by omega, by omega⟩ rfl (tx_len (v := (5 : Int32)) (by decide) (by omega) (by omega) rfl rfl ?_)
        show ma_wp X d w 131 25 [(2, .inl (1 : Int32)), (0, .inr (.inr (some 64))), (1, .inr (.inr (some 5)))] [.inl (5 : Int32), .inl (1 : Int32)] S _
        refine zw_if2 hm_131 dX11_tokenIs_25 (t := 66) rfl zc2_ge (fun hc => absurd hc (by decide)) (fun _ => ?_)
        refine zw_push hm_131 dX11_tokenIs_28 (v := .inr (.inr (some 64))) rfl ?_
        refine zw_gf hm_131 dX11_tokenIs_29 (v := .inl (mI S 64 2)) (zT_is hS s_64) (zT_t hS s_64) rfl f_11_92_11 rfl ?_
        refine zw_push hm_131 dX11_tokenIs_32 (v := .inl (1 : Int32)) rfl ?_
        refine zw_stk hm_131 dX11_tokenIs_33 (st₉ := [.inl ((mI S 64 2) + (1 : Int32))]) rfl rfl ?_
        refine zw_push hm_131 dX11_tokenIs_34 (v := .inl (100 : Int32)) rfl ?_
        refine zw_if2 hm_131 dX11_tokenIs_36 (t := 66) rfl zc2_ge ?_ ?_
        · intro hc
          rw [if_pos hc] at h
          refine zw_push hm_131 dX11_tokenIs_66 (v := .inl (1 : Int32)) rfl ?_
          exact zw_bret hm_131 dX11_tokenIs_67 (by decide) h
        · intro hc
          rw [if_neg hc] at h
          refine zw_push hm_131 dX11_tokenIs_39 (v := .inr (.inr (some 64))) rfl ?_
          refine zw_gf hm_131 dX11_tokenIs_40 (v := .inr (.inr (some 65))) (zT_is hS s_64) (zT_t hS s_64) rfl f_11_9_11 (zT_f hS r_64_0) ?_
          refine zw_push hm_131 dX11_tokenIs_43 (v := .inr (.inr (some 64))) rfl ?_
          refine zw_gf hm_131 dX11_tokenIs_44 (v := .inl (mI S 64 2)) (zT_is hS s_64) (zT_t hS s_64) rfl f_11_92_11 rfl ?_
          refine zw_push hm_131 dX11_tokenIs_47 (v := .inl (1 : Int32)) rfl ?_
          refine zw_stk hm_131 dX11_tokenIs_48 (st₉ := [.inl ((mI S 64 2) + (1 : Int32)), .inr (.inr (some 65))]) rfl rfl ?_
          obtain ⟨hg, h⟩ := h
          refine zw_ba hm_131 dX11_tokenIs_49 (zT_is hS s_65) (zT_h hS s_65) rfl rfl hg ?_
          show ma_wp X d w 131 50 [(2, .inl (1 : Int32)), (0, .inr (.inr (some 64))), (1, .inr (.inr (some 5)))] [.inl (mI S 65 ((mI S 64 2) + (1 : Int32)).toNatClampNeg)] S _
          refine zw_push hm_131 dX11_tokenIs_50 (v := .inr (.inr (some 5))) rfl ?_
          refine zw_push hm_131 dX11_tokenIs_51 (v := .inl (1 : Int32)) rfl ?_
          refine zw_cv hm_131 dX11_tokenIs_52 v_11_293_17 hm_279 [.inl (1 : Int32)] [.inl (mI S 65 ((mI S 64 2) + (1 : Int32)).toNatClampNeg)] rfl rfl ⟨by omega, by omega⟩ rfl (tx_char (v := (116 : Int32)) (by decide) (by omega) (by omega) (by decide) (by decide) (by decide) (by decide) ?_)
          show ma_wp X d w 131 55 [(2, .inl (1 : Int32)), (0, .inr (.inr (some 64))), (1, .inr (.inr (some 5)))] [.inl (116 : Int32), .inl (mI S 65 ((mI S 64 2) + (1 : Int32)).toNatClampNeg)] S _
          refine zw_if2 hm_131 dX11_tokenIs_55 (t := 60) rfl zc2_eq ?_ ?_
          · intro hc
            rw [if_pos hc] at h
            refine zw_sto hm_131 dX11_tokenIs_60 [(2, .inl (2 : Int32)), (0, .inr (.inr (some 64))), (1, .inr (.inr (some 5)))] rfl rfl rfl ?_
            refine zw_goto hm_131 dX11_tokenIs_63 (t := 20) rfl ?_
            refine zw_push hm_131 dX11_tokenIs_20 (v := .inl (2 : Int32)) rfl ?_
            refine zw_push hm_131 dX11_tokenIs_21 (v := .inr (.inr (some 5))) rfl ?_
            refine zw_cv hm_131 dX11_tokenIs_22 v_11_288_17 hm_277 [] [.inl (2 : Int32)] rfl rfl ⟨by omega, by omega⟩ rfl (tx_len (v := (5 : Int32)) (by decide) (by omega) (by omega) rfl rfl ?_)
            show ma_wp X d w 131 25 [(2, .inl (2 : Int32)), (0, .inr (.inr (some 64))), (1, .inr (.inr (some 5)))] [.inl (5 : Int32), .inl (2 : Int32)] S _
            refine zw_if2 hm_131 dX11_tokenIs_25 (t := 66) rfl zc2_ge (fun hc => absurd hc (by decide)) (fun _ => ?_)
            refine zw_push hm_131 dX11_tokenIs_28 (v := .inr (.inr (some 64))) rfl ?_
            refine zw_gf hm_131 dX11_tokenIs_29 (v := .inl (mI S 64 2)) (zT_is hS s_64) (zT_t hS s_64) rfl f_11_92_11 rfl ?_
            refine zw_push hm_131 dX11_tokenIs_32 (v := .inl (2 : Int32)) rfl ?_
            refine zw_stk hm_131 dX11_tokenIs_33 (st₉ := [.inl ((mI S 64 2) + (2 : Int32))]) rfl rfl ?_
            refine zw_push hm_131 dX11_tokenIs_34 (v := .inl (100 : Int32)) rfl ?_
            refine zw_if2 hm_131 dX11_tokenIs_36 (t := 66) rfl zc2_ge ?_ ?_
            · intro hc
              rw [if_pos hc] at h
              refine zw_push hm_131 dX11_tokenIs_66 (v := .inl (1 : Int32)) rfl ?_
              exact zw_bret hm_131 dX11_tokenIs_67 (by decide) h
            · intro hc
              rw [if_neg hc] at h
              refine zw_push hm_131 dX11_tokenIs_39 (v := .inr (.inr (some 64))) rfl ?_
              refine zw_gf hm_131 dX11_tokenIs_40 (v := .inr (.inr (some 65))) (zT_is hS s_64) (zT_t hS s_64) rfl f_11_9_11 (zT_f hS r_64_0) ?_
              refine zw_push hm_131 dX11_tokenIs_43 (v := .inr (.inr (some 64))) rfl ?_
              refine zw_gf hm_131 dX11_tokenIs_44 (v := .inl (mI S 64 2)) (zT_is hS s_64) (zT_t hS s_64) rfl f_11_92_11 rfl ?_
              refine zw_push hm_131 dX11_tokenIs_47 (v := .inl (2 : Int32)) rfl ?_
              refine zw_stk hm_131 dX11_tokenIs_48 (st₉ := [.inl ((mI S 64 2) + (2 : Int32)), .inr (.inr (some 65))]) rfl rfl ?_
              obtain ⟨hg, h⟩ := h
              refine zw_ba hm_131 dX11_tokenIs_49 (zT_is hS s_65) (zT_h hS s_65) rfl rfl hg ?_
              show ma_wp X d w 131 50 [(2, .inl (2 : Int32)), (0, .inr (.inr (some 64))), (1, .inr (.inr (some 5)))] [.inl (mI S 65 ((mI S 64 2) + (2 : Int32)).toNatClampNeg)] S _
              refine zw_push hm_131 dX11_tokenIs_50 (v := .inr (.inr (some 5))) rfl ?_
              refine zw_push hm_131 dX11_tokenIs_51 (v := .inl (2 : Int32)) rfl ?_
              refine zw_cv hm_131 dX11_tokenIs_52 v_11_293_17 hm_279 [.inl (2 : Int32)] [.inl (mI S 65 ((mI S 64 2) + (2 : Int32)).toNatClampNeg)] rfl rfl ⟨by omega, by omega⟩ rfl (tx_char (v := (101 : Int32)) (by decide) (by omega) (by omega) (by decide) (by decide) (by decide) (by decide) ?_)
              show ma_wp X d w 131 55 [(2, .inl (2 : Int32)), (0, .inr (.inr (some 64))), (1, .inr (.inr (some 5)))] [.inl (101 : Int32), .inl (mI S 65 ((mI S 64 2) + (2 : Int32)).toNatClampNeg)] S _
              refine zw_if2 hm_131 dX11_tokenIs_55 (t := 60) rfl zc2_eq ?_ ?_
              · intro hc
                rw [if_pos hc] at h
                refine zw_sto hm_131 dX11_tokenIs_60 [(2, .inl (3 : Int32)), (0, .inr (.inr (some 64))), (1, .inr (.inr (some 5)))] rfl rfl rfl ?_
                refine zw_goto hm_131 dX11_tokenIs_63 (t := 20) rfl ?_
                refine zw_push hm_131 dX11_tokenIs_20 (v := .inl (3 : Int32)) rfl ?_
                refine zw_push hm_131 dX11_tokenIs_21 (v := .inr (.inr (some 5))) rfl ?_
                refine zw_cv hm_131 dX11_tokenIs_22 v_11_288_17 hm_277 [] [.inl (3 : Int32)] rfl rfl ⟨by omega, by omega⟩ rfl (tx_len (v := (5 : Int32)) (by decide) (by omega) (by omega) rfl rfl ?_)
                show ma_wp X d w 131 25 [(2, .inl (3 : Int32)), (0, .inr (.inr (some 64))), (1, .inr (.inr (some 5)))] [.inl (5 : Int32), .inl (3 : Int32)] S _
                refine zw_if2 hm_131 dX11_tokenIs_25 (t := 66) rfl zc2_ge (fun hc => absurd hc (by decide)) (fun _ => ?_)
                refine zw_push hm_131 dX11_tokenIs_28 (v := .inr (.inr (some 64))) rfl ?_
                refine zw_gf hm_131 dX11_tokenIs_29 (v := .inl (mI S 64 2)) (zT_is hS s_64) (zT_t hS s_64) rfl f_11_92_11 rfl ?_
                refine zw_push hm_131 dX11_tokenIs_32 (v := .inl (3 : Int32)) rfl ?_
                refine zw_stk hm_131 dX11_tokenIs_33 (st₉ := [.inl ((mI S 64 2) + (3 : Int32))]) rfl rfl ?_
                refine zw_push hm_131 dX11_tokenIs_34 (v := .inl (100 : Int32)) rfl ?_
                refine zw_if2 hm_131 dX11_tokenIs_36 (t := 66) rfl zc2_ge ?_ ?_
                · intro hc
                  rw [if_pos hc] at h
                  refine zw_push hm_131 dX11_tokenIs_66 (v := .inl (1 : Int32)) rfl ?_
                  exact zw_bret hm_131 dX11_tokenIs_67 (by decide) h
                · intro hc
                  rw [if_neg hc] at h
                  refine zw_push hm_131 dX11_tokenIs_39 (v := .inr (.inr (some 64))) rfl ?_
                  refine zw_gf hm_131 dX11_tokenIs_40 (v := .inr (.inr (some 65))) (zT_is hS s_64) (zT_t hS s_64) rfl f_11_9_11 (zT_f hS r_64_0) ?_
                  refine zw_push hm_131 dX11_tokenIs_43 (v := .inr (.inr (some 64))) rfl ?_
                  refine zw_gf hm_131 dX11_tokenIs_44 (v := .inl (mI S 64 2)) (zT_is hS s_64) (zT_t hS s_64) rfl f_11_92_11 rfl ?_
                  refine zw_push hm_131 dX11_tokenIs_47 (v := .inl (3 : Int32)) rfl ?_
                  refine zw_stk hm_131 dX11_tokenIs_48 (st₉ := [.inl ((mI S 64 2) + (3 : Int32)), .inr (.inr (some 65))]) rfl rfl ?_
                  obtain ⟨hg, h⟩ := h
                  refine zw_ba hm_131 dX11_tokenIs_49 (zT_is hS s_65) (zT_h hS s_65) rfl rfl hg ?_
                  show ma_wp X d w 131 50 [(2, .inl (3 : Int32)), (0, .inr (.inr (some 64))), (1, .inr (.inr (some 5)))] [.inl (mI S 65 ((mI S 64 2) + (3 : Int32)).toNatClampNeg)] S _
                  refine zw_push hm_131 dX11_tokenIs_50 (v := .inr (.inr (some 5))) rfl ?_
                  refine zw_push hm_131 dX11_tokenIs_51 (v := .inl (3 : Int32)) rfl ?_
                  refine zw_cv hm_131 dX11_tokenIs_52 v_11_293_17 hm_279 [.inl (3 : Int32)] [.inl (mI S 65 ((mI S 64 2) + (3 : Int32)).toNatClampNeg)] rfl rfl ⟨by omega, by omega⟩ rfl (tx_char (v := (112 : Int32)) (by decide) (by omega) (by omega) (by decide) (by decide) (by decide) (by decide) ?_)
                  show ma_wp X d w 131 55 [(2, .inl (3 : Int32)), (0, .inr (.inr (some 64))), (1, .inr (.inr (some 5)))] [.inl (112 : Int32), .inl (mI S 65 ((mI S 64 2) + (3 : Int32)).toNatClampNeg)] S _
                  refine zw_if2 hm_131 dX11_tokenIs_55 (t := 60) rfl zc2_eq ?_ ?_
                  · intro hc
                    rw [if_pos hc] at h
                    refine zw_sto hm_131 dX11_tokenIs_60 [(2, .inl (4 : Int32)), (0, .inr (.inr (some 64))), (1, .inr (.inr (some 5)))] rfl rfl rfl ?_
                    refine zw_goto hm_131 dX11_tokenIs_63 (t := 20) rfl ?_
                    refine zw_push hm_131 dX11_tokenIs_20 (v := .inl (4 : Int32)) rfl ?_
                    refine zw_push hm_131 dX11_tokenIs_21 (v := .inr (.inr (some 5))) rfl ?_
                    refine zw_cv hm_131 dX11_tokenIs_22 v_11_288_17 hm_277 [] [.inl (4 : Int32)] rfl rfl ⟨by omega, by omega⟩ rfl (tx_len (v := (5 : Int32)) (by decide) (by omega) (by omega) rfl rfl ?_)
                    show ma_wp X d w 131 25 [(2, .inl (4 : Int32)), (0, .inr (.inr (some 64))), (1, .inr (.inr (some 5)))] [.inl (5 : Int32), .inl (4 : Int32)] S _
                    refine zw_if2 hm_131 dX11_tokenIs_25 (t := 66) rfl zc2_ge (fun hc => absurd hc (by decide)) (fun _ => ?_)
                    refine zw_push hm_131 dX11_tokenIs_28 (v := .inr (.inr (some 64))) rfl ?_
                    refine zw_gf hm_131 dX11_tokenIs_29 (v := .inl (mI S 64 2)) (zT_is hS s_64) (zT_t hS s_64) rfl f_11_92_11 rfl ?_
                    refine zw_push hm_131 dX11_tokenIs_32 (v := .inl (4 : Int32)) rfl ?_
                    refine zw_stk hm_131 dX11_tokenIs_33 (st₉ := [.inl ((mI S 64 2) + (4 : Int32))]) rfl rfl ?_
                    refine zw_push hm_131 dX11_tokenIs_34 (v := .inl (100 : Int32)) rfl ?_
                    refine zw_if2 hm_131 dX11_tokenIs_36 (t := 66) rfl zc2_ge ?_ ?_
                    · intro hc
                      rw [if_pos hc] at h
                      refine zw_push hm_131 dX11_tokenIs_66 (v := .inl (1 : Int32)) rfl ?_
                      exact zw_bret hm_131 dX11_tokenIs_67 (by decide) h
                    · intro hc
                      rw [if_neg hc] at h
                      refine zw_push hm_131 dX11_tokenIs_39 (v := .inr (.inr (some 64))) rfl ?_
                      refine zw_gf hm_131 dX11_tokenIs_40 (v := .inr (.inr (some 65))) (zT_is hS s_64) (zT_t hS s_64) rfl f_11_9_11 (zT_f hS r_64_0) ?_
                      refine zw_push hm_131 dX11_tokenIs_43 (v := .inr (.inr (some 64))) rfl ?_
                      refine zw_gf hm_131 dX11_tokenIs_44 (v := .inl (mI S 64 2)) (zT_is hS s_64) (zT_t hS s_64) rfl f_11_92_11 rfl ?_
                      refine zw_push hm_131 dX11_tokenIs_47 (v := .inl (4 : Int32)) rfl ?_
                      refine zw_stk hm_131 dX11_tokenIs_48 (st₉ := [.inl ((mI S 64 2) + (4 : Int32)), .inr (.inr (some 65))]) rfl rfl ?_
                      obtain ⟨hg, h⟩ := h
                      refine zw_ba hm_131 dX11_tokenIs_49 (zT_is hS s_65) (zT_h hS s_65) rfl rfl hg ?_
                      show ma_wp X d w 131 50 [(2, .inl (4 : Int32)), (0, .inr (.inr (some 64))), (1, .inr (.inr (some 5)))] [.inl (mI S 65 ((mI S 64 2) + (4 : Int32)).toNatClampNeg)] S _
                      refine zw_push hm_131 dX11_tokenIs_50 (v := .inr (.inr (some 5))) rfl ?_
                      refine zw_push hm_131 dX11_tokenIs_51 (v := .inl (4 : Int32)) rfl ?_
                      refine zw_cv hm_131 dX11_tokenIs_52 v_11_293_17 hm_279 [.inl (4 : Int32)] [.inl (mI S 65 ((mI S 64 2) + (4 : Int32)).toNatClampNeg)] rfl rfl ⟨by omega, by omega⟩ rfl (tx_char (v := (115 : Int32)) (by decide) (by omega) (by omega) (by decide) (by decide) (by decide) (by decide) ?_)
                      show ma_wp X d w 131 55 [(2, .inl (4 : Int32)), (0, .inr (.inr (some 64))), (1, .inr (.inr (some 5)))] [.inl (115 : Int32), .inl (mI S 65 ((mI S 64 2) + (4 : Int32)).toNatClampNeg)] S _
                      refine zw_if2 hm_131 dX11_tokenIs_55 (t := 60) rfl zc2_eq ?_ ?_
                      · intro hc
                        rw [if_pos hc] at h
                        refine zw_sto hm_131 dX11_tokenIs_60 [(2, .inl (5 : Int32)), (0, .inr (.inr (some 64))), (1, .inr (.inr (some 5)))] rfl rfl rfl ?_
                        refine zw_goto hm_131 dX11_tokenIs_63 (t := 20) rfl ?_
                        refine zw_push hm_131 dX11_tokenIs_20 (v := .inl (5 : Int32)) rfl ?_
                        refine zw_push hm_131 dX11_tokenIs_21 (v := .inr (.inr (some 5))) rfl ?_
                        refine zw_cv hm_131 dX11_tokenIs_22 v_11_288_17 hm_277 [] [.inl (5 : Int32)] rfl rfl ⟨by omega, by omega⟩ rfl (tx_len (v := (5 : Int32)) (by decide) (by omega) (by omega) rfl rfl ?_)
                        show ma_wp X d w 131 25 [(2, .inl (5 : Int32)), (0, .inr (.inr (some 64))), (1, .inr (.inr (some 5)))] [.inl (5 : Int32), .inl (5 : Int32)] S _
                        refine zw_if2 hm_131 dX11_tokenIs_25 (t := 66) rfl zc2_ge (fun _ => ?_) (fun hc => absurd (by decide) hc)
                        refine zw_push hm_131 dX11_tokenIs_66 (v := .inl (1 : Int32)) rfl ?_
                        exact zw_bret hm_131 dX11_tokenIs_67 (by decide) h
                      · intro hc
                        rw [if_neg hc] at h
                        refine zw_push hm_131 dX11_tokenIs_58 (v := .inl (0 : Int32)) rfl ?_
                        exact zw_bret hm_131 dX11_tokenIs_59 (by decide) h
                  · intro hc
                    rw [if_neg hc] at h
                    refine zw_push hm_131 dX11_tokenIs_58 (v := .inl (0 : Int32)) rfl ?_
                    exact zw_bret hm_131 dX11_tokenIs_59 (by decide) h
              · intro hc
                rw [if_neg hc] at h
                refine zw_push hm_131 dX11_tokenIs_58 (v := .inl (0 : Int32)) rfl ?_
                exact zw_bret hm_131 dX11_tokenIs_59 (by decide) h
          · intro hc
            rw [if_neg hc] at h
            refine zw_push hm_131 dX11_tokenIs_58 (v := .inl (0 : Int32)) rfl ?_
            exact zw_bret hm_131 dX11_tokenIs_59 (by decide) h
      · intro hc
        rw [if_neg hc] at h
        refine zw_push hm_131 dX11_tokenIs_58 (v := .inl (0 : Int32)) rfl ?_
        exact zw_bret hm_131 dX11_tokenIs_59 (by decide) h
  · intro hc
    rw [if_neg hc] at h
    refine zw_push hm_131 dX11_tokenIs_16 (v := .inl (0 : Int32)) rfl ?_
    exact zw_bret hm_131 dX11_tokenIs_17 (by decide) h
theorem sp_131_64_5_sq {X : Nat × (Nat → Int32)} {d w : Nat} {f : Nat → Nat → Int32} {r : Nat → Nat → Option Nat} {C Z N : Nat} {Q : Option ma_V ⊕ Nat → ma_S → Prop} {I0 : Nat→Nat→Int32} {L0 : Nat→Nat→Int64} {R0 : zRT} {S : ma_S}  (hd : 5 ≤ d) (hw : 100 ≤ w) (hI : zY0 f r C Z N S) (hpre0 : zFm I0 L0 R0 S) (K : ∀ v S₉, zY0 f r C Z N S₉ → (v = 0 ∨ v = 1) → ((v = 1 ∧ zwd (f 65) (f 64 2) ((f 64 3).toInt - (f 64 2).toInt) 115 116 101 112 115 0 0) ∨ (v = 0 ∧ ¬ zwd (f 65) (f 64 2) ((f 64 3).toInt - (f 64 2).toInt) 115 116 101 112 115 0 0)) → (zFm I0 L0 R0 S₉) → Q (.inl (some (.inl v))) S₉) : ma_wp X d w 131 0 [(0, .inr (.inr (some 64))), (1, .inr (.inr (some 5)))] [] S Q := by
  refine g_131_64_5_sq_0  (by omega) (by omega) (zG_T hI) ?_
  have q1 : (mI S 64 3).toInt = (f 64 3).toInt := zG_zi hI rfl
  have f2 := zG_s hI (0) (100) (c := 64) (k := 3) (by decide)
  have q3 : (mI S 64 2).toInt = (f 64 2).toInt := zG_zi hI rfl
  have f4 := zG_s hI (0) (100) (c := 64) (k := 2) (by decide)
  first | have e5 : ((mI S 64 3) - (mI S 64 2)).toInt = (mI S 64 3).toInt - (mI S 64 2).toInt := i_sub (by omega) (by omega) | have b6 := i_bd ((mI S 64 3) - (mI S 64 2))
  have li7 : (5 : Int32).toInt = 5 := rfl
  refine zd (fun h8 => ?_) (fun h8 => ?_)
  · skip
    have g9 := i_eq h8
    have li10 : (100 : Int32).toInt = 100 := rfl
    first | have e11 : ((mI S 64 2) + (0 : Int32)).toInt = (mI S 64 2).toInt + (0) := i_addk rfl (by omega) (by omega) | have b12 := i_bd ((mI S 64 2) + (0 : Int32))
    refine zd (fun h13 => ?_) (fun h13 => ?_)
    · skip
      have g14 := i_le h13
      have li15 : (1 : Int32).toInt = 1 := rfl
      exact K ((1 : Int32)) _ hI (by decide) (show ((1 : Int32) = 1 ∧ zwd (f 65) (f 64 2) ((f 64 3).toInt - (f 64 2).toInt) 115 116 101 112 115 0 0) ∨ ((1 : Int32) = 0 ∧ ¬ zwd (f 65) (f 64 2) ((f 64 3).toInt - (f 64 2).toInt) 115 116 101 112 115 0 0) from by first | (rw [show f 65 = mI S 65 from funext (fun k => (zG_z hI rfl).symm), show f 64 2 = mI S 64 2 from (zG_z hI rfl).symm, show f 64 3 = mI S 64 3 from (zG_z hI rfl).symm]; exact Or.inl ⟨rfl, by rw [if_neg (by decide), if_pos rfl]; omega, (by assumption), (by assumption), (by assumption), (by assumption), Or.inr (by assumption), Or.inr (Or.inl rfl), Or.inr (Or.inl rfl)⟩) | (omega) | (exfalso; omega)) (show zFm I0 L0 R0 S from by first | (exact hpre0))
    · skip
      have g16 := i_nle h13
      refine ⟨i_ix (by omega) (by omega), ?_⟩
      have q17 : (mI S 65 ((mI S 64 2) + (0 : Int32)).toNatClampNeg).toInt = (f 65 ((mI S 64 2) + (0 : Int32)).toNatClampNeg).toInt := zG_zi hI rfl
      have b18 := i_bd (mI S 65 ((mI S 64 2) + (0 : Int32)).toNatClampNeg)
      have li19 : (115 : Int32).toInt = 115 := rfl
      refine zd (fun h20 => ?_) (fun h20 => ?_)
      · skip
        have g21 := i_eq h20
        first | have e22 : ((mI S 64 2) + (1 : Int32)).toInt = (mI S 64 2).toInt + (1) := i_addk rfl (by omega) (by omega) | have b23 := i_bd ((mI S 64 2) + (1 : Int32))
        refine zd (fun h24 => ?_) (fun h24 => ?_)
        · skip
          have g25 := i_le h24
          have li26 : (1 : Int32).toInt = 1 := rfl
          exact K ((1 : Int32)) _ hI (by decide) (show ((1 : Int32) = 1 ∧ zwd (f 65) (f 64 2) ((f 64 3).toInt - (f 64 2).toInt) 115 116 101 112 115 0 0) ∨ ((1 : Int32) = 0 ∧ ¬ zwd (f 65) (f 64 2) ((f 64 3).toInt - (f 64 2).toInt) 115 116 101 112 115 0 0) from by first | (rw [show f 65 = mI S 65 from funext (fun k => (zG_z hI rfl).symm), show f 64 2 = mI S 64 2 from (zG_z hI rfl).symm, show f 64 3 = mI S 64 3 from (zG_z hI rfl).symm]; exact Or.inl ⟨rfl, by rw [if_neg (by decide), if_pos rfl]; omega, (by assumption), (by assumption), (by assumption), (by assumption), Or.inr (by assumption), Or.inr (Or.inl rfl), Or.inr (Or.inl rfl)⟩) | (omega) | (exfalso; omega)) (show zFm I0 L0 R0 S from by first | (exact hpre0))
        · skip
          have g27 := i_nle h24
          refine ⟨i_ix (by omega) (by omega), ?_⟩
          have q28 : (mI S 65 ((mI S 64 2) + (1 : Int32)).toNatClampNeg).toInt = (f 65 ((mI S 64 2) + (1 : Int32)).toNatClampNeg).toInt := zG_zi hI rfl
          have b29 := i_bd (mI S 65 ((mI S 64 2) + (1 : Int32)).toNatClampNeg)
          have li30 : (116 : Int32).toInt = 116 := rfl
          refine zd (fun h31 => ?_) (fun h31 => ?_)
          · skip
            have g32 := i_eq h31
            first | have e33 : ((mI S 64 2) + (2 : Int32)).toInt = (mI S 64 2).toInt + (2) := i_addk rfl (by omega) (by omega) | have b34 := i_bd ((mI S 64 2) + (2 : Int32))
            refine zd (fun h35 => ?_) (fun h35 => ?_)
            · skip
              have g36 := i_le h35
              have li37 : (1 : Int32).toInt = 1 := rfl
              exact K ((1 : Int32)) _ hI (by decide) (show ((1 : Int32) = 1 ∧ zwd (f 65) (f 64 2) ((f 64 3).toInt - (f 64 2).toInt) 115 116 101 112 115 0 0) ∨ ((1 : Int32) = 0 ∧ ¬ zwd (f 65) (f 64 2) ((f 64 3).toInt - (f 64 2).toInt) 115 116 101 112 115 0 0) from by first | (rw [show f 65 = mI S 65 from funext (fun k => (zG_z hI rfl).symm), show f 64 2 = mI S 64 2 from (zG_z hI rfl).symm, show f 64 3 = mI S 64 3 from (zG_z hI rfl).symm]; exact Or.inl ⟨rfl, by rw [if_neg (by decide), if_pos rfl]; omega, (by assumption), (by assumption), (by assumption), (by assumption), Or.inr (by assumption), Or.inr (Or.inl rfl), Or.inr (Or.inl rfl)⟩) | (omega) | (exfalso; omega)) (show zFm I0 L0 R0 S from by first | (exact hpre0))
            · skip
              have g38 := i_nle h35
              refine ⟨i_ix (by omega) (by omega), ?_⟩
              have q39 : (mI S 65 ((mI S 64 2) + (2 : Int32)).toNatClampNeg).toInt = (f 65 ((mI S 64 2) + (2 : Int32)).toNatClampNeg).toInt := zG_zi hI rfl
              have b40 := i_bd (mI S 65 ((mI S 64 2) + (2 : Int32)).toNatClampNeg)
              have li41 : (101 : Int32).toInt = 101 := rfl
              refine zd (fun h42 => ?_) (fun h42 => ?_)
              · skip
                have g43 := i_eq h42
                first | have e44 : ((mI S 64 2) + (3 : Int32)).toInt = (mI S 64 2).toInt + (3) := i_addk rfl (by omega) (by omega) | have b45 := i_bd ((mI S 64 2) + (3 : Int32))
                refine zd (fun h46 => ?_) (fun h46 => ?_)
                · skip
                  have g47 := i_le h46
                  have li48 : (1 : Int32).toInt = 1 := rfl
                  exact K ((1 : Int32)) _ hI (by decide) (show ((1 : Int32) = 1 ∧ zwd (f 65) (f 64 2) ((f 64 3).toInt - (f 64 2).toInt) 115 116 101 112 115 0 0) ∨ ((1 : Int32) = 0 ∧ ¬ zwd (f 65) (f 64 2) ((f 64 3).toInt - (f 64 2).toInt) 115 116 101 112 115 0 0) from by first | (rw [show f 65 = mI S 65 from funext (fun k => (zG_z hI rfl).symm), show f 64 2 = mI S 64 2 from (zG_z hI rfl).symm, show f 64 3 = mI S 64 3 from (zG_z hI rfl).symm]; exact Or.inl ⟨rfl, by rw [if_neg (by decide), if_pos rfl]; omega, (by assumption), (by assumption), (by assumption), (by assumption), Or.inr (by assumption), Or.inr (Or.inl rfl), Or.inr (Or.inl rfl)⟩) | (omega) | (exfalso; omega)) (show zFm I0 L0 R0 S from by first | (exact hpre0))
                · skip
                  have g49 := i_nle h46
                  refine ⟨i_ix (by omega) (by omega), ?_⟩
                  have q50 : (mI S 65 ((mI S 64 2) + (3 : Int32)).toNatClampNeg).toInt = (f 65 ((mI S 64 2) + (3 : Int32)).toNatClampNeg).toInt := zG_zi hI rfl
                  have b51 := i_bd (mI S 65 ((mI S 64 2) + (3 : Int32)).toNatClampNeg)
                  have li52 : (112 : Int32).toInt = 112 := rfl
                  refine zd (fun h53 => ?_) (fun h53 => ?_)
                  · skip
                    have g54 := i_eq h53
                    first | have e55 : ((mI S 64 2) + (4 : Int32)).toInt = (mI S 64 2).toInt + (4) := i_addk rfl (by omega) (by omega) | have b56 := i_bd ((mI S 64 2) + (4 : Int32))
                    refine zd (fun h57 => ?_) (fun h57 => ?_)
                    · skip
                      have g58 := i_le h57
                      have li59 : (1 : Int32).toInt = 1 := rfl
                      exact K ((1 : Int32)) _ hI (by decide) (show ((1 : Int32) = 1 ∧ zwd (f 65) (f 64 2) ((f 64 3).toInt - (f 64 2).toInt) 115 116 101 112 115 0 0) ∨ ((1 : Int32) = 0 ∧ ¬ zwd (f 65) (f 64 2) ((f 64 3).toInt - (f 64 2).toInt) 115 116 101 112 115 0 0) from by first | (rw [show f 65 = mI S 65 from funext (fun k => (zG_z hI rfl).symm), show f 64 2 = mI S 64 2 from (zG_z hI rfl).symm, show f 64 3 = mI S 64 3 from (zG_z hI rfl).symm]; exact Or.inl ⟨rfl, by rw [if_neg (by decide), if_pos rfl]; omega, (by assumption), (by assumption), (by assumption), (by assumption), Or.inr (by assumption), Or.inr (Or.inl rfl), Or.inr (Or.inl rfl)⟩) | (omega) | (exfalso; omega)) (show zFm I0 L0 R0 S from by first | (exact hpre0))
                    · skip
                      have g60 := i_nle h57
                      refine ⟨i_ix (by omega) (by omega), ?_⟩
                      have q61 : (mI S 65 ((mI S 64 2) + (4 : Int32)).toNatClampNeg).toInt = (f 65 ((mI S 64 2) + (4 : Int32)).toNatClampNeg).toInt := zG_zi hI rfl
                      have b62 := i_bd (mI S 65 ((mI S 64 2) + (4 : Int32)).toNatClampNeg)
                      refine zd (fun h63 => ?_) (fun h63 => ?_)
                      · skip
                        have g64 := i_eq h63
                        have li65 : (1 : Int32).toInt = 1 := rfl
                        exact K ((1 : Int32)) _ hI (by decide) (show ((1 : Int32) = 1 ∧ zwd (f 65) (f 64 2) ((f 64 3).toInt - (f 64 2).toInt) 115 116 101 112 115 0 0) ∨ ((1 : Int32) = 0 ∧ ¬ zwd (f 65) (f 64 2) ((f 64 3).toInt - (f 64 2).toInt) 115 116 101 112 115 0 0) from by first | (rw [show f 65 = mI S 65 from funext (fun k => (zG_z hI rfl).symm), show f 64 2 = mI S 64 2 from (zG_z hI rfl).symm, show f 64 3 = mI S 64 3 from (zG_z hI rfl).symm]; exact Or.inl ⟨rfl, by rw [if_neg (by decide), if_pos rfl]; omega, (by assumption), (by assumption), (by assumption), (by assumption), Or.inr (by assumption), Or.inr (Or.inl rfl), Or.inr (Or.inl rfl)⟩) | (omega) | (exfalso; omega)) (show zFm I0 L0 R0 S from by first | (exact hpre0))
                      · skip
                        have g66 := i_ne h63
                        have li67 : (0 : Int32).toInt = 0 := rfl
                        exact K ((0 : Int32)) _ hI (by decide) (show ((0 : Int32) = 1 ∧ zwd (f 65) (f 64 2) ((f 64 3).toInt - (f 64 2).toInt) 115 116 101 112 115 0 0) ∨ ((0 : Int32) = 0 ∧ ¬ zwd (f 65) (f 64 2) ((f 64 3).toInt - (f 64 2).toInt) 115 116 101 112 115 0 0) from by first | (rw [show f 65 = mI S 65 from funext (fun k => (zG_z hI rfl).symm), show f 64 2 = mI S 64 2 from (zG_z hI rfl).symm, show f 64 3 = mI S 64 3 from (zG_z hI rfl).symm]; exact Or.inr ⟨rfl, fun z => absurd z.2.1 (by assumption)⟩) | (rw [show f 65 = mI S 65 from funext (fun k => (zG_z hI rfl).symm), show f 64 2 = mI S 64 2 from (zG_z hI rfl).symm, show f 64 3 = mI S 64 3 from (zG_z hI rfl).symm]; exact Or.inr ⟨rfl, fun z => absurd z.2.2.1 (by assumption)⟩) | (rw [show f 65 = mI S 65 from funext (fun k => (zG_z hI rfl).symm), show f 64 2 = mI S 64 2 from (zG_z hI rfl).symm, show f 64 3 = mI S 64 3 from (zG_z hI rfl).symm]; exact Or.inr ⟨rfl, fun z => absurd z.2.2.2.1 (by assumption)⟩) | (rw [show f 65 = mI S 65 from funext (fun k => (zG_z hI rfl).symm), show f 64 2 = mI S 64 2 from (zG_z hI rfl).symm, show f 64 3 = mI S 64 3 from (zG_z hI rfl).symm]; exact Or.inr ⟨rfl, fun z => absurd z.2.2.2.2.1 (by assumption)⟩) | (rw [show f 65 = mI S 65 from funext (fun k => (zG_z hI rfl).symm), show f 64 2 = mI S 64 2 from (zG_z hI rfl).symm, show f 64 3 = mI S 64 3 from (zG_z hI rfl).symm]; exact Or.inr ⟨rfl, fun z => absurd (z.2.2.2.2.2.1.elim (fun y => absurd y (by decide)) id) (by assumption)⟩) | (rw [show f 65 = mI S 65 from funext (fun k => (zG_z hI rfl).symm), show f 64 2 = mI S 64 2 from (zG_z hI rfl).symm, show f 64 3 = mI S 64 3 from (zG_z hI rfl).symm]; exact Or.inr ⟨rfl, fun z => by have y := z.1; rw [if_neg (by decide), if_pos rfl] at y; omega⟩) | (omega) | (exfalso; omega)) (show zFm I0 L0 R0 S from by first | (exact hpre0))
                  · skip
                    have g68 := i_ne h53
                    have li69 : (0 : Int32).toInt = 0 := rfl
                    exact K ((0 : Int32)) _ hI (by decide) (show ((0 : Int32) = 1 ∧ zwd (f 65) (f 64 2) ((f 64 3).toInt - (f 64 2).toInt) 115 116 101 112 115 0 0) ∨ ((0 : Int32) = 0 ∧ ¬ zwd (f 65) (f 64 2) ((f 64 3).toInt - (f 64 2).toInt) 115 116 101 112 115 0 0) from by first | (rw [show f 65 = mI S 65 from funext (fun k => (zG_z hI rfl).symm), show f 64 2 = mI S 64 2 from (zG_z hI rfl).symm, show f 64 3 = mI S 64 3 from (zG_z hI rfl).symm]; exact Or.inr ⟨rfl, fun z => absurd z.2.1 (by assumption)⟩) | (rw [show f 65 = mI S 65 from funext (fun k => (zG_z hI rfl).symm), show f 64 2 = mI S 64 2 from (zG_z hI rfl).symm, show f 64 3 = mI S 64 3 from (zG_z hI rfl).symm]; exact Or.inr ⟨rfl, fun z => absurd z.2.2.1 (by assumption)⟩) | (rw [show f 65 = mI S 65 from funext (fun k => (zG_z hI rfl).symm), show f 64 2 = mI S 64 2 from (zG_z hI rfl).symm, show f 64 3 = mI S 64 3 from (zG_z hI rfl).symm]; exact Or.inr ⟨rfl, fun z => absurd z.2.2.2.1 (by assumption)⟩) | (rw [show f 65 = mI S 65 from funext (fun k => (zG_z hI rfl).symm), show f 64 2 = mI S 64 2 from (zG_z hI rfl).symm, show f 64 3 = mI S 64 3 from (zG_z hI rfl).symm]; exact Or.inr ⟨rfl, fun z => absurd z.2.2.2.2.1 (by assumption)⟩) | (rw [show f 65 = mI S 65 from funext (fun k => (zG_z hI rfl).symm), show f 64 2 = mI S 64 2 from (zG_z hI rfl).symm, show f 64 3 = mI S 64 3 from (zG_z hI rfl).symm]; exact Or.inr ⟨rfl, fun z => absurd (z.2.2.2.2.2.1.elim (fun y => absurd y (by decide)) id) (by assumption)⟩) | (rw [show f 65 = mI S 65 from funext (fun k => (zG_z hI rfl).symm), show f 64 2 = mI S 64 2 from (zG_z hI rfl).symm, show f 64 3 = mI S 64 3 from (zG_z hI rfl).symm]; exact Or.inr ⟨rfl, fun z => by have y := z.1; rw [if_neg (by decide), if_pos rfl] at y; omega⟩) | (omega) | (exfalso; omega)) (show zFm I0 L0 R0 S from by first | (exact hpre0))
              · skip
                have g70 := i_ne h42
                have li71 : (0 : Int32).toInt = 0 := rfl
                exact K ((0 : Int32)) _ hI (by decide) (show ((0 : Int32) = 1 ∧ zwd (f 65) (f 64 2) ((f 64 3).toInt - (f 64 2).toInt) 115 116 101 112 115 0 0) ∨ ((0 : Int32) = 0 ∧ ¬ zwd (f 65) (f 64 2) ((f 64 3).toInt - (f 64 2).toInt) 115 116 101 112 115 0 0) from by first | (rw [show f 65 = mI S 65 from funext (fun k => (zG_z hI rfl).symm), show f 64 2 = mI S 64 2 from (zG_z hI rfl).symm, show f 64 3 = mI S 64 3 from (zG_z hI rfl).symm]; exact Or.inr ⟨rfl, fun z => absurd z.2.1 (by assumption)⟩) | (rw [show f 65 = mI S 65 from funext (fun k => (zG_z hI rfl).symm), show f 64 2 = mI S 64 2 from (zG_z hI rfl).symm, show f 64 3 = mI S 64 3 from (zG_z hI rfl).symm]; exact Or.inr ⟨rfl, fun z => absurd z.2.2.1 (by assumption)⟩) | (rw [show f 65 = mI S 65 from funext (fun k => (zG_z hI rfl).symm), show f 64 2 = mI S 64 2 from (zG_z hI rfl).symm, show f 64 3 = mI S 64 3 from (zG_z hI rfl).symm]; exact Or.inr ⟨rfl, fun z => absurd z.2.2.2.1 (by assumption)⟩) | (rw [show f 65 = mI S 65 from funext (fun k => (zG_z hI rfl).symm), show f 64 2 = mI S 64 2 from (zG_z hI rfl).symm, show f 64 3 = mI S 64 3 from (zG_z hI rfl).symm]; exact Or.inr ⟨rfl, fun z => absurd z.2.2.2.2.1 (by assumption)⟩) | (rw [show f 65 = mI S 65 from funext (fun k => (zG_z hI rfl).symm), show f 64 2 = mI S 64 2 from (zG_z hI rfl).symm, show f 64 3 = mI S 64 3 from (zG_z hI rfl).symm]; exact Or.inr ⟨rfl, fun z => absurd (z.2.2.2.2.2.1.elim (fun y => absurd y (by decide)) id) (by assumption)⟩) | (rw [show f 65 = mI S 65 from funext (fun k => (zG_z hI rfl).symm), show f 64 2 = mI S 64 2 from (zG_z hI rfl).symm, show f 64 3 = mI S 64 3 from (zG_z hI rfl).symm]; exact Or.inr ⟨rfl, fun z => by have y := z.1; rw [if_neg (by decide), if_pos rfl] at y; omega⟩) | (omega) | (exfalso; omega)) (show zFm I0 L0 R0 S from by first | (exact hpre0))
          · skip
            have g72 := i_ne h31
            have li73 : (0 : Int32).toInt = 0 := rfl
            exact K ((0 : Int32)) _ hI (by decide) (show ((0 : Int32) = 1 ∧ zwd (f 65) (f 64 2) ((f 64 3).toInt - (f 64 2).toInt) 115 116 101 112 115 0 0) ∨ ((0 : Int32) = 0 ∧ ¬ zwd (f 65) (f 64 2) ((f 64 3).toInt - (f 64 2).toInt) 115 116 101 112 115 0 0) from by first | (rw [show f 65 = mI S 65 from funext (fun k => (zG_z hI rfl).symm), show f 64 2 = mI S 64 2 from (zG_z hI rfl).symm, show f 64 3 = mI S 64 3 from (zG_z hI rfl).symm]; exact Or.inr ⟨rfl, fun z => absurd z.2.1 (by assumption)⟩) | (rw [show f 65 = mI S 65 from funext (fun k => (zG_z hI rfl).symm), show f 64 2 = mI S 64 2 from (zG_z hI rfl).symm, show f 64 3 = mI S 64 3 from (zG_z hI rfl).symm]; exact Or.inr ⟨rfl, fun z => absurd z.2.2.1 (by assumption)⟩) | (rw [show f 65 = mI S 65 from funext (fun k => (zG_z hI rfl).symm), show f 64 2 = mI S 64 2 from (zG_z hI rfl).symm, show f 64 3 = mI S 64 3 from (zG_z hI rfl).symm]; exact Or.inr ⟨rfl, fun z => absurd z.2.2.2.1 (by assumption)⟩) | (rw [show f 65 = mI S 65 from funext (fun k => (zG_z hI rfl).symm), show f 64 2 = mI S 64 2 from (zG_z hI rfl).symm, show f 64 3 = mI S 64 3 from (zG_z hI rfl).symm]; exact Or.inr ⟨rfl, fun z => absurd z.2.2.2.2.1 (by assumption)⟩) | (rw [show f 65 = mI S 65 from funext (fun k => (zG_z hI rfl).symm), show f 64 2 = mI S 64 2 from (zG_z hI rfl).symm, show f 64 3 = mI S 64 3 from (zG_z hI rfl).symm]; exact Or.inr ⟨rfl, fun z => absurd (z.2.2.2.2.2.1.elim (fun y => absurd y (by decide)) id) (by assumption)⟩) | (rw [show f 65 = mI S 65 from funext (fun k => (zG_z hI rfl).symm), show f 64 2 = mI S 64 2 from (zG_z hI rfl).symm, show f 64 3 = mI S 64 3 from (zG_z hI rfl).symm]; exact Or.inr ⟨rfl, fun z => by have y := z.1; rw [if_neg (by decide), if_pos rfl] at y; omega⟩) | (omega) | (exfalso; omega)) (show zFm I0 L0 R0 S from by first | (exact hpre0))
      · skip
        have g74 := i_ne h20
        have li75 : (0 : Int32).toInt = 0 := rfl
        exact K ((0 : Int32)) _ hI (by decide) (show ((0 : Int32) = 1 ∧ zwd (f 65) (f 64 2) ((f 64 3).toInt - (f 64 2).toInt) 115 116 101 112 115 0 0) ∨ ((0 : Int32) = 0 ∧ ¬ zwd (f 65) (f 64 2) ((f 64 3).toInt - (f 64 2).toInt) 115 116 101 112 115 0 0) from by first | (rw [show f 65 = mI S 65 from funext (fun k => (zG_z hI rfl).symm), show f 64 2 = mI S 64 2 from (zG_z hI rfl).symm, show f 64 3 = mI S 64 3 from (zG_z hI rfl).symm]; exact Or.inr ⟨rfl, fun z => absurd z.2.1 (by assumption)⟩) | (rw [show f 65 = mI S 65 from funext (fun k => (zG_z hI rfl).symm), show f 64 2 = mI S 64 2 from (zG_z hI rfl).symm, show f 64 3 = mI S 64 3 from (zG_z hI rfl).symm]; exact Or.inr ⟨rfl, fun z => absurd z.2.2.1 (by assumption)⟩) | (rw [show f 65 = mI S 65 from funext (fun k => (zG_z hI rfl).symm), show f 64 2 = mI S 64 2 from (zG_z hI rfl).symm, show f 64 3 = mI S 64 3 from (zG_z hI rfl).symm]; exact Or.inr ⟨rfl, fun z => absurd z.2.2.2.1 (by assumption)⟩) | (rw [show f 65 = mI S 65 from funext (fun k => (zG_z hI rfl).symm), show f 64 2 = mI S 64 2 from (zG_z hI rfl).symm, show f 64 3 = mI S 64 3 from (zG_z hI rfl).symm]; exact Or.inr ⟨rfl, fun z => absurd z.2.2.2.2.1 (by assumption)⟩) | (rw [show f 65 = mI S 65 from funext (fun k => (zG_z hI rfl).symm), show f 64 2 = mI S 64 2 from (zG_z hI rfl).symm, show f 64 3 = mI S 64 3 from (zG_z hI rfl).symm]; exact Or.inr ⟨rfl, fun z => absurd (z.2.2.2.2.2.1.elim (fun y => absurd y (by decide)) id) (by assumption)⟩) | (rw [show f 65 = mI S 65 from funext (fun k => (zG_z hI rfl).symm), show f 64 2 = mI S 64 2 from (zG_z hI rfl).symm, show f 64 3 = mI S 64 3 from (zG_z hI rfl).symm]; exact Or.inr ⟨rfl, fun z => by have y := z.1; rw [if_neg (by decide), if_pos rfl] at y; omega⟩) | (omega) | (exfalso; omega)) (show zFm I0 L0 R0 S from by first | (exact hpre0))
  · skip
    have g76 := i_ne h8
    have li77 : (0 : Int32).toInt = 0 := rfl
    exact K ((0 : Int32)) _ hI (by decide) (show ((0 : Int32) = 1 ∧ zwd (f 65) (f 64 2) ((f 64 3).toInt - (f 64 2).toInt) 115 116 101 112 115 0 0) ∨ ((0 : Int32) = 0 ∧ ¬ zwd (f 65) (f 64 2) ((f 64 3).toInt - (f 64 2).toInt) 115 116 101 112 115 0 0) from by first | (rw [show f 65 = mI S 65 from funext (fun k => (zG_z hI rfl).symm), show f 64 2 = mI S 64 2 from (zG_z hI rfl).symm, show f 64 3 = mI S 64 3 from (zG_z hI rfl).symm]; exact Or.inr ⟨rfl, fun z => absurd z.2.1 (by assumption)⟩) | (rw [show f 65 = mI S 65 from funext (fun k => (zG_z hI rfl).symm), show f 64 2 = mI S 64 2 from (zG_z hI rfl).symm, show f 64 3 = mI S 64 3 from (zG_z hI rfl).symm]; exact Or.inr ⟨rfl, fun z => absurd z.2.2.1 (by assumption)⟩) | (rw [show f 65 = mI S 65 from funext (fun k => (zG_z hI rfl).symm), show f 64 2 = mI S 64 2 from (zG_z hI rfl).symm, show f 64 3 = mI S 64 3 from (zG_z hI rfl).symm]; exact Or.inr ⟨rfl, fun z => absurd z.2.2.2.1 (by assumption)⟩) | (rw [show f 65 = mI S 65 from funext (fun k => (zG_z hI rfl).symm), show f 64 2 = mI S 64 2 from (zG_z hI rfl).symm, show f 64 3 = mI S 64 3 from (zG_z hI rfl).symm]; exact Or.inr ⟨rfl, fun z => absurd z.2.2.2.2.1 (by assumption)⟩) | (rw [show f 65 = mI S 65 from funext (fun k => (zG_z hI rfl).symm), show f 64 2 = mI S 64 2 from (zG_z hI rfl).symm, show f 64 3 = mI S 64 3 from (zG_z hI rfl).symm]; exact Or.inr ⟨rfl, fun z => absurd (z.2.2.2.2.2.1.elim (fun y => absurd y (by decide)) id) (by assumption)⟩) | (rw [show f 65 = mI S 65 from funext (fun k => (zG_z hI rfl).symm), show f 64 2 = mI S 64 2 from (zG_z hI rfl).symm, show f 64 3 = mI S 64 3 from (zG_z hI rfl).symm]; exact Or.inr ⟨rfl, fun z => by have y := z.1; rw [if_neg (by decide), if_pos rfl] at y; omega⟩) | (omega) | (exfalso; omega)) (show zFm I0 L0 R0 S from by first | (exact hpre0))

/-! from 95.i17 -/
/-! the class opens a heap (written by wip/tools/gen18c.py) -/
theorem g_131_64_6_sq_0 {X : Nat × (Nat → Int32)} {d w : Nat} {S : ma_S} {Q : Option ma_V ⊕ Nat → ma_S → Prop}  (hd : 5 ≤ d) (hw : 100 ≤ w) (hS : zT S) (h : if ((mI S 64 3) - (mI S 64 2)) = (7 : Int32) then (if (100 : Int32) ≤ ((mI S 64 2) + (0 : Int32)) then (Q (.inl (some (.inl (1 : Int32)))) S) else ((0 ≤ ((mI S 64 2) + (0 : Int32)) ∧ ((mI S 64 2) + (0 : Int32)).toNatClampNeg < 100) ∧ (if (mI S 65 ((mI S 64 2) + (0 : Int32)).toNatClampNeg) = (114 : Int32) then (if (100 : Int32) ≤ ((mI S 64 2) + (1 : Int32)) then (Q (.inl (some (.inl (1 : Int32)))) S) else ((0 ≤ ((mI S 64 2) + (1 : Int32)) ∧ ((mI S 64 2) + (1 : Int32)).toNatClampNeg < 100) ∧ (if (mI S 65 ((mI S 64 2) + (1 : Int32)).toNatClampNeg) = (101 : Int32) then (if (100 : Int32) ≤ ((mI S 64 2) + (2 : Int32)) then (Q (.inl (some (.inl (1 : Int32)))) S) else ((0 ≤ ((mI S 64 2) + (2 : Int32)) ∧ ((mI S 64 2) + (2 : Int32)).toNatClampNeg < 100) ∧ (if (mI S 65 ((mI S 64 2) + (2 : Int32)).toNatClampNeg) = (103 : Int32) then (if (100 : Int32) ≤ ((mI S 64 2) + (3 : Int32)) then (Q (.inl (some (.inl (1 : Int32)))) S) else ((0 ≤ ((mI S 64 2) + (3 : Int32)) ∧ ((mI S 64 2) + (3 : Int32)).toNatClampNeg < 100) ∧ (if (mI S 65 ((mI S 64 2) + (3 : Int32)).toNatClampNeg) = (105 : Int32) then (if (100 : Int32) ≤ ((mI S 64 2) + (4 : Int32)) then (Q (.inl (some (.inl (1 : Int32)))) S) else ((0 ≤ ((mI S 64 2) + (4 : Int32)) ∧ ((mI S 64 2) + (4 : Int32)).toNatClampNeg < 100) ∧ (if (mI S 65 ((mI S 64 2) + (4 : Int32)).toNatClampNeg) = (111 : Int32) then (if (100 : Int32) ≤ ((mI S 64 2) + (5 : Int32)) then (Q (.inl (some (.inl (1 : Int32)))) S) else ((0 ≤ ((mI S 64 2) + (5 : Int32)) ∧ ((mI S 64 2) + (5 : Int32)).toNatClampNeg < 100) ∧ (if (mI S 65 ((mI S 64 2) + (5 : Int32)).toNatClampNeg) = (110 : Int32) then (if (100 : Int32) ≤ ((mI S 64 2) + (6 : Int32)) then (Q (.inl (some (.inl (1 : Int32)))) S) else ((0 ≤ ((mI S 64 2) + (6 : Int32)) ∧ ((mI S 64 2) + (6 : Int32)).toNatClampNeg < 100) ∧ (if (mI S 65 ((mI S 64 2) + (6 : Int32)).toNatClampNeg) = (115 : Int32) then (Q (.inl (some (.inl (1 : Int32)))) S) else (Q (.inl (some (.inl (0 : Int32)))) S)))) else (Q (.inl (some (.inl (0 : Int32)))) S)))) else (Q (.inl (some (.inl (0 : Int32)))) S)))) else (Q (.inl (some (.inl (0 : Int32)))) S)))) else (Q (.inl (some (.inl (0 : Int32)))) S)))) else (Q (.inl (some (.inl (0 : Int32)))) S)))) else (Q (.inl (some (.inl (0 : Int32)))) S)))) else (Q (.inl (some (.inl (0 : Int32)))) S)) : ma_wp X d w 131 0 [(0, .inr (.inr (some 64))), (1, .inr (.inr (some 6)))] [] S Q := by
  refine zw_push hm_131 dX11_tokenIs_0 (v := .inr (.inr (some 64))) rfl ?_
  refine zw_gf hm_131 dX11_tokenIs_1 (v := .inl (mI S 64 3)) (zT_is hS s_64) (zT_t hS s_64) rfl f_11_275_11 rfl ?_
  refine zw_push hm_131 dX11_tokenIs_4 (v := .inr (.inr (some 64))) rfl ?_
  refine zw_gf hm_131 dX11_tokenIs_5 (v := .inl (mI S 64 2)) (zT_is hS s_64) (zT_t hS s_64) rfl f_11_92_11 rfl ?_
  refine zw_stk hm_131 dX11_tokenIs_8 (st₉ := [.inl ((mI S 64 3) - (mI S 64 2))]) rfl rfl ?_
  refine zw_push hm_131 dX11_tokenIs_9 (v := .inr (.inr (some 6))) rfl ?_
  refine zw_cv hm_131 dX11_tokenIs_10 v_11_288_17 hm_277 [] [.inl ((mI S 64 3) - (mI S 64 2))] rfl rfl ⟨by omega, by omega⟩ rfl (tx_len (v := (7 : Int32)) (by decide) (by omega) (by omega) rfl rfl ?_)
  show ma_wp X d w 131 13 [(0, .inr (.inr (some 64))), (1, .inr (.inr (some 6)))] [.inl (7 : Int32), .inl ((mI S 64 3) - (mI S 64 2))] S _
  refine zw_if2 hm_131 dX11_tokenIs_13 (t := 18) rfl zc2_eq ?_ ?_
  · intro hc
    rw [if_pos hc] at h
    refine zw_push hm_131 dX11_tokenIs_18 (v := .inl (0 : Int32)) rfl ?_
    refine zw_sto hm_131 dX11_tokenIs_19 [(2, .inl (0 : Int32)), (0, .inr (.inr (some 64))), (1, .inr (.inr (some 6)))] rfl rfl rfl ?_
    refine zw_push hm_131 dX11_tokenIs_20 (v := .inl (0 : Int32)) rfl ?_
    refine zw_push hm_131 dX11_tokenIs_21 (v := .inr (.inr (some 6))) rfl ?_
    refine zw_cv hm_131 dX11_tokenIs_22 v_11_288_17 hm_277 [] [.inl (0 : Int32)] rfl rfl ⟨by omega, by omega⟩ rfl (tx_len (v := (7 : Int32)) (by decide) (by omega) (by omega) rfl rfl ?_)
    show ma_wp X d w 131 25 [(2, .inl (0 : Int32)), (0, .inr (.inr (some 64))), (1, .inr (.inr (some 6)))] [.inl (7 : Int32), .inl (0 : Int32)] S _
    refine zw_if2 hm_131 dX11_tokenIs_25 (t := 66) rfl zc2_ge (fun hc => absurd hc (by decide)) (fun _ => ?_)
    refine zw_push hm_131 dX11_tokenIs_28 (v := .inr (.inr (some 64))) rfl ?_
    refine zw_gf hm_131 dX11_tokenIs_29 (v := .inl (mI S 64 2)) (zT_is hS s_64) (zT_t hS s_64) rfl f_11_92_11 rfl ?_
    refine zw_push hm_131 dX11_tokenIs_32 (v := .inl (0 : Int32)) rfl ?_
    refine zw_stk hm_131 dX11_tokenIs_33 (st₉ := [.inl ((mI S 64 2) + (0 : Int32))]) rfl rfl ?_
    refine zw_push hm_131 dX11_tokenIs_34 (v := .inl (100 : Int32)) rfl ?_
    refine zw_if2 hm_131 dX11_tokenIs_36 (t := 66) rfl zc2_ge ?_ ?_
    · intro hc
      rw [if_pos hc] at h
      refine zw_push hm_131 dX11_tokenIs_66 (v := .inl (1 : Int32)) rfl ?_
      exact zw_bret hm_131 dX11_tokenIs_67 (by decide) h
    · intro hc
      rw [if_neg hc] at h
      refine zw_push hm_131 dX11_tokenIs_39 (v := .inr (.inr (some 64))) rfl ?_
      refine zw_gf hm_131 dX11_tokenIs_40 (v := .inr (.inr (some 65))) (zT_is hS s_64) (zT_t hS s_64) rfl f_11_9_11 (zT_f hS r_64_0) ?_
      refine zw_push hm_131 dX11_tokenIs_43 (v := .inr (.inr (some 64))) rfl ?_
      refine zw_gf hm_131 dX11_tokenIs_44 (v := .inl (mI S 64 2)) (zT_is hS s_64) (zT_t hS s_64) rfl f_11_92_11 rfl ?_
      refine zw_push hm_131 dX11_tokenIs_47 (v := .inl (0 : Int32)) rfl ?_
      refine zw_stk hm_131 dX11_tokenIs_48 (st₉ := [.inl ((mI S 64 2) + (0 : Int32)), .inr (.inr (some 65))]) rfl rfl ?_
      obtain ⟨hg, h⟩ := h
      refine zw_ba hm_131 dX11_tokenIs_49 (zT_is hS s_65) (zT_h hS s_65) rfl rfl hg ?_
      show ma_wp X d w 131 50 [(2, .inl (0 : Int32)), (0, .inr (.inr (some 64))), (1, .inr (.inr (some 6)))] [.inl (mI S 65 ((mI S 64 2) + (0 : Int32)).toNatClampNeg)] S _
      refine zw_push hm_131 dX11_tokenIs_50 (v := .inr (.inr (some 6))) rfl ?_
      refine zw_push hm_131 dX11_tokenIs_51 (v := .inl (0 : Int32)) rfl ?_
      refine zw_cv hm_131 dX11_tokenIs_52 v_11_293_17 hm_279 [.inl (0 : Int32)] [.inl (mI S 65 ((mI S 64 2) + (0 : Int32)).toNatClampNeg)] rfl rfl ⟨by omega, by omega⟩ rfl (tx_char (v := (114 : Int32)) (by decide) (by omega) (by omega) (by decide) (by decide) (by decide) (by decide) ?_)
      show ma_wp X d w 131 55 [(2, .inl (0 : Int32)), (0, .inr (.inr (some 64))), (1, .inr (.inr (some 6)))] [.inl (114 : Int32), .inl (mI S 65 ((mI S 64 2) + (0 : Int32)).toNatClampNeg)] S _
      refine zw_if2 hm_131 dX11_tokenIs_55 (t := 60) rfl zc2_eq ?_ ?_
      · intro hc
        rw [if_pos hc] at h
        refine zw_sto hm_131 dX11_tokenIs_60 [(2, .inl (1 : Int32)), (0, .inr (.inr (some 64))), (1, .inr (.inr (some 6)))] rfl rfl rfl ?_
        refine zw_goto hm_131 dX11_tokenIs_63 (t := 20) rfl ?_
        refine zw_push hm_131 dX11_tokenIs_20 (v := .inl (1 : Int32)) rfl ?_
        refine zw_push hm_131 dX11_tokenIs_21 (v := .inr (.inr (some 6))) rfl ?_
        refine zw_cv hm_131 dX11_tokenIs_22 v_11_288_17 hm_277 [] [.inl (1 : Int32)] rfl rfl ⟨by omega, by omega⟩ rfl (tx_len (v := (7 : Int32)) (by decide) (by omega) (by omega) rfl rfl ?_)
        show ma_wp X d w 131 25 [(2, .inl (1 : Int32)), (0, .inr (.inr (some 64))), (1, .inr (.inr (some 6)))] [.inl (7 : Int32), .inl (1 : Int32)] S _
        refine zw_if2 hm_131 dX11_tokenIs_25 (t := 66) rfl zc2_ge (fun hc => absurd hc (by decide)) (fun _ => ?_)
        refine zw_push hm_131 dX11_tokenIs_28 (v := .inr (.inr (some 64))) rfl ?_
        refine zw_gf hm_131 dX11_tokenIs_29 (v := .inl (mI S 64 2)) (zT_is hS s_64) (zT_t hS s_64) rfl f_11_92_11 rfl ?_
        refine zw_push hm_131 dX11_tokenIs_32 (v := .inl (1 : Int32)) rfl ?_
        refine zw_stk hm_131 dX11_tokenIs_33 (st₉ := [.inl ((mI S 64 2) + (1 : Int32))]) rfl rfl ?_
        refine zw_push hm_131 dX11_tokenIs_34 (v := .inl (100 : Int32)) rfl ?_
        refine zw_if2 hm_131 dX11_tokenIs_36 (t := 66) rfl zc2_ge ?_ ?_
        · intro hc
          rw [if_pos hc] at h
          refine zw_push hm_131 dX11_tokenIs_66 (v := .inl (1 : Int32)) rfl ?_
          exact zw_bret hm_131 dX11_tokenIs_67 (by decide) h
        · intro hc
          rw [if_neg hc] at h
          refine zw_push hm_131 dX11_tokenIs_39 (v := .inr (.inr (some 64))) rfl ?_
          refine zw_gf hm_131 dX11_tokenIs_40 (v := .inr (.inr (some 65))) (zT_is hS s_64) (zT_t hS s_64) rfl f_11_9_11 (zT_f hS r_64_0) ?_
          refine zw_push hm_131 dX11_tokenIs_43 (v := .inr (.inr (some 64))) rfl ?_
          refine zw_gf hm_131 dX11_tokenIs_44 (v := .inl (mI S 64 2)) (zT_is hS s_64) (zT_t hS s_64) rfl f_11_92_11 rfl ?_
          refine zw_push hm_131 dX11_tokenIs_47 (v := .inl (1 : Int32)) rfl ?_
          refine zw_stk hm_131 dX11_tokenIs_48 (st₉ := [.inl ((mI S 64 2) + (1 : Int32)), .inr (.inr (some 65))]) rfl rfl ?_
          obtain ⟨hg, h⟩ := h
          refine zw_ba hm_131 dX11_tokenIs_49 (zT_is hS s_65) (zT_h hS s_65) rfl rfl hg ?_
          show ma_wp X d w 131 50 [(2, .inl (1 : Int32)), (0, .inr (.inr (some 64))), (1, .inr (.inr (some 6)))] [.inl (mI S 65 ((mI S 64 2) + (1 : Int32)).toNatClampNeg)] S _
          refine zw_push hm_131 dX11_tokenIs_50 (v := .inr (.inr (some 6))) rfl ?_
          refine zw_push hm_131 dX11_tokenIs_51 (v := .inl (1 : Int32)) rfl ?_
          refine zw_cv hm_131 dX11_tokenIs_52 v_11_293_17 hm_279 [.inl (1 : Int32)] [.inl (mI S 65 ((mI S 64 2) + (1 : Int32)).toNatClampNeg)] rfl rfl ⟨by omega, by omega⟩ rfl (tx_char (v := (101 : Int32)) (by decide) (by omega) (by omega) (by decide) (by decide) (by decide) (by decide) ?_)
          show ma_wp X d w 131 55 [(2, .inl (1 : Int32)), (0, .inr (.inr (some 64))), (1, .inr (.inr (some 6)))] [.inl (101 : Int32), .inl (mI S 65 ((mI S 64 2) + (1 : Int32)).toNatClampNeg)] S _
          refine zw_if2 hm_131 dX11_tokenIs_55 (t := 60) rfl zc2_eq ?_ ?_
          · intro hc
            rw [if_pos hc] at h
            refine zw_sto hm_131 dX11_tokenIs_60 [(2, .inl (2 : Int32)), (0, .inr (.inr (some 64))), (1, .inr (.inr (some 6)))] rfl rfl rfl ?_
            refine zw_goto hm_131 dX11_tokenIs_63 (t := 20) rfl ?_
            refine zw_push hm_131 dX11_tokenIs_20 (v := .inl (2 : Int32)) rfl ?_
            refine zw_push hm_131 dX11_tokenIs_21 (v := .inr (.inr (some 6))) rfl ?_
            refine zw_cv hm_131 dX11_tokenIs_22 v_11_288_17 hm_277 [] [.inl (2 : Int32)] rfl rfl ⟨by omega, by omega⟩ rfl (tx_len (v := (7 : Int32)) (by decide) (by omega) (by omega) rfl rfl ?_)
            show ma_wp X d w 131 25 [(2, .inl (2 : Int32)), (0, .inr (.inr (some 64))), (1, .inr (.inr (some 6)))] [.inl (7 : Int32), .inl (2 : Int32)] S _
            refine zw_if2 hm_131 dX11_tokenIs_25 (t := 66) rfl zc2_ge (fun hc => absurd hc (by decide)) (fun _ => ?_)
            refine zw_push hm_131 dX11_tokenIs_28 (v := .inr (.inr (some 64))) rfl ?_
            refine zw_gf hm_131 dX11_tokenIs_29 (v := .inl (mI S 64 2)) (zT_is hS s_64) (zT_t hS s_64) rfl f_11_92_11 rfl ?_
            refine zw_push hm_131 dX11_tokenIs_32 (v := .inl (2 : Int32)) rfl ?_
            refine zw_stk hm_131 dX11_tokenIs_33 (st₉ := [.inl ((mI S 64 2) + (2 : Int32))]) rfl rfl ?_
            refine zw_push hm_131 dX11_tokenIs_34 (v := .inl (100 : Int32)) rfl ?_
            refine zw_if2 hm_131 dX11_tokenIs_36 (t := 66) rfl zc2_ge ?_ ?_
            · intro hc
              rw [if_pos hc] at h
              refine zw_push hm_131 dX11_tokenIs_66 (v := .inl (1 : Int32)) rfl ?_
              exact zw_bret hm_131 dX11_tokenIs_67 (by decide) h
            · intro hc
              rw [if_neg hc] at h
              refine zw_push hm_131 dX11_tokenIs_39 (v := .inr (.inr (some 64))) rfl ?_
              refine zw_gf hm_131 dX11_tokenIs_40 (v := .inr (.inr (some 65))) (zT_is hS s_64) (zT_t hS s_64) rfl f_11_9_11 (zT_f hS r_64_0) ?_
              refine zw_push hm_131 dX11_tokenIs_43 (v := .inr (.inr (some 64))) rfl ?_
              refine zw_gf hm_131 dX11_tokenIs_44 (v := .inl (mI S 64 2)) (zT_is hS s_64) (zT_t hS s_64) rfl f_11_92_11 rfl ?_
              refine zw_push hm_131 dX11_tokenIs_47 (v := .inl (2 : Int32)) rfl ?_
              refine zw_stk hm_131 dX11_tokenIs_48 (st₉ := [.inl ((mI S 64 2) + (2 : Int32)), .inr (.inr (some 65))]) rfl rfl ?_
              obtain ⟨hg, h⟩ := h
              refine zw_ba hm_131 dX11_tokenIs_49 (zT_is hS s_65) (zT_h hS s_65) rfl rfl hg ?_
              show ma_wp X d w 131 50 [(2, .inl (2 : Int32)), (0, .inr (.inr (some 64))), (1, .inr (.inr (some 6)))] [.inl (mI S 65 ((mI S 64 2) + (2 : Int32)).toNatClampNeg)] S _
              refine zw_push hm_131 dX11_tokenIs_50 (v := .inr (.inr (some 6))) rfl ?_
              refine zw_push hm_131 dX11_tokenIs_51 (v := .inl (2 : Int32)) rfl ?_
              refine zw_cv hm_131 dX11_tokenIs_52 v_11_293_17 hm_279 [.inl (2 : Int32)] [.inl (mI S 65 ((mI S 64 2) + (2 : Int32)).toNatClampNeg)] rfl rfl ⟨by omega, by omega⟩ rfl (tx_char (v := (103 : Int32)) (by decide) (by omega) (by omega) (by decide) (by decide) (by decide) (by decide) ?_)
              show ma_wp X d w 131 55 [(2, .inl (2 : Int32)), (0, .inr (.inr (some 64))), (1, .inr (.inr (some 6)))] [.inl (103 : Int32), .inl (mI S 65 ((mI S 64 2) + (2 : Int32)).toNatClampNeg)] S _
              refine zw_if2 hm_131 dX11_tokenIs_55 (t := 60) rfl zc2_eq ?_ ?_
              · intro hc
                rw [if_pos hc] at h
                refine zw_sto hm_131 dX11_tokenIs_60 [(2, .inl (3 : Int32)), (0, .inr (.inr (some 64))), (1, .inr (.inr (some 6)))] rfl rfl rfl ?_
                refine zw_goto hm_131 dX11_tokenIs_63 (t := 20) rfl ?_
                refine zw_push hm_131 dX11_tokenIs_20 (v := .inl (3 : Int32)) rfl ?_
                refine zw_push hm_131 dX11_tokenIs_21 (v := .inr (.inr (some 6))) rfl ?_
                refine zw_cv hm_131 dX11_tokenIs_22 v_11_288_17 hm_277 [] [.inl (3 : Int32)] rfl rfl ⟨by omega, by omega⟩ rfl (tx_len (v := (7 : Int32)) (by decide) (by omega) (by omega) rfl rfl ?_)
                show ma_wp X d w 131 25 [(2, .inl (3 : Int32)), (0, .inr (.inr (some 64))), (1, .inr (.inr (some 6)))] [.inl (7 : Int32), .inl (3 : Int32)] S _
                refine zw_if2 hm_131 dX11_tokenIs_25 (t := 66) rfl zc2_ge (fun hc => absurd hc (by decide)) (fun _ => ?_)
                refine zw_push hm_131 dX11_tokenIs_28 (v := .inr (.inr (some 64))) rfl ?_
                refine zw_gf hm_131 dX11_tokenIs_29 (v := .inl (mI S 64 2)) (zT_is hS s_64) (zT_t hS s_64) rfl f_11_92_11 rfl ?_
                refine zw_push hm_131 dX11_tokenIs_32 (v := .inl (3 : Int32)) rfl ?_
                refine zw_stk hm_131 dX11_tokenIs_33 (st₉ := [.inl ((mI S 64 2) + (3 : Int32))]) rfl rfl ?_
                refine zw_push hm_131 dX11_tokenIs_34 (v := .inl (100 : Int32)) rfl ?_
                refine zw_if2 hm_131 dX11_tokenIs_36 (t := 66) rfl zc2_ge ?_ ?_
                · intro hc
                  rw [if_pos hc] at h
                  refine zw_push hm_131 dX11_tokenIs_66 (v := .inl (1 : Int32)) rfl ?_
                  exact zw_bret hm_131 dX11_tokenIs_67 (by decide) h
                · intro hc
                  rw [if_neg hc] at h
                  refine zw_push hm_131 dX11_tokenIs_39 (v := .inr (.inr (some 64))) rfl ?_
                  refine zw_gf hm_131 dX11_tokenIs_40 (v := .inr (.inr (some 65))) (zT_is hS s_64) (zT_t hS s_64) rfl f_11_9_11 (zT_f hS r_64_0) ?_
                  refine zw_push hm_131 dX11_tokenIs_43 (v := .inr (.inr (some 64))) rfl ?_
                  refine zw_gf hm_131 dX11_tokenIs_44 (v := .inl (mI S 64 2)) (zT_is hS s_64) (zT_t hS s_64) rfl f_11_92_11 rfl ?_
                  refine zw_push hm_131 dX11_tokenIs_47 (v := .inl (3 : Int32)) rfl ?_
                  refine zw_stk hm_131 dX11_tokenIs_48 (st₉ := [.inl ((mI S 64 2) + (3 : Int32)), .inr (.inr (some 65))]) rfl rfl ?_
                  obtain ⟨hg, h⟩ := h
                  refine zw_ba hm_131 dX11_tokenIs_49 (zT_is hS s_65) (zT_h hS s_65) rfl rfl hg ?_
                  show ma_wp X d w 131 50 [(2, .inl (3 : Int32)), (0, .inr (.inr (some 64))), (1, .inr (.inr (some 6)))] [.inl (mI S 65 ((mI S 64 2) + (3 : Int32)).toNatClampNeg)] S _
                  refine zw_push hm_131 dX11_tokenIs_50 (v := .inr (.inr (some 6))) rfl ?_
                  refine zw_push hm_131 dX11_tokenIs_51 (v := .inl (3 : Int32)) rfl ?_
                  refine zw_cv hm_131 dX11_tokenIs_52 v_11_293_17 hm_279 [.inl (3 : Int32)] [.inl (mI S 65 ((mI S 64 2) + (3 : Int32)).toNatClampNeg)] rfl rfl ⟨by omega, by omega⟩ rfl (tx_char (v := (105 : Int32)) (by decide) (by omega) (by omega) (by decide) (by decide) (by decide) (by decide) ?_)
                  show ma_wp X d w 131 55 [(2, .inl (3 : Int32)), (0, .inr (.inr (some 64))), (1, .inr (.inr (some 6)))] [.inl (105 : Int32), .inl (mI S 65 ((mI S 64 2) + (3 : Int32)).toNatClampNeg)] S _
                  refine zw_if2 hm_131 dX11_tokenIs_55 (t := 60) rfl zc2_eq ?_ ?_
                  · intro hc
                    rw [if_pos hc] at h
                    refine zw_sto hm_131 dX11_tokenIs_60 [(2, .inl (4 : Int32)), (0, .inr (.inr (some 64))), (1, .inr (.inr (some 6)))] rfl rfl rfl ?_
                    refine zw_goto hm_131 dX11_tokenIs_63 (t := 20) rfl ?_
                    refine zw_push hm_131 dX11_tokenIs_20 (v := .inl (4 : Int32)) rfl ?_
                    refine zw_push hm_131 dX11_tokenIs_21 (v := .inr (.inr (some 6))) rfl ?_
                    refine zw_cv hm_131 dX11_tokenIs_22 v_11_288_17 hm_277 [] [.inl (4 : Int32)] rfl rfl ⟨by omega, by omega⟩ rfl (tx_len (v := (7 : Int32)) (by decide) (by omega) (by omega) rfl rfl ?_)
                    show ma_wp X d w 131 25 [(2, .inl (4 : Int32)), (0, .inr (.inr (some 64))), (1, .inr (.inr (some 6)))] [.inl (7 : Int32), .inl (4 : Int32)] S _
                    refine zw_if2 hm_131 dX11_tokenIs_25 (t := 66) rfl zc2_ge (fun hc => absurd hc (by decide)) (fun _ => ?_)
                    refine zw_push hm_131 dX11_tokenIs_28 (v := .inr (.inr (some 64))) rfl ?_
                    refine zw_gf hm_131 dX11_tokenIs_29 (v := .inl (mI S 64 2)) (zT_is hS s_64) (zT_t hS s_64) rfl f_11_92_11 rfl ?_
                    refine zw_push hm_131 dX11_tokenIs_32 (v := .inl (4 : Int32)) rfl ?_
                    refine zw_stk hm_131 dX11_tokenIs_33 (st₉ := [.inl ((mI S 64 2) + (4 : Int32))]) rfl rfl ?_
                    refine zw_push hm_131 dX11_tokenIs_34 (v := .inl (100 : Int32)) rfl ?_
                    refine zw_if2 hm_131 dX11_tokenIs_36 (t := 66) rfl zc2_ge ?_ ?_
                    · intro hc
                      rw [if_pos hc] at h
                      refine zw_push hm_131 dX11_tokenIs_66 (v := .inl (1 : Int32)) rfl ?_
                      exact zw_bret hm_131 dX11_tokenIs_67 (by decide) h
                    · intro hc
                      rw [if_neg hc] at h
                      refine zw_push hm_131 dX11_tokenIs_39 (v := .inr (.inr (some 64))) rfl ?_
                      refine zw_gf hm_131 dX11_tokenIs_40 (v := .inr (.inr (some 65))) (zT_is hS s_64) (zT_t hS s_64) rfl f_11_9_11 (zT_f hS r_64_0) ?_
                      refine zw_push hm_131 dX11_tokenIs_43 (v := .inr (.inr (some 64))) rfl ?_
                      refine zw_gf hm_131 dX11_tokenIs_44 (v := .inl (mI S 64 2)) (zT_is hS s_64) (zT_t hS s_64) rfl f_11_92_11 rfl ?_
                      refine zw_push hm_131 dX11_tokenIs_47 (v := .inl (4 : Int32)) rfl ?_
                      refine zw_stk hm_131 dX11_tokenIs_48 (st₉ := [.inl ((mI S 64 2) + (4 : Int32)), .inr (.inr (some 65))]) rfl rfl ?_
                      obtain ⟨hg, h⟩ := h
                      refine zw_ba hm_131 dX11_tokenIs_49 (zT_is hS s_65) (zT_h hS s_65) rfl rfl hg ?_
                      show ma_wp X d w 131 50 [(2, .inl (4 : Int32)), (0, .inr (.inr (some 64))), (1, .inr (.inr (some 6)))] [.inl (mI S 65 ((mI S 64 2) + (4 : Int32)).toNatClampNeg)] S _
                      refine zw_push hm_131 dX11_tokenIs_50 (v := .inr (.inr (some 6))) rfl ?_
                      refine zw_push hm_131 dX11_tokenIs_51 (v := .inl (4 : Int32)) rfl ?_
                      refine zw_cv hm_131 dX11_tokenIs_52 v_11_293_17 hm_279 [.inl (4 : Int32)] [.inl (mI S 65 ((mI S 64 2) + (4 : Int32)).toNatClampNeg)] rfl rfl ⟨by omega, by omega⟩ rfl (tx_char (v := (111 : Int32)) (by decide) (by omega) (by omega) (by decide) (by decide) (by decide) (by decide) ?_)
                      show ma_wp X d w 131 55 [(2, .inl (4 : Int32)), (0, .inr (.inr (some 64))), (1, .inr (.inr (some 6)))] [.inl (111 : Int32), .inl (mI S 65 ((mI S 64 2) + (4 : Int32)).toNatClampNeg)] S _
                      refine zw_if2 hm_131 dX11_tokenIs_55 (t := 60) rfl zc2_eq ?_ ?_
                      · intro hc
                        rw [if_pos hc] at h
                        refine zw_sto hm_131 dX11_tokenIs_60 [(2, .inl (5 : Int32)), (0, .inr (.inr (some 64))), (1, .inr (.inr (some 6)))] rfl rfl rfl ?_
                        refine zw_goto hm_131 dX11_tokenIs_63 (t := 20) rfl ?_
                        refine zw_push hm_131 dX11_tokenIs_20 (v := .inl (5 : Int32)) rfl ?_
                        refine zw_push hm_131 dX11_tokenIs_21 (v := .inr (.inr (some 6))) rfl ?_
                        refine zw_cv hm_131 dX11_tokenIs_22 v_11_288_17 hm_277 [] [.inl (5 : Int32)] rfl rfl ⟨by omega, by omega⟩ rfl (tx_len (v := (7 : Int32)) (by decide) (by omega) (by omega) rfl rfl ?_)
                        show ma_wp X d w 131 25 [(2, .inl (5 : Int32)), (0, .inr (.inr (some 64))), (1, .inr (.inr (some 6)))] [.inl (7 : Int32), .inl (5 : Int32)] S _
                        refine zw_if2 hm_131 dX11_tokenIs_25 (t := 66) rfl zc2_ge (fun hc => absurd hc (by decide)) (fun _ => ?_)
                        refine zw_push hm_131 dX11_tokenIs_28 (v := .inr (.inr (some 64))) rfl ?_
                        refine zw_gf hm_131 dX11_tokenIs_29 (v := .inl (mI S 64 2)) (zT_is hS s_64) (zT_t hS s_64) rfl f_11_92_11 rfl ?_
                        refine zw_push hm_131 dX11_tokenIs_32 (v := .inl (5 : Int32)) rfl ?_
                        refine zw_stk hm_131 dX11_tokenIs_33 (st₉ := [.inl ((mI S 64 2) + (5 : Int32))]) rfl rfl ?_
                        refine zw_push hm_131 dX11_tokenIs_34 (v := .inl (100 : Int32)) rfl ?_
                        refine zw_if2 hm_131 dX11_tokenIs_36 (t := 66) rfl zc2_ge ?_ ?_
                        · intro hc
                          rw [if_pos hc] at h
                          refine zw_push hm_131 dX11_tokenIs_66 (v := .inl (1 : Int32)) rfl ?_
                          exact zw_bret hm_131 dX11_tokenIs_67 (by decide) h
                        · intro hc
                          rw [if_neg hc] at h
                          refine zw_push hm_131 dX11_tokenIs_39 (v := .inr (.inr (some 64))) rfl ?_
                          refine zw_gf hm_131 dX11_tokenIs_40 (v := .inr (.inr (some 65))) (zT_is hS s_64) (zT_t hS s_64) rfl f_11_9_11 (zT_f hS r_64_0) ?_
                          refine zw_push hm_131 dX11_tokenIs_43 (v := .inr (.inr (some 64))) rfl ?_
                          refine zw_gf hm_131 dX11_tokenIs_44 (v := .inl (mI S 64 2)) (zT_is hS s_64) (zT_t hS s_64) rfl f_11_92_11 rfl ?_
                          refine zw_push hm_131 dX11_tokenIs_47 (v := .inl (5 : Int32)) rfl ?_
                          refine zw_stk hm_131 dX11_tokenIs_48 (st₉ := [.inl ((mI S 64 2) + (5 : Int32)), .inr (.inr (some 65))]) rfl rfl ?_
                          obtain ⟨hg, h⟩ := h
                          refine zw_ba hm_131 dX11_tokenIs_49 (zT_is hS s_65) (zT_h hS s_65) rfl rfl hg ?_
                          show ma_wp X d w 131 50 [(2, .inl (5 : Int32)), (0, .inr (.inr (some 64))), (1, .inr (.inr (some 6)))] [.inl (mI S 65 ((mI S 64 2) + (5 : Int32)).toNatClampNeg)] S _
                          refine zw_push hm_131 dX11_tokenIs_50 (v := .inr (.inr (some 6))) rfl ?_
                          refine zw_push hm_131 dX11_tokenIs_51 (v := .inl (5 : Int32)) rfl ?_
                          refine zw_cv hm_131 dX11_tokenIs_52 v_11_293_17 hm_279 [.inl (5 : Int32)] [.inl (mI S 65 ((mI S 64 2) + (5 : Int32)).toNatClampNeg)] rfl rfl ⟨by omega, by omega⟩ rfl (tx_char (v := (110 : Int32)) (by decide) (by omega) (by omega) (by decide) (by decide) (by decide) (by decide) ?_)
                          show ma_wp X d w 131 55 [(2, .inl (5 : Int32)), (0, .inr (.inr (some 64))), (1, .inr (.inr (some 6)))] [.inl (110 : Int32), .inl (mI S 65 ((mI S 64 2) + (5 : Int32)).toNatClampNeg)] S _
                          refine zw_if2 hm_131 dX11_tokenIs_55 (t := 60) rfl zc2_eq ?_ ?_
                          · intro hc
                            rw [if_pos hc] at h
                            refine zw_sto hm_131 dX11_tokenIs_60 [(2, .inl (6 : Int32)), (0, .inr (.inr (some 64))), (1, .inr (.inr (some 6)))] rfl rfl rfl ?_
                            refine zw_goto hm_131 dX11_tokenIs_63 (t := 20) rfl ?_
                            refine zw_push hm_131 dX11_tokenIs_20 (v := .inl (6 : Int32)) rfl ?_
                            refine zw_push hm_131 dX11_tokenIs_21 (v := .inr (.inr (some 6))) rfl ?_
                            refine zw_cv hm_131 dX11_tokenIs_22 v_11_288_17 hm_277 [] [.inl (6 : Int32)] rfl rfl ⟨by omega, by omega⟩ rfl (tx_len (v := (7 : Int32)) (by decide) (by omega) (by omega) rfl rfl ?_)
                            show ma_wp X d w 131 25 [(2, .inl (6 : Int32)), (0, .inr (.inr (some 64))), (1, .inr (.inr (some 6)))] [.inl (7 : Int32), .inl (6 : Int32)] S _
                            refine zw_if2 hm_131 dX11_tokenIs_25 (t := 66) rfl zc2_ge (fun hc => absurd hc (by decide)) (fun _ => ?_)
                            refine zw_push hm_131 dX11_tokenIs_28 (v := .inr (.inr (some 64))) rfl ?_
                            refine zw_gf hm_131 dX11_tokenIs_29 (v := .inl (mI S 64 2)) (zT_is hS s_64) (zT_t hS s_64) rfl f_11_92_11 rfl ?_
                            refine zw_push hm_131 dX11_tokenIs_32 (v := .inl (6 : Int32)) rfl ?_
                            refine zw_stk hm_131 dX11_tokenIs_33 (st₉ := [.inl ((mI S 64 2) + (6 : Int32))]) rfl rfl ?_
                            refine zw_push hm_131 dX11_tokenIs_34 (v := .inl (100 : Int32)) rfl ?_
                            refine zw_if2 hm_131 dX11_tokenIs_36 (t := 66) rfl zc2_ge ?_ ?_
                            · intro hc
                              rw [if_pos hc] at h
                              refine zw_push hm_131 dX11_tokenIs_66 (v := .inl (1 : Int32)) rfl ?_
                              exact zw_bret hm_131 dX11_tokenIs_67 (by decide) h
                            · intro hc
                              rw [if_neg hc] at h
                              refine zw_push hm_131 dX11_tokenIs_39 (v := .inr (.inr (some 64))) rfl ?_
                              refine zw_gf hm_131 dX11_tokenIs_40 (v := .inr (.inr (some 65))) (zT_is hS s_64) (zT_t hS s_64) rfl f_11_9_11 (zT_f hS r_64_0) ?_
                              refine zw_push hm_131 dX11_tokenIs_43 (v := .inr (.inr (some 64))) rfl ?_
                              refine zw_gf hm_131 dX11_tokenIs_44 (v := .inl (mI S 64 2)) (zT_is hS s_64) (zT_t hS s_64) rfl f_11_92_11 rfl ?_
                              refine zw_push hm_131 dX11_tokenIs_47 (v := .inl (6 : Int32)) rfl ?_
                              refine zw_stk hm_131 dX11_tokenIs_48 (st₉ := [.inl ((mI S 64 2) + (6 : Int32)), .inr (.inr (some 65))]) rfl rfl ?_
                              obtain ⟨hg, h⟩ := h
                              refine zw_ba hm_131 dX11_tokenIs_49 (zT_is hS s_65) (zT_h hS s_65) rfl rfl hg ?_
                              show ma_wp X d w 131 50 [(2, .inl (6 : Int32)), (0, .inr (.inr (some 64))), (1, .inr (.inr (some 6)))] [.inl (mI S 65 ((mI S 64 2) + (6 : Int32)).toNatClampNeg)] S _
                              refine zw_push hm_131 dX11_tokenIs_50 (v := .inr (.inr (some 6))) rfl ?_
                              refine zw_push hm_131 dX11_tokenIs_51 (v := .inl (6 : Int32)) rfl ?_
                              refine zw_cv hm_131 dX11_tokenIs_52 v_11_293_17 hm_279 [.inl (6 : Int32)] [.inl (mI S 65 ((mI S 64 2) + (6 : Int32)).toNatClampNeg)] rfl rfl ⟨by omega, by omega⟩ rfl (tx_char (v := (115 : Int32)) (by decide) (by omega) (by omega) (by decide) (by decide) (by decide) (by decide) ?_)
                              show ma_wp X d w 131 55 [(2, .inl (6 : Int32)), (0, .inr (.inr (some 64))), (1, .inr (.inr (some 6)))] [.inl (115 : Int32), .inl (mI S 65 ((mI S 64 2) + (6 : Int32)).toNatClampNeg)] S _
                              refine zw_if2 hm_131 dX11_tokenIs_55 (t := 60) rfl zc2_eq ?_ ?_
                              · intro hc
                                rw [if_pos hc] at h
                                refine zw_sto hm_131 dX11_tokenIs_60 [(2, .inl (7 : Int32)), (0, .inr (.inr (some 64))), (1, .inr (.inr (some 6)))] rfl rfl rfl ?_
                                refine zw_goto hm_131 dX11_tokenIs_63 (t := 20) rfl ?_
                                refine zw_push hm_131 dX11_tokenIs_20 (v := .inl (7 : Int32)) rfl ?_
                                refine zw_push hm_131 dX11_tokenIs_21 (v := .inr (.inr (some 6))) rfl ?_
                                refine zw_cv hm_131 dX11_tokenIs_22 v_11_288_17 hm_277 [] [.inl (7 : Int32)] rfl rfl ⟨by omega, by omega⟩ rfl (tx_len (v := (7 : Int32)) (by decide) (by omega) (by omega) rfl rfl ?_)
                                show ma_wp X d w 131 25 [(2, .inl (7 : Int32)), (0, .inr (.inr (some 64))), (1, .inr (.inr (some 6)))] [.inl (7 : Int32), .inl (7 : Int32)] S _
                                refine zw_if2 hm_131 dX11_tokenIs_25 (t := 66) rfl zc2_ge (fun _ => ?_) (fun hc => absurd (by decide) hc)
                                refine zw_push hm_131 dX11_tokenIs_66 (v := .inl (1 : Int32)) rfl ?_
                                exact zw_bret hm_131 dX11_tokenIs_67 (by decide) h
                              · intro hc
                                rw [if_neg hc] at h
                                refine zw_push hm_131 dX11_tokenIs_58 (v := .inl (0 : Int32)) rfl ?_
                                exact zw_bret hm_131 dX11_tokenIs_59 (by decide) h
                          · intro hc
                            rw [if_neg hc] at h
                            refine zw_push hm_131 dX11_tokenIs_58 (v := .inl (0 : Int32)) rfl ?_
                            exact zw_bret hm_131 dX11_tokenIs_59 (by decide) h
                      · intro hc
                        rw [if_neg hc] at h
                        refine zw_push hm_131 dX11_tokenIs_58 (v := .inl (0 : Int32)) rfl ?_
                        exact zw_bret hm_131 dX11_tokenIs_59 (by decide) h
                  · intro hc
                    rw [if_neg hc] at h
                    refine zw_push hm_131 dX11_tokenIs_58 (v := .inl (0 : Int32)) rfl ?_
                    exact zw_bret hm_131 dX11_tokenIs_59 (by decide) h
              · intro hc
                rw [if_neg hc] at h
                refine zw_push hm_131 dX11_tokenIs_58 (v := .inl (0 : Int32)) rfl ?_
                exact zw_bret hm_131 dX11_tokenIs_59 (by decide) h
          · intro hc
            rw [if_neg hc] at h
            refine zw_push hm_131 dX11_tokenIs_58 (v := .inl (0 : Int32)) rfl ?_
            exact zw_bret hm_131 dX11_tokenIs_59 (by decide) h
      · intro hc
        rw [if_neg hc] at h
        refine zw_push hm_131 dX11_tokenIs_58 (v := .inl (0 : Int32)) rfl ?_
        exact zw_bret hm_131 dX11_tokenIs_59 (by decide) h
  · intro hc
    rw [if_neg hc] at h
    refine zw_push hm_131 dX11_tokenIs_16 (v := .inl (0 : Int32)) rfl ?_
    exact zw_bret hm_131 dX11_tokenIs_17 (by decide) h
theorem sp_131_64_6_sq {X : Nat × (Nat → Int32)} {d w : Nat} {f : Nat → Nat → Int32} {r : Nat → Nat → Option Nat} {C Z N : Nat} {Q : Option ma_V ⊕ Nat → ma_S → Prop} {I0 : Nat→Nat→Int32} {L0 : Nat→Nat→Int64} {R0 : zRT} {S : ma_S}  (hd : 5 ≤ d) (hw : 100 ≤ w) (hI : zY0 f r C Z N S) (hpre0 : zFm I0 L0 R0 S) (K : ∀ v S₉, zY0 f r C Z N S₉ → (v = 0 ∨ v = 1) → ((v = 1 ∧ zwd (f 65) (f 64 2) ((f 64 3).toInt - (f 64 2).toInt) 114 101 103 105 111 110 115) ∨ (v = 0 ∧ ¬ zwd (f 65) (f 64 2) ((f 64 3).toInt - (f 64 2).toInt) 114 101 103 105 111 110 115)) → (zFm I0 L0 R0 S₉) → Q (.inl (some (.inl v))) S₉) : ma_wp X d w 131 0 [(0, .inr (.inr (some 64))), (1, .inr (.inr (some 6)))] [] S Q := by
  refine g_131_64_6_sq_0  (by omega) (by omega) (zG_T hI) ?_
  have q1 : (mI S 64 3).toInt = (f 64 3).toInt := zG_zi hI rfl
  have f2 := zG_s hI (0) (100) (c := 64) (k := 3) (by decide)
  have q3 : (mI S 64 2).toInt = (f 64 2).toInt := zG_zi hI rfl
  have f4 := zG_s hI (0) (100) (c := 64) (k := 2) (by decide)
  first | have e5 : ((mI S 64 3) - (mI S 64 2)).toInt = (mI S 64 3).toInt - (mI S 64 2).toInt := i_sub (by omega) (by omega) | have b6 := i_bd ((mI S 64 3) - (mI S 64 2))
  have li7 : (7 : Int32).toInt = 7 := rfl
  refine zd (fun h8 => ?_) (fun h8 => ?_)
  · skip
    have g9 := i_eq h8
    have li10 : (100 : Int32).toInt = 100 := rfl
    first | have e11 : ((mI S 64 2) + (0 : Int32)).toInt = (mI S 64 2).toInt + (0) := i_addk rfl (by omega) (by omega) | have b12 := i_bd ((mI S 64 2) + (0 : Int32))
    refine zd (fun h13 => ?_) (fun h13 => ?_)
    · skip
      have g14 := i_le h13
      have li15 : (1 : Int32).toInt = 1 := rfl
      exact K ((1 : Int32)) _ hI (by decide) (show ((1 : Int32) = 1 ∧ zwd (f 65) (f 64 2) ((f 64 3).toInt - (f 64 2).toInt) 114 101 103 105 111 110 115) ∨ ((1 : Int32) = 0 ∧ ¬ zwd (f 65) (f 64 2) ((f 64 3).toInt - (f 64 2).toInt) 114 101 103 105 111 110 115) from by first | (omega) | (rw [show f 65 = mI S 65 from funext (fun k => (zG_z hI rfl).symm), show f 64 2 = mI S 64 2 from (zG_z hI rfl).symm, show f 64 3 = mI S 64 3 from (zG_z hI rfl).symm]; exact Or.inl ⟨rfl, by rw [if_neg (by decide), if_neg (by decide), if_neg (by decide)]; omega, (by assumption), (by assumption), (by assumption), (by assumption), Or.inr (by assumption), Or.inr (Or.inr (by assumption)), Or.inr (Or.inr (Or.inr (by assumption)))⟩) | (exfalso; omega)) (show zFm I0 L0 R0 S from by first | (exact hpre0))
    · skip
      have g16 := i_nle h13
      refine ⟨i_ix (by omega) (by omega), ?_⟩
      have q17 : (mI S 65 ((mI S 64 2) + (0 : Int32)).toNatClampNeg).toInt = (f 65 ((mI S 64 2) + (0 : Int32)).toNatClampNeg).toInt := zG_zi hI rfl
      have b18 := i_bd (mI S 65 ((mI S 64 2) + (0 : Int32)).toNatClampNeg)
      have li19 : (114 : Int32).toInt = 114 := rfl
      refine zd (fun h20 => ?_) (fun h20 => ?_)
      · skip
        have g21 := i_eq h20
        first | have e22 : ((mI S 64 2) + (1 : Int32)).toInt = (mI S 64 2).toInt + (1) := i_addk rfl (by omega) (by omega) | have b23 := i_bd ((mI S 64 2) + (1 : Int32))
        refine zd (fun h24 => ?_) (fun h24 => ?_)
        · skip
          have g25 := i_le h24
          have li26 : (1 : Int32).toInt = 1 := rfl
          exact K ((1 : Int32)) _ hI (by decide) (show ((1 : Int32) = 1 ∧ zwd (f 65) (f 64 2) ((f 64 3).toInt - (f 64 2).toInt) 114 101 103 105 111 110 115) ∨ ((1 : Int32) = 0 ∧ ¬ zwd (f 65) (f 64 2) ((f 64 3).toInt - (f 64 2).toInt) 114 101 103 105 111 110 115) from by first | (omega) | (rw [show f 65 = mI S 65 from funext (fun k => (zG_z hI rfl).symm), show f 64 2 = mI S 64 2 from (zG_z hI rfl).symm, show f 64 3 = mI S 64 3 from (zG_z hI rfl).symm]; exact Or.inl ⟨rfl, by rw [if_neg (by decide), if_neg (by decide), if_neg (by decide)]; omega, (by assumption), (by assumption), (by assumption), (by assumption), Or.inr (by assumption), Or.inr (Or.inr (by assumption)), Or.inr (Or.inr (Or.inr (by assumption)))⟩) | (exfalso; omega)) (show zFm I0 L0 R0 S from by first | (exact hpre0))
        · skip
          have g27 := i_nle h24
          refine ⟨i_ix (by omega) (by omega), ?_⟩
          have q28 : (mI S 65 ((mI S 64 2) + (1 : Int32)).toNatClampNeg).toInt = (f 65 ((mI S 64 2) + (1 : Int32)).toNatClampNeg).toInt := zG_zi hI rfl
          have b29 := i_bd (mI S 65 ((mI S 64 2) + (1 : Int32)).toNatClampNeg)
          have li30 : (101 : Int32).toInt = 101 := rfl
          refine zd (fun h31 => ?_) (fun h31 => ?_)
          · skip
            have g32 := i_eq h31
            first | have e33 : ((mI S 64 2) + (2 : Int32)).toInt = (mI S 64 2).toInt + (2) := i_addk rfl (by omega) (by omega) | have b34 := i_bd ((mI S 64 2) + (2 : Int32))
            refine zd (fun h35 => ?_) (fun h35 => ?_)
            · skip
              have g36 := i_le h35
              have li37 : (1 : Int32).toInt = 1 := rfl
              exact K ((1 : Int32)) _ hI (by decide) (show ((1 : Int32) = 1 ∧ zwd (f 65) (f 64 2) ((f 64 3).toInt - (f 64 2).toInt) 114 101 103 105 111 110 115) ∨ ((1 : Int32) = 0 ∧ ¬ zwd (f 65) (f 64 2) ((f 64 3).toInt - (f 64 2).toInt) 114 101 103 105 111 110 115) from by first | (omega) | (rw [show f 65 = mI S 65 from funext (fun k => (zG_z hI rfl).symm), show f 64 2 = mI S 64 2 from (zG_z hI rfl).symm, show f 64 3 = mI S 64 3 from (zG_z hI rfl).symm]; exact Or.inl ⟨rfl, by rw [if_neg (by decide), if_neg (by decide), if_neg (by decide)]; omega, (by assumption), (by assumption), (by assumption), (by assumption), Or.inr (by assumption), Or.inr (Or.inr (by assumption)), Or.inr (Or.inr (Or.inr (by assumption)))⟩) | (exfalso; omega)) (show zFm I0 L0 R0 S from by first | (exact hpre0))
            · skip
              have g38 := i_nle h35
              refine ⟨i_ix (by omega) (by omega), ?_⟩
              have q39 : (mI S 65 ((mI S 64 2) + (2 : Int32)).toNatClampNeg).toInt = (f 65 ((mI S 64 2) + (2 : Int32)).toNatClampNeg).toInt := zG_zi hI rfl
              have b40 := i_bd (mI S 65 ((mI S 64 2) + (2 : Int32)).toNatClampNeg)
              have li41 : (103 : Int32).toInt = 103 := rfl
              refine zd (fun h42 => ?_) (fun h42 => ?_)
              · skip
                have g43 := i_eq h42
                first | have e44 : ((mI S 64 2) + (3 : Int32)).toInt = (mI S 64 2).toInt + (3) := i_addk rfl (by omega) (by omega) | have b45 := i_bd ((mI S 64 2) + (3 : Int32))
                refine zd (fun h46 => ?_) (fun h46 => ?_)
                · skip
                  have g47 := i_le h46
                  have li48 : (1 : Int32).toInt = 1 := rfl
                  exact K ((1 : Int32)) _ hI (by decide) (show ((1 : Int32) = 1 ∧ zwd (f 65) (f 64 2) ((f 64 3).toInt - (f 64 2).toInt) 114 101 103 105 111 110 115) ∨ ((1 : Int32) = 0 ∧ ¬ zwd (f 65) (f 64 2) ((f 64 3).toInt - (f 64 2).toInt) 114 101 103 105 111 110 115) from by first | (omega) | (rw [show f 65 = mI S 65 from funext (fun k => (zG_z hI rfl).symm), show f 64 2 = mI S 64 2 from (zG_z hI rfl).symm, show f 64 3 = mI S 64 3 from (zG_z hI rfl).symm]; exact Or.inl ⟨rfl, by rw [if_neg (by decide), if_neg (by decide), if_neg (by decide)]; omega, (by assumption), (by assumption), (by assumption), (by assumption), Or.inr (by assumption), Or.inr (Or.inr (by assumption)), Or.inr (Or.inr (Or.inr (by assumption)))⟩) | (exfalso; omega)) (show zFm I0 L0 R0 S from by first | (exact hpre0))
                · skip
                  have g49 := i_nle h46
                  refine ⟨i_ix (by omega) (by omega), ?_⟩
                  have q50 : (mI S 65 ((mI S 64 2) + (3 : Int32)).toNatClampNeg).toInt = (f 65 ((mI S 64 2) + (3 : Int32)).toNatClampNeg).toInt := zG_zi hI rfl
                  have b51 := i_bd (mI S 65 ((mI S 64 2) + (3 : Int32)).toNatClampNeg)
                  have li52 : (105 : Int32).toInt = 105 := rfl
                  refine zd (fun h53 => ?_) (fun h53 => ?_)
                  · skip
                    have g54 := i_eq h53
                    first | have e55 : ((mI S 64 2) + (4 : Int32)).toInt = (mI S 64 2).toInt + (4) := i_addk rfl (by omega) (by omega) | have b56 := i_bd ((mI S 64 2) + (4 : Int32))
                    refine zd (fun h57 => ?_) (fun h57 => ?_)
                    · skip
                      have g58 := i_le h57
                      have li59 : (1 : Int32).toInt = 1 := rfl
                      exact K ((1 : Int32)) _ hI (by decide) (show ((1 : Int32) = 1 ∧ zwd (f 65) (f 64 2) ((f 64 3).toInt - (f 64 2).toInt) 114 101 103 105 111 110 115) ∨ ((1 : Int32) = 0 ∧ ¬ zwd (f 65) (f 64 2) ((f 64 3).toInt - (f 64 2).toInt) 114 101 103 105 111 110 115) from by first | (omega) | (rw [show f 65 = mI S 65 from funext (fun k => (zG_z hI rfl).symm), show f 64 2 = mI S 64 2 from (zG_z hI rfl).symm, show f 64 3 = mI S 64 3 from (zG_z hI rfl).symm]; exact Or.inl ⟨rfl, by rw [if_neg (by decide), if_neg (by decide), if_neg (by decide)]; omega, (by assumption), (by assumption), (by assumption), (by assumption), Or.inr (by assumption), Or.inr (Or.inr (by assumption)), Or.inr (Or.inr (Or.inr (by assumption)))⟩) | (exfalso; omega)) (show zFm I0 L0 R0 S from by first | (exact hpre0))
                    · skip
                      have g60 := i_nle h57
                      refine ⟨i_ix (by omega) (by omega), ?_⟩
                      have q61 : (mI S 65 ((mI S 64 2) + (4 : Int32)).toNatClampNeg).toInt = (f 65 ((mI S 64 2) + (4 : Int32)).toNatClampNeg).toInt := zG_zi hI rfl
                      have b62 := i_bd (mI S 65 ((mI S 64 2) + (4 : Int32)).toNatClampNeg)
                      have li63 : (111 : Int32).toInt = 111 := rfl
                      refine zd (fun h64 => ?_) (fun h64 => ?_)
                      · skip
                        have g65 := i_eq h64
                        first | have e66 : ((mI S 64 2) + (5 : Int32)).toInt = (mI S 64 2).toInt + (5) := i_addk rfl (by omega) (by omega) | have b67 := i_bd ((mI S 64 2) + (5 : Int32))
                        refine zd (fun h68 => ?_) (fun h68 => ?_)
                        · skip
                          have g69 := i_le h68
                          have li70 : (1 : Int32).toInt = 1 := rfl
                          exact K ((1 : Int32)) _ hI (by decide) (show ((1 : Int32) = 1 ∧ zwd (f 65) (f 64 2) ((f 64 3).toInt - (f 64 2).toInt) 114 101 103 105 111 110 115) ∨ ((1 : Int32) = 0 ∧ ¬ zwd (f 65) (f 64 2) ((f 64 3).toInt - (f 64 2).toInt) 114 101 103 105 111 110 115) from by first | (omega) | (rw [show f 65 = mI S 65 from funext (fun k => (zG_z hI rfl).symm), show f 64 2 = mI S 64 2 from (zG_z hI rfl).symm, show f 64 3 = mI S 64 3 from (zG_z hI rfl).symm]; exact Or.inl ⟨rfl, by rw [if_neg (by decide), if_neg (by decide), if_neg (by decide)]; omega, (by assumption), (by assumption), (by assumption), (by assumption), Or.inr (by assumption), Or.inr (Or.inr (by assumption)), Or.inr (Or.inr (Or.inr (by assumption)))⟩) | (exfalso; omega)) (show zFm I0 L0 R0 S from by first | (exact hpre0))
                        · skip
                          have g71 := i_nle h68
                          refine ⟨i_ix (by omega) (by omega), ?_⟩
                          have q72 : (mI S 65 ((mI S 64 2) + (5 : Int32)).toNatClampNeg).toInt = (f 65 ((mI S 64 2) + (5 : Int32)).toNatClampNeg).toInt := zG_zi hI rfl
                          have b73 := i_bd (mI S 65 ((mI S 64 2) + (5 : Int32)).toNatClampNeg)
                          have li74 : (110 : Int32).toInt = 110 := rfl
                          refine zd (fun h75 => ?_) (fun h75 => ?_)
                          · skip
                            have g76 := i_eq h75
                            first | have e77 : ((mI S 64 2) + (6 : Int32)).toInt = (mI S 64 2).toInt + (6) := i_addk rfl (by omega) (by omega) | have b78 := i_bd ((mI S 64 2) + (6 : Int32))
                            refine zd (fun h79 => ?_) (fun h79 => ?_)
                            · skip
                              have g80 := i_le h79
                              have li81 : (1 : Int32).toInt = 1 := rfl
                              exact K ((1 : Int32)) _ hI (by decide) (show ((1 : Int32) = 1 ∧ zwd (f 65) (f 64 2) ((f 64 3).toInt - (f 64 2).toInt) 114 101 103 105 111 110 115) ∨ ((1 : Int32) = 0 ∧ ¬ zwd (f 65) (f 64 2) ((f 64 3).toInt - (f 64 2).toInt) 114 101 103 105 111 110 115) from by first | (omega) | (rw [show f 65 = mI S 65 from funext (fun k => (zG_z hI rfl).symm), show f 64 2 = mI S 64 2 from (zG_z hI rfl).symm, show f 64 3 = mI S 64 3 from (zG_z hI rfl).symm]; exact Or.inl ⟨rfl, by rw [if_neg (by decide), if_neg (by decide), if_neg (by decide)]; omega, (by assumption), (by assumption), (by assumption), (by assumption), Or.inr (by assumption), Or.inr (Or.inr (by assumption)), Or.inr (Or.inr (Or.inr (by assumption)))⟩) | (exfalso; omega)) (show zFm I0 L0 R0 S from by first | (exact hpre0))
                            · skip
                              have g82 := i_nle h79
                              refine ⟨i_ix (by omega) (by omega), ?_⟩
                              have q83 : (mI S 65 ((mI S 64 2) + (6 : Int32)).toNatClampNeg).toInt = (f 65 ((mI S 64 2) + (6 : Int32)).toNatClampNeg).toInt := zG_zi hI rfl
                              have b84 := i_bd (mI S 65 ((mI S 64 2) + (6 : Int32)).toNatClampNeg)
                              have li85 : (115 : Int32).toInt = 115 := rfl
                              refine zd (fun h86 => ?_) (fun h86 => ?_)
                              · skip
                                have g87 := i_eq h86
                                have li88 : (1 : Int32).toInt = 1 := rfl
                                exact K ((1 : Int32)) _ hI (by decide) (show ((1 : Int32) = 1 ∧ zwd (f 65) (f 64 2) ((f 64 3).toInt - (f 64 2).toInt) 114 101 103 105 111 110 115) ∨ ((1 : Int32) = 0 ∧ ¬ zwd (f 65) (f 64 2) ((f 64 3).toInt - (f 64 2).toInt) 114 101 103 105 111 110 115) from by first | (rw [show f 65 = mI S 65 from funext (fun k => (zG_z hI rfl).symm), show f 64 2 = mI S 64 2 from (zG_z hI rfl).symm, show f 64 3 = mI S 64 3 from (zG_z hI rfl).symm]; exact Or.inl ⟨rfl, by rw [if_neg (by decide), if_neg (by decide), if_neg (by decide)]; omega, (by assumption), (by assumption), (by assumption), (by assumption), Or.inr (by assumption), Or.inr (Or.inr (by assumption)), Or.inr (Or.inr (Or.inr (by assumption)))⟩) | (omega) | (exfalso; omega)) (show zFm I0 L0 R0 S from by first | (exact hpre0))
                              · skip
                                have g89 := i_ne h86
                                have li90 : (0 : Int32).toInt = 0 := rfl
                                exact K ((0 : Int32)) _ hI (by decide) (show ((0 : Int32) = 1 ∧ zwd (f 65) (f 64 2) ((f 64 3).toInt - (f 64 2).toInt) 114 101 103 105 111 110 115) ∨ ((0 : Int32) = 0 ∧ ¬ zwd (f 65) (f 64 2) ((f 64 3).toInt - (f 64 2).toInt) 114 101 103 105 111 110 115) from by first | (rw [show f 65 = mI S 65 from funext (fun k => (zG_z hI rfl).symm), show f 64 2 = mI S 64 2 from (zG_z hI rfl).symm, show f 64 3 = mI S 64 3 from (zG_z hI rfl).symm]; exact Or.inr ⟨rfl, fun z => absurd (z.2.2.2.2.2.2.2.elim (fun y => absurd y (by decide)) (fun y => y.elim (fun y => absurd y (by decide)) (fun y => y.elim (fun y => absurd y (by decide)) id))) (by assumption)⟩) | (rw [show f 65 = mI S 65 from funext (fun k => (zG_z hI rfl).symm), show f 64 2 = mI S 64 2 from (zG_z hI rfl).symm, show f 64 3 = mI S 64 3 from (zG_z hI rfl).symm]; exact Or.inr ⟨rfl, fun z => absurd z.2.1 (by assumption)⟩) | (rw [show f 65 = mI S 65 from funext (fun k => (zG_z hI rfl).symm), show f 64 2 = mI S 64 2 from (zG_z hI rfl).symm, show f 64 3 = mI S 64 3 from (zG_z hI rfl).symm]; exact Or.inr ⟨rfl, fun z => absurd z.2.2.1 (by assumption)⟩) | (rw [show f 65 = mI S 65 from funext (fun k => (zG_z hI rfl).symm), show f 64 2 = mI S 64 2 from (zG_z hI rfl).symm, show f 64 3 = mI S 64 3 from (zG_z hI rfl).symm]; exact Or.inr ⟨rfl, fun z => absurd z.2.2.2.1 (by assumption)⟩) | (rw [show f 65 = mI S 65 from funext (fun k => (zG_z hI rfl).symm), show f 64 2 = mI S 64 2 from (zG_z hI rfl).symm, show f 64 3 = mI S 64 3 from (zG_z hI rfl).symm]; exact Or.inr ⟨rfl, fun z => absurd z.2.2.2.2.1 (by assumption)⟩) | (rw [show f 65 = mI S 65 from funext (fun k => (zG_z hI rfl).symm), show f 64 2 = mI S 64 2 from (zG_z hI rfl).symm, show f 64 3 = mI S 64 3 from (zG_z hI rfl).symm]; exact Or.inr ⟨rfl, fun z => absurd (z.2.2.2.2.2.1.elim (fun y => absurd y (by decide)) id) (by assumption)⟩) | (rw [show f 65 = mI S 65 from funext (fun k => (zG_z hI rfl).symm), show f 64 2 = mI S 64 2 from (zG_z hI rfl).symm, show f 64 3 = mI S 64 3 from (zG_z hI rfl).symm]; exact Or.inr ⟨rfl, fun z => absurd (z.2.2.2.2.2.2.1.elim (fun y => absurd y (by decide)) (fun y => y.elim (fun y => absurd y (by decide)) id)) (by assumption)⟩) | (rw [show f 65 = mI S 65 from funext (fun k => (zG_z hI rfl).symm), show f 64 2 = mI S 64 2 from (zG_z hI rfl).symm, show f 64 3 = mI S 64 3 from (zG_z hI rfl).symm]; exact Or.inr ⟨rfl, fun z => by have y := z.1; rw [if_neg (by decide), if_neg (by decide), if_neg (by decide)] at y; omega⟩) | (omega) | (exfalso; omega)) (show zFm I0 L0 R0 S from by first | (exact hpre0))
                          · skip
                            have g91 := i_ne h75
                            have li92 : (0 : Int32).toInt = 0 := rfl
                            exact K ((0 : Int32)) _ hI (by decide) (show ((0 : Int32) = 1 ∧ zwd (f 65) (f 64 2) ((f 64 3).toInt - (f 64 2).toInt) 114 101 103 105 111 110 115) ∨ ((0 : Int32) = 0 ∧ ¬ zwd (f 65) (f 64 2) ((f 64 3).toInt - (f 64 2).toInt) 114 101 103 105 111 110 115) from by first | (rw [show f 65 = mI S 65 from funext (fun k => (zG_z hI rfl).symm), show f 64 2 = mI S 64 2 from (zG_z hI rfl).symm, show f 64 3 = mI S 64 3 from (zG_z hI rfl).symm]; exact Or.inr ⟨rfl, fun z => absurd (z.2.2.2.2.2.2.1.elim (fun y => absurd y (by decide)) (fun y => y.elim (fun y => absurd y (by decide)) id)) (by assumption)⟩) | (rw [show f 65 = mI S 65 from funext (fun k => (zG_z hI rfl).symm), show f 64 2 = mI S 64 2 from (zG_z hI rfl).symm, show f 64 3 = mI S 64 3 from (zG_z hI rfl).symm]; exact Or.inr ⟨rfl, fun z => absurd z.2.1 (by assumption)⟩) | (rw [show f 65 = mI S 65 from funext (fun k => (zG_z hI rfl).symm), show f 64 2 = mI S 64 2 from (zG_z hI rfl).symm, show f 64 3 = mI S 64 3 from (zG_z hI rfl).symm]; exact Or.inr ⟨rfl, fun z => absurd z.2.2.1 (by assumption)⟩) | (rw [show f 65 = mI S 65 from funext (fun k => (zG_z hI rfl).symm), show f 64 2 = mI S 64 2 from (zG_z hI rfl).symm, show f 64 3 = mI S 64 3 from (zG_z hI rfl).symm]; exact Or.inr ⟨rfl, fun z => absurd z.2.2.2.1 (by assumption)⟩) | (rw [show f 65 = mI S 65 from funext (fun k => (zG_z hI rfl).symm), show f 64 2 = mI S 64 2 from (zG_z hI rfl).symm, show f 64 3 = mI S 64 3 from (zG_z hI rfl).symm]; exact Or.inr ⟨rfl, fun z => absurd z.2.2.2.2.1 (by assumption)⟩) | (rw [show f 65 = mI S 65 from funext (fun k => (zG_z hI rfl).symm), show f 64 2 = mI S 64 2 from (zG_z hI rfl).symm, show f 64 3 = mI S 64 3 from (zG_z hI rfl).symm]; exact Or.inr ⟨rfl, fun z => absurd (z.2.2.2.2.2.1.elim (fun y => absurd y (by decide)) id) (by assumption)⟩) | (rw [show f 65 = mI S 65 from funext (fun k => (zG_z hI rfl).symm), show f 64 2 = mI S 64 2 from (zG_z hI rfl).symm, show f 64 3 = mI S 64 3 from (zG_z hI rfl).symm]; exact Or.inr ⟨rfl, fun z => absurd (z.2.2.2.2.2.2.2.elim (fun y => absurd y (by decide)) (fun y => y.elim (fun y => absurd y (by decide)) (fun y => y.elim (fun y => absurd y (by decide)) id))) (by assumption)⟩) | (rw [show f 65 = mI S 65 from funext (fun k => (zG_z hI rfl).symm), show f 64 2 = mI S 64 2 from (zG_z hI rfl).symm, show f 64 3 = mI S 64 3 from (zG_z hI rfl).symm]; exact Or.inr ⟨rfl, fun z => by have y := z.1; rw [if_neg (by decide), if_neg (by decide), if_neg (by decide)] at y; omega⟩) | (omega) | (exfalso; omega)) (show zFm I0 L0 R0 S from by first | (exact hpre0))
                      · skip
                        have g93 := i_ne h64
                        have li94 : (0 : Int32).toInt = 0 := rfl
                        exact K ((0 : Int32)) _ hI (by decide) (show ((0 : Int32) = 1 ∧ zwd (f 65) (f 64 2) ((f 64 3).toInt - (f 64 2).toInt) 114 101 103 105 111 110 115) ∨ ((0 : Int32) = 0 ∧ ¬ zwd (f 65) (f 64 2) ((f 64 3).toInt - (f 64 2).toInt) 114 101 103 105 111 110 115) from by first | (rw [show f 65 = mI S 65 from funext (fun k => (zG_z hI rfl).symm), show f 64 2 = mI S 64 2 from (zG_z hI rfl).symm, show f 64 3 = mI S 64 3 from (zG_z hI rfl).symm]; exact Or.inr ⟨rfl, fun z => absurd (z.2.2.2.2.2.1.elim (fun y => absurd y (by decide)) id) (by assumption)⟩) | (rw [show f 65 = mI S 65 from funext (fun k => (zG_z hI rfl).symm), show f 64 2 = mI S 64 2 from (zG_z hI rfl).symm, show f 64 3 = mI S 64 3 from (zG_z hI rfl).symm]; exact Or.inr ⟨rfl, fun z => absurd z.2.1 (by assumption)⟩) | (rw [show f 65 = mI S 65 from funext (fun k => (zG_z hI rfl).symm), show f 64 2 = mI S 64 2 from (zG_z hI rfl).symm, show f 64 3 = mI S 64 3 from (zG_z hI rfl).symm]; exact Or.inr ⟨rfl, fun z => absurd z.2.2.1 (by assumption)⟩) | (rw [show f 65 = mI S 65 from funext (fun k => (zG_z hI rfl).symm), show f 64 2 = mI S 64 2 from (zG_z hI rfl).symm, show f 64 3 = mI S 64 3 from (zG_z hI rfl).symm]; exact Or.inr ⟨rfl, fun z => absurd z.2.2.2.1 (by assumption)⟩) | (rw [show f 65 = mI S 65 from funext (fun k => (zG_z hI rfl).symm), show f 64 2 = mI S 64 2 from (zG_z hI rfl).symm, show f 64 3 = mI S 64 3 from (zG_z hI rfl).symm]; exact Or.inr ⟨rfl, fun z => absurd z.2.2.2.2.1 (by assumption)⟩) | (rw [show f 65 = mI S 65 from funext (fun k => (zG_z hI rfl).symm), show f 64 2 = mI S 64 2 from (zG_z hI rfl).symm, show f 64 3 = mI S 64 3 from (zG_z hI rfl).symm]; exact Or.inr ⟨rfl, fun z => absurd (z.2.2.2.2.2.2.1.elim (fun y => absurd y (by decide)) (fun y => y.elim (fun y => absurd y (by decide)) id)) (by assumption)⟩) | (rw [show f 65 = mI S 65 from funext (fun k => (zG_z hI rfl).symm), show f 64 2 = mI S 64 2 from (zG_z hI rfl).symm, show f 64 3 = mI S 64 3 from (zG_z hI rfl).symm]; exact Or.inr ⟨rfl, fun z => absurd (z.2.2.2.2.2.2.2.elim (fun y => absurd y (by decide)) (fun y => y.elim (fun y => absurd y (by decide)) (fun y => y.elim (fun y => absurd y (by decide)) id))) (by assumption)⟩) | (rw [show f 65 = mI S 65 from funext (fun k => (zG_z hI rfl).symm), show f 64 2 = mI S 64 2 from (zG_z hI rfl).symm, show f 64 3 = mI S 64 3 from (zG_z hI rfl).symm]; exact Or.inr ⟨rfl, fun z => by have y := z.1; rw [if_neg (by decide), if_neg (by decide), if_neg (by decide)] at y; omega⟩) | (omega) | (exfalso; omega)) (show zFm I0 L0 R0 S from by first | (exact hpre0))
                  · skip
                    have g95 := i_ne h53
                    have li96 : (0 : Int32).toInt = 0 := rfl
                    exact K ((0 : Int32)) _ hI (by decide) (show ((0 : Int32) = 1 ∧ zwd (f 65) (f 64 2) ((f 64 3).toInt - (f 64 2).toInt) 114 101 103 105 111 110 115) ∨ ((0 : Int32) = 0 ∧ ¬ zwd (f 65) (f 64 2) ((f 64 3).toInt - (f 64 2).toInt) 114 101 103 105 111 110 115) from by first | (rw [show f 65 = mI S 65 from funext (fun k => (zG_z hI rfl).symm), show f 64 2 = mI S 64 2 from (zG_z hI rfl).symm, show f 64 3 = mI S 64 3 from (zG_z hI rfl).symm]; exact Or.inr ⟨rfl, fun z => absurd z.2.2.2.2.1 (by assumption)⟩) | (rw [show f 65 = mI S 65 from funext (fun k => (zG_z hI rfl).symm), show f 64 2 = mI S 64 2 from (zG_z hI rfl).symm, show f 64 3 = mI S 64 3 from (zG_z hI rfl).symm]; exact Or.inr ⟨rfl, fun z => absurd z.2.1 (by assumption)⟩) | (rw [show f 65 = mI S 65 from funext (fun k => (zG_z hI rfl).symm), show f 64 2 = mI S 64 2 from (zG_z hI rfl).symm, show f 64 3 = mI S 64 3 from (zG_z hI rfl).symm]; exact Or.inr ⟨rfl, fun z => absurd z.2.2.1 (by assumption)⟩) | (rw [show f 65 = mI S 65 from funext (fun k => (zG_z hI rfl).symm), show f 64 2 = mI S 64 2 from (zG_z hI rfl).symm, show f 64 3 = mI S 64 3 from (zG_z hI rfl).symm]; exact Or.inr ⟨rfl, fun z => absurd z.2.2.2.1 (by assumption)⟩) | (rw [show f 65 = mI S 65 from funext (fun k => (zG_z hI rfl).symm), show f 64 2 = mI S 64 2 from (zG_z hI rfl).symm, show f 64 3 = mI S 64 3 from (zG_z hI rfl).symm]; exact Or.inr ⟨rfl, fun z => absurd (z.2.2.2.2.2.1.elim (fun y => absurd y (by decide)) id) (by assumption)⟩) | (rw [show f 65 = mI S 65 from funext (fun k => (zG_z hI rfl).symm), show f 64 2 = mI S 64 2 from (zG_z hI rfl).symm, show f 64 3 = mI S 64 3 from (zG_z hI rfl).symm]; exact Or.inr ⟨rfl, fun z => absurd (z.2.2.2.2.2.2.1.elim (fun y => absurd y (by decide)) (fun y => y.elim (fun y => absurd y (by decide)) id)) (by assumption)⟩) | (rw [show f 65 = mI S 65 from funext (fun k => (zG_z hI rfl).symm), show f 64 2 = mI S 64 2 from (zG_z hI rfl).symm, show f 64 3 = mI S 64 3 from (zG_z hI rfl).symm]; exact Or.inr ⟨rfl, fun z => absurd (z.2.2.2.2.2.2.2.elim (fun y => absurd y (by decide)) (fun y => y.elim (fun y => absurd y (by decide)) (fun y => y.elim (fun y => absurd y (by decide)) id))) (by assumption)⟩) | (rw [show f 65 = mI S 65 from funext (fun k => (zG_z hI rfl).symm), show f 64 2 = mI S 64 2 from (zG_z hI rfl).symm, show f 64 3 = mI S 64 3 from (zG_z hI rfl).symm]; exact Or.inr ⟨rfl, fun z => by have y := z.1; rw [if_neg (by decide), if_neg (by decide), if_neg (by decide)] at y; omega⟩) | (omega) | (exfalso; omega)) (show zFm I0 L0 R0 S from by first | (exact hpre0))
              · skip
                have g97 := i_ne h42
                have li98 : (0 : Int32).toInt = 0 := rfl
                exact K ((0 : Int32)) _ hI (by decide) (show ((0 : Int32) = 1 ∧ zwd (f 65) (f 64 2) ((f 64 3).toInt - (f 64 2).toInt) 114 101 103 105 111 110 115) ∨ ((0 : Int32) = 0 ∧ ¬ zwd (f 65) (f 64 2) ((f 64 3).toInt - (f 64 2).toInt) 114 101 103 105 111 110 115) from by first | (rw [show f 65 = mI S 65 from funext (fun k => (zG_z hI rfl).symm), show f 64 2 = mI S 64 2 from (zG_z hI rfl).symm, show f 64 3 = mI S 64 3 from (zG_z hI rfl).symm]; exact Or.inr ⟨rfl, fun z => absurd z.2.2.2.1 (by assumption)⟩) | (rw [show f 65 = mI S 65 from funext (fun k => (zG_z hI rfl).symm), show f 64 2 = mI S 64 2 from (zG_z hI rfl).symm, show f 64 3 = mI S 64 3 from (zG_z hI rfl).symm]; exact Or.inr ⟨rfl, fun z => absurd z.2.1 (by assumption)⟩) | (rw [show f 65 = mI S 65 from funext (fun k => (zG_z hI rfl).symm), show f 64 2 = mI S 64 2 from (zG_z hI rfl).symm, show f 64 3 = mI S 64 3 from (zG_z hI rfl).symm]; exact Or.inr ⟨rfl, fun z => absurd z.2.2.1 (by assumption)⟩) | (rw [show f 65 = mI S 65 from funext (fun k => (zG_z hI rfl).symm), show f 64 2 = mI S 64 2 from (zG_z hI rfl).symm, show f 64 3 = mI S 64 3 from (zG_z hI rfl).symm]; exact Or.inr ⟨rfl, fun z => absurd z.2.2.2.2.1 (by assumption)⟩) | (rw [show f 65 = mI S 65 from funext (fun k => (zG_z hI rfl).symm), show f 64 2 = mI S 64 2 from (zG_z hI rfl).symm, show f 64 3 = mI S 64 3 from (zG_z hI rfl).symm]; exact Or.inr ⟨rfl, fun z => absurd (z.2.2.2.2.2.1.elim (fun y => absurd y (by decide)) id) (by assumption)⟩) | (rw [show f 65 = mI S 65 from funext (fun k => (zG_z hI rfl).symm), show f 64 2 = mI S 64 2 from (zG_z hI rfl).symm, show f 64 3 = mI S 64 3 from (zG_z hI rfl).symm]; exact Or.inr ⟨rfl, fun z => absurd (z.2.2.2.2.2.2.1.elim (fun y => absurd y (by decide)) (fun y => y.elim (fun y => absurd y (by decide)) id)) (by assumption)⟩) | (rw [show f 65 = mI S 65 from funext (fun k => (zG_z hI rfl).symm), show f 64 2 = mI S 64 2 from (zG_z hI rfl).symm, show f 64 3 = mI S 64 3 from (zG_z hI rfl).symm]; exact Or.inr ⟨rfl, fun z => absurd (z.2.2.2.2.2.2.2.elim (fun y => absurd y (by decide)) (fun y => y.elim (fun y => absurd y (by decide)) (fun y => y.elim (fun y => absurd y (by decide)) id))) (by assumption)⟩) | (rw [show f 65 = mI S 65 from funext (fun k => (zG_z hI rfl).symm), show f 64 2 = mI S 64 2 from (zG_z hI rfl).symm, show f 64 3 = mI S 64 3 from (zG_z hI rfl).symm]; exact Or.inr ⟨rfl, fun z => by have y := z.1; rw [if_neg (by decide), if_neg (by decide), if_neg (by decide)] at y; omega⟩) | (omega) | (exfalso; omega)) (show zFm I0 L0 R0 S from by first | (exact hpre0))
          · skip
            have g99 := i_ne h31
            have li100 : (0 : Int32).toInt = 0 := rfl
            exact K ((0 : Int32)) _ hI (by decide) (show ((0 : Int32) = 1 ∧ zwd (f 65) (f 64 2) ((f 64 3).toInt - (f 64 2).toInt) 114 101 103 105 111 110 115) ∨ ((0 : Int32) = 0 ∧ ¬ zwd (f 65) (f 64 2) ((f 64 3).toInt - (f 64 2).toInt) 114 101 103 105 111 110 115) from by first | (rw [show f 65 = mI S 65 from funext (fun k => (zG_z hI rfl).symm), show f 64 2 = mI S 64 2 from (zG_z hI rfl).symm, show f 64 3 = mI S 64 3 from (zG_z hI rfl).symm]; exact Or.inr ⟨rfl, fun z => absurd z.2.2.1 (by assumption)⟩) | (rw [show f 65 = mI S 65 from funext (fun k => (zG_z hI rfl).symm), show f 64 2 = mI S 64 2 from (zG_z hI rfl).symm, show f 64 3 = mI S 64 3 from (zG_z hI rfl).symm]; exact Or.inr ⟨rfl, fun z => absurd z.2.1 (by assumption)⟩) | (rw [show f 65 = mI S 65 from funext (fun k => (zG_z hI rfl).symm), show f 64 2 = mI S 64 2 from (zG_z hI rfl).symm, show f 64 3 = mI S 64 3 from (zG_z hI rfl).symm]; exact Or.inr ⟨rfl, fun z => absurd z.2.2.2.1 (by assumption)⟩) | (rw [show f 65 = mI S 65 from funext (fun k => (zG_z hI rfl).symm), show f 64 2 = mI S 64 2 from (zG_z hI rfl).symm, show f 64 3 = mI S 64 3 from (zG_z hI rfl).symm]; exact Or.inr ⟨rfl, fun z => absurd z.2.2.2.2.1 (by assumption)⟩) | (rw [show f 65 = mI S 65 from funext (fun k => (zG_z hI rfl).symm), show f 64 2 = mI S 64 2 from (zG_z hI rfl).symm, show f 64 3 = mI S 64 3 from (zG_z hI rfl).symm]; exact Or.inr ⟨rfl, fun z => absurd (z.2.2.2.2.2.1.elim (fun y => absurd y (by decide)) id) (by assumption)⟩) | (rw [show f 65 = mI S 65 from funext (fun k => (zG_z hI rfl).symm), show f 64 2 = mI S 64 2 from (zG_z hI rfl).symm, show f 64 3 = mI S 64 3 from (zG_z hI rfl).symm]; exact Or.inr ⟨rfl, fun z => absurd (z.2.2.2.2.2.2.1.elim (fun y => absurd y (by decide)) (fun y => y.elim (fun y => absurd y (by decide)) id)) (by assumption)⟩) | (rw [show f 65 = mI S 65 from funext (fun k => (zG_z hI rfl).symm), show f 64 2 = mI S 64 2 from (zG_z hI rfl).symm, show f 64 3 = mI S 64 3 from (zG_z hI rfl).symm]; exact Or.inr ⟨rfl, fun z => absurd (z.2.2.2.2.2.2.2.elim (fun y => absurd y (by decide)) (fun y => y.elim (fun y => absurd y (by decide)) (fun y => y.elim (fun y => absurd y (by decide)) id))) (by assumption)⟩) | (rw [show f 65 = mI S 65 from funext (fun k => (zG_z hI rfl).symm), show f 64 2 = mI S 64 2 from (zG_z hI rfl).symm, show f 64 3 = mI S 64 3 from (zG_z hI rfl).symm]; exact Or.inr ⟨rfl, fun z => by have y := z.1; rw [if_neg (by decide), if_neg (by decide), if_neg (by decide)] at y; omega⟩) | (omega) | (exfalso; omega)) (show zFm I0 L0 R0 S from by first | (exact hpre0))
      · skip
        have g101 := i_ne h20
        have li102 : (0 : Int32).toInt = 0 := rfl
        exact K ((0 : Int32)) _ hI (by decide) (show ((0 : Int32) = 1 ∧ zwd (f 65) (f 64 2) ((f 64 3).toInt - (f 64 2).toInt) 114 101 103 105 111 110 115) ∨ ((0 : Int32) = 0 ∧ ¬ zwd (f 65) (f 64 2) ((f 64 3).toInt - (f 64 2).toInt) 114 101 103 105 111 110 115) from by first | (rw [show f 65 = mI S 65 from funext (fun k => (zG_z hI rfl).symm), show f 64 2 = mI S 64 2 from (zG_z hI rfl).symm, show f 64 3 = mI S 64 3 from (zG_z hI rfl).symm]; exact Or.inr ⟨rfl, fun z => absurd z.2.1 (by assumption)⟩) | (rw [show f 65 = mI S 65 from funext (fun k => (zG_z hI rfl).symm), show f 64 2 = mI S 64 2 from (zG_z hI rfl).symm, show f 64 3 = mI S 64 3 from (zG_z hI rfl).symm]; exact Or.inr ⟨rfl, fun z => absurd z.2.2.1 (by assumption)⟩) | (rw [show f 65 = mI S 65 from funext (fun k => (zG_z hI rfl).symm), show f 64 2 = mI S 64 2 from (zG_z hI rfl).symm, show f 64 3 = mI S 64 3 from (zG_z hI rfl).symm]; exact Or.inr ⟨rfl, fun z => absurd z.2.2.2.1 (by assumption)⟩) | (rw [show f 65 = mI S 65 from funext (fun k => (zG_z hI rfl).symm), show f 64 2 = mI S 64 2 from (zG_z hI rfl).symm, show f 64 3 = mI S 64 3 from (zG_z hI rfl).symm]; exact Or.inr ⟨rfl, fun z => absurd z.2.2.2.2.1 (by assumption)⟩) | (rw [show f 65 = mI S 65 from funext (fun k => (zG_z hI rfl).symm), show f 64 2 = mI S 64 2 from (zG_z hI rfl).symm, show f 64 3 = mI S 64 3 from (zG_z hI rfl).symm]; exact Or.inr ⟨rfl, fun z => absurd (z.2.2.2.2.2.1.elim (fun y => absurd y (by decide)) id) (by assumption)⟩) | (rw [show f 65 = mI S 65 from funext (fun k => (zG_z hI rfl).symm), show f 64 2 = mI S 64 2 from (zG_z hI rfl).symm, show f 64 3 = mI S 64 3 from (zG_z hI rfl).symm]; exact Or.inr ⟨rfl, fun z => absurd (z.2.2.2.2.2.2.1.elim (fun y => absurd y (by decide)) (fun y => y.elim (fun y => absurd y (by decide)) id)) (by assumption)⟩) | (rw [show f 65 = mI S 65 from funext (fun k => (zG_z hI rfl).symm), show f 64 2 = mI S 64 2 from (zG_z hI rfl).symm, show f 64 3 = mI S 64 3 from (zG_z hI rfl).symm]; exact Or.inr ⟨rfl, fun z => absurd (z.2.2.2.2.2.2.2.elim (fun y => absurd y (by decide)) (fun y => y.elim (fun y => absurd y (by decide)) (fun y => y.elim (fun y => absurd y (by decide)) id))) (by assumption)⟩) | (rw [show f 65 = mI S 65 from funext (fun k => (zG_z hI rfl).symm), show f 64 2 = mI S 64 2 from (zG_z hI rfl).symm, show f 64 3 = mI S 64 3 from (zG_z hI rfl).symm]; exact Or.inr ⟨rfl, fun z => by have y := z.1; rw [if_neg (by decide), if_neg (by decide), if_neg (by decide)] at y; omega⟩) | (omega) | (exfalso; omega)) (show zFm I0 L0 R0 S from by first | (exact hpre0))
  · skip
    have g103 := i_ne h8
    have li104 : (0 : Int32).toInt = 0 := rfl
    exact K ((0 : Int32)) _ hI (by decide) (show ((0 : Int32) = 1 ∧ zwd (f 65) (f 64 2) ((f 64 3).toInt - (f 64 2).toInt) 114 101 103 105 111 110 115) ∨ ((0 : Int32) = 0 ∧ ¬ zwd (f 65) (f 64 2) ((f 64 3).toInt - (f 64 2).toInt) 114 101 103 105 111 110 115) from by first | (rw [show f 65 = mI S 65 from funext (fun k => (zG_z hI rfl).symm), show f 64 2 = mI S 64 2 from (zG_z hI rfl).symm, show f 64 3 = mI S 64 3 from (zG_z hI rfl).symm]; exact Or.inr ⟨rfl, fun z => by have y := z.1; rw [if_neg (by decide), if_neg (by decide), if_neg (by decide)] at y; omega⟩) | (rw [show f 65 = mI S 65 from funext (fun k => (zG_z hI rfl).symm), show f 64 2 = mI S 64 2 from (zG_z hI rfl).symm, show f 64 3 = mI S 64 3 from (zG_z hI rfl).symm]; exact Or.inr ⟨rfl, fun z => absurd z.2.1 (by assumption)⟩) | (rw [show f 65 = mI S 65 from funext (fun k => (zG_z hI rfl).symm), show f 64 2 = mI S 64 2 from (zG_z hI rfl).symm, show f 64 3 = mI S 64 3 from (zG_z hI rfl).symm]; exact Or.inr ⟨rfl, fun z => absurd z.2.2.1 (by assumption)⟩) | (rw [show f 65 = mI S 65 from funext (fun k => (zG_z hI rfl).symm), show f 64 2 = mI S 64 2 from (zG_z hI rfl).symm, show f 64 3 = mI S 64 3 from (zG_z hI rfl).symm]; exact Or.inr ⟨rfl, fun z => absurd z.2.2.2.1 (by assumption)⟩) | (rw [show f 65 = mI S 65 from funext (fun k => (zG_z hI rfl).symm), show f 64 2 = mI S 64 2 from (zG_z hI rfl).symm, show f 64 3 = mI S 64 3 from (zG_z hI rfl).symm]; exact Or.inr ⟨rfl, fun z => absurd z.2.2.2.2.1 (by assumption)⟩) | (rw [show f 65 = mI S 65 from funext (fun k => (zG_z hI rfl).symm), show f 64 2 = mI S 64 2 from (zG_z hI rfl).symm, show f 64 3 = mI S 64 3 from (zG_z hI rfl).symm]; exact Or.inr ⟨rfl, fun z => absurd (z.2.2.2.2.2.1.elim (fun y => absurd y (by decide)) id) (by assumption)⟩) | (rw [show f 65 = mI S 65 from funext (fun k => (zG_z hI rfl).symm), show f 64 2 = mI S 64 2 from (zG_z hI rfl).symm, show f 64 3 = mI S 64 3 from (zG_z hI rfl).symm]; exact Or.inr ⟨rfl, fun z => absurd (z.2.2.2.2.2.2.1.elim (fun y => absurd y (by decide)) (fun y => y.elim (fun y => absurd y (by decide)) id)) (by assumption)⟩) | (rw [show f 65 = mI S 65 from funext (fun k => (zG_z hI rfl).symm), show f 64 2 = mI S 64 2 from (zG_z hI rfl).symm, show f 64 3 = mI S 64 3 from (zG_z hI rfl).symm]; exact Or.inr ⟨rfl, fun z => absurd (z.2.2.2.2.2.2.2.elim (fun y => absurd y (by decide)) (fun y => y.elim (fun y => absurd y (by decide)) (fun y => y.elim (fun y => absurd y (by decide)) id))) (by assumption)⟩) | (omega) | (exfalso; omega)) (show zFm I0 L0 R0 S from by first | (exact hpre0))

