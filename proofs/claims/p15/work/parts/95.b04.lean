/-! regions (written by wip/tools/gen95a.py) -/
theorem g_43_91_0 {X : Nat × (Nat → Int32)} {d w : Nat} {S : ma_S} {Q : Option ma_V ⊕ Nat → ma_S → Prop}  (hd : 4 ≤ d) (hw : 138 ≤ w) (hS : zT S) (h : ma_wp X (d - 1) (w - 20) 264 0 [(0, .inr (.inr (some 91)))] [] S (zi (fun v2 S1 => zT S1 ∧ (ma_wp X (d - 1) (w - 22) 44 0 [(0, .inr (.inr (some 91)))] [] S1 (zv (fun S3 => zT S3 ∧ (ma_wp X (d - 1) (w - 21) 46 0 [(0, .inr (.inr (some 91)))] [] S3 (zv (fun S5 => zT S5 ∧ (ma_wp X (d - 1) (w - 22) 47 0 [(0, .inr (.inr (some 91)))] [] S5 (zv (fun S7 => zT S7 ∧ (ma_wp X (d - 1) (w - 22) 48 0 [(0, .inr (.inr (some 91)))] [] (ma_put S7 91 6 (.inl (-1 : Int32))) (zi (fun v10 S9 => zT S9 ∧ (ma_wp X d w 43 29 [(0, .inr (.inr (some 91))), (1, .inl v2), (2, .inl v10), (3, .inl (0 : Int32))] [] S9 Q)) (fun x S9 => Q (.inr x) S9)))) (fun x S9 => Q (.inr x) S9)))) (fun x S9 => Q (.inr x) S9)))) (fun x S9 => Q (.inr x) S9)))) (fun _ _ => False))) : ma_wp X d w 43 0 [(0, .inr (.inr (some 91)))] [] S Q := by
  refine zw_push hm_43 dX4_cleanAll_0 (v := .inr (.inr (some 91))) rfl ?_
  refine zw_cv hm_43 dX4_cleanAll_1 v_4_70_4 hm_264 [] [] rfl (zT_rt hS s_91 rfl) ⟨by omega, by omega⟩ rfl (zw_mono h (zi_go ?_ ?_))
  · intro v2 S1 hv
    obtain ⟨hS1, h⟩ := hv
    refine zw_sto hm_43 dX4_cleanAll_4 [(1, .inl v2), (0, .inr (.inr (some 91)))] rfl rfl rfl ?_
    refine zw_push hm_43 dX4_cleanAll_5 (v := .inr (.inr (some 91))) rfl ?_
    refine zw_cv hm_43 dX4_cleanAll_6 v_4_73_4 hm_44 [] [] rfl (zT_rt hS1 s_91 rfl) ⟨by omega, by omega⟩ rfl (zw_mono h (zv_go ?_ ?_))
    · intro S3 hv
      obtain ⟨hS3, h⟩ := hv
      refine zw_push hm_43 dX4_cleanAll_9 (v := .inr (.inr (some 91))) rfl ?_
      refine zw_cv hm_43 dX4_cleanAll_10 v_4_77_4 hm_46 [] [] rfl (zT_rt hS3 s_91 rfl) ⟨by omega, by omega⟩ rfl (zw_mono h (zv_go ?_ ?_))
      · intro S5 hv
        obtain ⟨hS5, h⟩ := hv
        refine zw_push hm_43 dX4_cleanAll_13 (v := .inr (.inr (some 91))) rfl ?_
        refine zw_cv hm_43 dX4_cleanAll_14 v_4_80_4 hm_47 [] [] rfl (zT_rt hS5 s_91 rfl) ⟨by omega, by omega⟩ rfl (zw_mono h (zv_go ?_ ?_))
        · intro S7 hv
          obtain ⟨hS7, h⟩ := hv
          refine zw_push hm_43 dX4_cleanAll_17 (v := .inr (.inr (some 91))) rfl ?_
          refine zw_push hm_43 dX4_cleanAll_18 (v := .inl (-1 : Int32)) rfl ?_
          refine zw_pf hm_43 dX4_cleanAll_19 (zT_is hS7 s_91) (zT_t hS7 s_91) p_4_83_4 zk_int ?_
          refine zw_push hm_43 dX4_cleanAll_22 (v := .inr (.inr (some 91))) rfl ?_
          refine zw_cv hm_43 dX4_cleanAll_23 v_4_86_4 hm_48 [] [] rfl (zT_rt (zT_pi hS7) s_91 rfl) ⟨by omega, by omega⟩ rfl (zw_mono h (zi_go ?_ ?_))
          · intro v10 S9 hv
            obtain ⟨hS9, h⟩ := hv
            refine zw_sto hm_43 dX4_cleanAll_26 [(2, .inl v10), (1, .inl v2), (0, .inr (.inr (some 91)))] rfl rfl rfl ?_
            refine zw_push hm_43 dX4_cleanAll_27 (v := .inl (0 : Int32)) rfl ?_
            refine zw_sto hm_43 dX4_cleanAll_28 [(3, .inl (0 : Int32)), (2, .inl v10), (1, .inl v2), (0, .inr (.inr (some 91)))] rfl rfl rfl ?_
            exact zw_sub (ma_nd_of (ks := [0, 1, 2, 3]) rfl (by decide)) (ma_nd_of (ks := [3, 2, 1, 0]) rfl (by decide)) (ma_le_cons rfl (ma_le_cons rfl (ma_le_cons rfl (ma_le_cons rfl (ma_le_nil _))))) h
          · intro x S9 hx
            exact ⟨by decide, hx⟩
        · intro x S9 hx
          exact ⟨by decide, hx⟩
      · intro x S9 hx
        exact ⟨by decide, hx⟩
    · intro x S9 hx
      exact ⟨by decide, hx⟩
  · intro x S9 hx
    exact hx.elim
theorem g_43_91_29 {X : Nat × (Nat → Int32)} {d w : Nat} {S : ma_S} {Q : Option ma_V ⊕ Nat → ma_S → Prop} (l1 : Int32) (l2 : Int32) (l3 : Int32) (hd : 4 ≤ d) (hw : 160 ≤ w) (hS : zT S) (h : if (93 : Int32) ≤ l3 then (if (mI S 91 6) = (-1 : Int32) then (if (mI S 91 5) < 0 then (ma_wp X (d - 1) (w - 21) 52 0 [(0, .inr (.inr (some 91)))] [] S (zi (fun v2 S1 => zT S1 ∧ (if v2 = (-1 : Int32) then (Q (.inl (some (.inl l1))) (ma_put S1 91 5 (.inl (mI S1 91 5)))) else (Q (.inl (some (.inl l1))) (ma_put S1 91 5 (.inl v2))))) (fun x S9 => Q (.inr x) S9))) else (if (93 : Int32) ≤ (mI S 91 5) then (ma_wp X (d - 1) (w - 21) 52 0 [(0, .inr (.inr (some 91)))] [] S (zi (fun v4 S3 => zT S3 ∧ (if v4 = (-1 : Int32) then (Q (.inl (some (.inl l1))) (ma_put S3 91 5 (.inl (mI S3 91 5)))) else (Q (.inl (some (.inl l1))) (ma_put S3 91 5 (.inl v4))))) (fun x S9 => Q (.inr x) S9))) else ((0 ≤ (mI S 91 5) ∧ (mI S 91 5).toNatClampNeg < 93) ∧ (if (mI S 92 (mI S 91 5).toNatClampNeg) = 0 then (ma_wp X (d - 1) (w - 21) 52 0 [(0, .inr (.inr (some 91)))] [] S (zi (fun v6 S5 => zT S5 ∧ (if v6 = (-1 : Int32) then (Q (.inl (some (.inl l1))) (ma_put S5 91 5 (.inl (mI S5 91 5)))) else (Q (.inl (some (.inl l1))) (ma_put S5 91 5 (.inl v6))))) (fun x S9 => Q (.inr x) S9))) else (Q (.inl (some (.inl l1))) S))))) else (Q (.inl (some (.inl l1))) (ma_put S 91 5 (.inl (mI S 91 6))))) else (if l2 = (-1 : Int32) then (if (mI S 91 6) = (-1 : Int32) then (if (mI S 91 5) < 0 then (ma_wp X (d - 1) (w - 21) 52 0 [(0, .inr (.inr (some 91)))] [] S (zi (fun v8 S7 => zT S7 ∧ (if v8 = (-1 : Int32) then (Q (.inl (some (.inl l1))) (ma_put S7 91 5 (.inl (mI S7 91 5)))) else (Q (.inl (some (.inl l1))) (ma_put S7 91 5 (.inl v8))))) (fun x S9 => Q (.inr x) S9))) else (if (93 : Int32) ≤ (mI S 91 5) then (ma_wp X (d - 1) (w - 21) 52 0 [(0, .inr (.inr (some 91)))] [] S (zi (fun v10 S9 => zT S9 ∧ (if v10 = (-1 : Int32) then (Q (.inl (some (.inl l1))) (ma_put S9 91 5 (.inl (mI S9 91 5)))) else (Q (.inl (some (.inl l1))) (ma_put S9 91 5 (.inl v10))))) (fun x S9 => Q (.inr x) S9))) else ((0 ≤ (mI S 91 5) ∧ (mI S 91 5).toNatClampNeg < 93) ∧ (if (mI S 92 (mI S 91 5).toNatClampNeg) = 0 then (ma_wp X (d - 1) (w - 21) 52 0 [(0, .inr (.inr (some 91)))] [] S (zi (fun v12 S11 => zT S11 ∧ (if v12 = (-1 : Int32) then (Q (.inl (some (.inl l1))) (ma_put S11 91 5 (.inl (mI S11 91 5)))) else (Q (.inl (some (.inl l1))) (ma_put S11 91 5 (.inl v12))))) (fun x S9 => Q (.inr x) S9))) else (Q (.inl (some (.inl l1))) S))))) else (Q (.inl (some (.inl l1))) (ma_put S 91 5 (.inl (mI S 91 6))))) else (ma_wp X (d - 1) (w - 24) 49 0 [(0, .inr (.inr (some 91))), (1, .inl l2)] [] S (zi (fun v14 S13 => zT S13 ∧ (if v14 = 0 then (if (mI S13 91 6) = (-1 : Int32) then (if (mI S13 91 5) < 0 then (ma_wp X (d - 1) (w - 21) 52 0 [(0, .inr (.inr (some 91)))] [] S13 (zi (fun v16 S15 => zT S15 ∧ (if v16 = (-1 : Int32) then (Q (.inl (some (.inl l1))) (ma_put S15 91 5 (.inl (mI S15 91 5)))) else (Q (.inl (some (.inl l1))) (ma_put S15 91 5 (.inl v16))))) (fun x S9 => Q (.inr x) S9))) else (if (93 : Int32) ≤ (mI S13 91 5) then (ma_wp X (d - 1) (w - 21) 52 0 [(0, .inr (.inr (some 91)))] [] S13 (zi (fun v18 S17 => zT S17 ∧ (if v18 = (-1 : Int32) then (Q (.inl (some (.inl l1))) (ma_put S17 91 5 (.inl (mI S17 91 5)))) else (Q (.inl (some (.inl l1))) (ma_put S17 91 5 (.inl v18))))) (fun x S9 => Q (.inr x) S9))) else ((0 ≤ (mI S13 91 5) ∧ (mI S13 91 5).toNatClampNeg < 93) ∧ (if (mI S13 92 (mI S13 91 5).toNatClampNeg) = 0 then (ma_wp X (d - 1) (w - 21) 52 0 [(0, .inr (.inr (some 91)))] [] S13 (zi (fun v20 S19 => zT S19 ∧ (if v20 = (-1 : Int32) then (Q (.inl (some (.inl l1))) (ma_put S19 91 5 (.inl (mI S19 91 5)))) else (Q (.inl (some (.inl l1))) (ma_put S19 91 5 (.inl v20))))) (fun x S9 => Q (.inr x) S9))) else (Q (.inl (some (.inl l1))) S13))))) else (Q (.inl (some (.inl l1))) (ma_put S13 91 5 (.inl (mI S13 91 6))))) else (ma_wp X (d - 1) (w - 22) 48 0 [(0, .inr (.inr (some 91)))] [] S13 (zi (fun v22 S21 => zT S21 ∧ (ma_wp X d w 43 29 [(0, .inr (.inr (some 91))), (1, .inl l1), (2, .inl v22), (3, .inl (l3 + (1 : Int32)))] [] S21 Q)) (fun x S9 => Q (.inr x) S9))))) (fun x S9 => Q (.inr x) S9))))) : ma_wp X d w 43 29 [(0, .inr (.inr (some 91))), (1, .inl l1), (2, .inl l2), (3, .inl l3)] [] S Q := by
  refine zw_push hm_43 dX4_cleanAll_29 (v := .inl l3) rfl ?_
  refine zw_push hm_43 dX4_cleanAll_30 (v := .inl (93 : Int32)) rfl ?_
  refine zw_if2 hm_43 dX4_cleanAll_32 (t := 59) rfl zc2_ge ?_ ?_
  · intro hc
    rw [if_pos hc] at h
    refine zw_push hm_43 dX4_cleanAll_59 (v := .inr (.inr (some 91))) rfl ?_
    refine zw_gf hm_43 dX4_cleanAll_60 (v := .inl (mI S 91 6)) (zT_is hS s_91) (zT_t hS s_91) rfl f_4_83_4 rfl ?_
    refine zw_push hm_43 dX4_cleanAll_63 (v := .inl (-1 : Int32)) rfl ?_
    refine zw_if2 hm_43 dX4_cleanAll_64 (t := 78) rfl zc2_eq ?_ ?_
    · intro hc
      rw [if_pos hc] at h
      refine zw_push hm_43 dX4_cleanAll_78 (v := .inr (.inr (some 91))) rfl ?_
      refine zw_push hm_43 dX4_cleanAll_79 (v := .inr (.inr (some 91))) rfl ?_
      refine zw_gf hm_43 dX4_cleanAll_80 (v := .inl (mI S 91 5)) (zT_is hS s_91) (zT_t hS s_91) rfl f_4_34_4 rfl ?_
      refine zw_cv hm_43 dX4_cleanAll_83 v_4_93_4 hm_50 [.inl (mI S 91 5)] [] rfl (zT_rt hS s_91 rfl) ⟨by omega, by omega⟩ rfl ?_
      show ma_wp X (d - 1) (w - 21) 50 0 [(0, .inr (.inr (some 91))), (1, .inl (mI S 91 5))] [] S _
      refine zw_push hm_50 dX4_topOf_0 (v := .inl (mI S 91 5)) rfl ?_
      refine zw_if0 hm_50 dX4_topOf_1 (t := 19) rfl zc0_lt ?_ ?_
      · intro hc
        rw [if_pos hc] at h
        refine zw_push hm_50 dX4_topOf_19 (v := .inl (0 : Int32)) rfl ?_
        refine zw_iret hm_50 dX4_topOf_20 ?_
        show ma_wp X d w 43 86 [(0, .inr (.inr (some 91))), (1, .inl l1), (2, .inl l2), (3, .inl l3)] [.inl (0 : Int32)] S _
        refine zw_if0 hm_43 dX4_cleanAll_86 (t := 104) rfl zc0_ne (fun hc => absurd hc (by decide)) (fun _ => ?_)
        refine zw_push hm_43 dX4_cleanAll_89 (v := .inr (.inr (some 91))) rfl ?_
        refine zw_push hm_43 dX4_cleanAll_90 (v := .inr (.inr (some 91))) rfl ?_
        refine zw_cv hm_43 dX4_cleanAll_91 v_4_54_4 hm_52 [] [.inr (.inr (some 91))] rfl (zT_rt hS s_91 rfl) ⟨by omega, by omega⟩ rfl (zw_mono h (zi_go ?_ ?_))
        · intro v2 S1 hv
          obtain ⟨hS1, h⟩ := hv
          refine zw_push hm_43 dX4_cleanAll_94 (v := .inr (.inr (some 91))) rfl ?_
          refine zw_gf hm_43 dX4_cleanAll_95 (v := .inl (mI S1 91 5)) (zT_is hS1 s_91) (zT_t hS1 s_91) rfl f_4_34_4 rfl ?_
          refine zw_cs hm_43 dX4_cleanAll_98 pn_4_57 sl_4_57 hm_54 [.inl (mI S1 91 5), .inl v2] [.inr (.inr (some 91))] rfl ⟨by omega, by omega⟩ rfl ?_
          show ma_wp X (d - 1) (w - 21) 54 0 [(0, .inl v2), (1, .inl (mI S1 91 5))] [] S1 _
          refine zw_push hm_54 dX4_orElse_0 (v := .inl v2) rfl ?_
          refine zw_push hm_54 dX4_orElse_1 (v := .inl (-1 : Int32)) rfl ?_
          refine zw_if2 hm_54 dX4_orElse_2 (t := 9) rfl zc2_ne ?_ ?_
          · intro hc
            rw [if_neg hc] at h
            refine zw_push hm_54 dX4_orElse_9 (v := .inl v2) rfl ?_
            refine zw_iret hm_54 dX4_orElse_10 ?_
            show ma_wp X d w 43 101 [(0, .inr (.inr (some 91))), (1, .inl l1), (2, .inl l2), (3, .inl l3)] [.inl v2, .inr (.inr (some 91))] S1 _
            refine zw_pf hm_43 dX4_cleanAll_101 (zT_is hS1 s_91) (zT_t hS1 s_91) p_4_34_4 zk_int ?_
            refine zw_push hm_43 dX4_cleanAll_104 (v := .inl l1) rfl ?_
            exact zw_iret hm_43 dX4_cleanAll_105 h
          · intro hc
            rw [if_pos (Classical.not_not.mp hc)] at h
            refine zw_push hm_54 dX4_orElse_5 (v := .inl (mI S1 91 5)) rfl ?_
            refine zw_goto hm_54 dX4_orElse_6 (t := 10) rfl ?_
            refine zw_iret hm_54 dX4_orElse_10 ?_
            show ma_wp X d w 43 101 [(0, .inr (.inr (some 91))), (1, .inl l1), (2, .inl l2), (3, .inl l3)] [.inl (mI S1 91 5), .inr (.inr (some 91))] S1 _
            refine zw_pf hm_43 dX4_cleanAll_101 (zT_is hS1 s_91) (zT_t hS1 s_91) p_4_34_4 zk_int ?_
            refine zw_push hm_43 dX4_cleanAll_104 (v := .inl l1) rfl ?_
            exact zw_iret hm_43 dX4_cleanAll_105 h
        · intro x S9 hx
          exact ⟨by decide, hx⟩
      · intro hc
        rw [if_neg hc] at h
        refine zw_push hm_50 dX4_topOf_4 (v := .inl (mI S 91 5)) rfl ?_
        refine zw_push hm_50 dX4_topOf_5 (v := .inl (93 : Int32)) rfl ?_
        refine zw_if2 hm_50 dX4_topOf_7 (t := 19) rfl zc2_ge ?_ ?_
        · intro hc
          rw [if_pos hc] at h
          refine zw_push hm_50 dX4_topOf_19 (v := .inl (0 : Int32)) rfl ?_
          refine zw_iret hm_50 dX4_topOf_20 ?_
          show ma_wp X d w 43 86 [(0, .inr (.inr (some 91))), (1, .inl l1), (2, .inl l2), (3, .inl l3)] [.inl (0 : Int32)] S _
          refine zw_if0 hm_43 dX4_cleanAll_86 (t := 104) rfl zc0_ne (fun hc => absurd hc (by decide)) (fun _ => ?_)
          refine zw_push hm_43 dX4_cleanAll_89 (v := .inr (.inr (some 91))) rfl ?_
          refine zw_push hm_43 dX4_cleanAll_90 (v := .inr (.inr (some 91))) rfl ?_
          refine zw_cv hm_43 dX4_cleanAll_91 v_4_54_4 hm_52 [] [.inr (.inr (some 91))] rfl (zT_rt hS s_91 rfl) ⟨by omega, by omega⟩ rfl (zw_mono h (zi_go ?_ ?_))
          · intro v4 S3 hv
            obtain ⟨hS3, h⟩ := hv
            refine zw_push hm_43 dX4_cleanAll_94 (v := .inr (.inr (some 91))) rfl ?_
            refine zw_gf hm_43 dX4_cleanAll_95 (v := .inl (mI S3 91 5)) (zT_is hS3 s_91) (zT_t hS3 s_91) rfl f_4_34_4 rfl ?_
            refine zw_cs hm_43 dX4_cleanAll_98 pn_4_57 sl_4_57 hm_54 [.inl (mI S3 91 5), .inl v4] [.inr (.inr (some 91))] rfl ⟨by omega, by omega⟩ rfl ?_
            show ma_wp X (d - 1) (w - 21) 54 0 [(0, .inl v4), (1, .inl (mI S3 91 5))] [] S3 _
            refine zw_push hm_54 dX4_orElse_0 (v := .inl v4) rfl ?_
            refine zw_push hm_54 dX4_orElse_1 (v := .inl (-1 : Int32)) rfl ?_
            refine zw_if2 hm_54 dX4_orElse_2 (t := 9) rfl zc2_ne ?_ ?_
            · intro hc
              rw [if_neg hc] at h
              refine zw_push hm_54 dX4_orElse_9 (v := .inl v4) rfl ?_
              refine zw_iret hm_54 dX4_orElse_10 ?_
              show ma_wp X d w 43 101 [(0, .inr (.inr (some 91))), (1, .inl l1), (2, .inl l2), (3, .inl l3)] [.inl v4, .inr (.inr (some 91))] S3 _
              refine zw_pf hm_43 dX4_cleanAll_101 (zT_is hS3 s_91) (zT_t hS3 s_91) p_4_34_4 zk_int ?_
              refine zw_push hm_43 dX4_cleanAll_104 (v := .inl l1) rfl ?_
              exact zw_iret hm_43 dX4_cleanAll_105 h
            · intro hc
              rw [if_pos (Classical.not_not.mp hc)] at h
              refine zw_push hm_54 dX4_orElse_5 (v := .inl (mI S3 91 5)) rfl ?_
              refine zw_goto hm_54 dX4_orElse_6 (t := 10) rfl ?_
              refine zw_iret hm_54 dX4_orElse_10 ?_
              show ma_wp X d w 43 101 [(0, .inr (.inr (some 91))), (1, .inl l1), (2, .inl l2), (3, .inl l3)] [.inl (mI S3 91 5), .inr (.inr (some 91))] S3 _
              refine zw_pf hm_43 dX4_cleanAll_101 (zT_is hS3 s_91) (zT_t hS3 s_91) p_4_34_4 zk_int ?_
              refine zw_push hm_43 dX4_cleanAll_104 (v := .inl l1) rfl ?_
              exact zw_iret hm_43 dX4_cleanAll_105 h
          · intro x S9 hx
            exact ⟨by decide, hx⟩
        · intro hc
          rw [if_neg hc] at h
          refine zw_push hm_50 dX4_topOf_10 (v := .inr (.inr (some 91))) rfl ?_
          refine zw_gf hm_50 dX4_topOf_11 (v := .inr (.inr (some 92))) (zT_is hS s_91) (zT_t hS s_91) rfl f_4_9_4 (zT_f hS r_91_7) ?_
          refine zw_push hm_50 dX4_topOf_14 (v := .inl (mI S 91 5)) rfl ?_
          obtain ⟨hg, h⟩ := h
          refine zw_ia hm_50 dX4_topOf_15 (zT_is hS s_92) (zT_h hS s_92) rfl hg ?_
          show ma_wp X (d - 1) (w - 21) 50 16 [(0, .inr (.inr (some 91))), (1, .inl (mI S 91 5))] [.inl (mI S 92 (mI S 91 5).toNatClampNeg)] S _
          refine zw_goto hm_50 dX4_topOf_16 (t := 20) rfl ?_
          refine zw_iret hm_50 dX4_topOf_20 ?_
          show ma_wp X d w 43 86 [(0, .inr (.inr (some 91))), (1, .inl l1), (2, .inl l2), (3, .inl l3)] [.inl (mI S 92 (mI S 91 5).toNatClampNeg)] S _
          refine zw_if0 hm_43 dX4_cleanAll_86 (t := 104) rfl zc0_ne ?_ ?_
          · intro hc
            rw [if_neg hc] at h
            refine zw_push hm_43 dX4_cleanAll_104 (v := .inl l1) rfl ?_
            exact zw_iret hm_43 dX4_cleanAll_105 h
          · intro hc
            rw [if_pos (Classical.not_not.mp hc)] at h
            refine zw_push hm_43 dX4_cleanAll_89 (v := .inr (.inr (some 91))) rfl ?_
            refine zw_push hm_43 dX4_cleanAll_90 (v := .inr (.inr (some 91))) rfl ?_
            refine zw_cv hm_43 dX4_cleanAll_91 v_4_54_4 hm_52 [] [.inr (.inr (some 91))] rfl (zT_rt hS s_91 rfl) ⟨by omega, by omega⟩ rfl (zw_mono h (zi_go ?_ ?_))
            · intro v6 S5 hv
              obtain ⟨hS5, h⟩ := hv
              refine zw_push hm_43 dX4_cleanAll_94 (v := .inr (.inr (some 91))) rfl ?_
              refine zw_gf hm_43 dX4_cleanAll_95 (v := .inl (mI S5 91 5)) (zT_is hS5 s_91) (zT_t hS5 s_91) rfl f_4_34_4 rfl ?_
              refine zw_cs hm_43 dX4_cleanAll_98 pn_4_57 sl_4_57 hm_54 [.inl (mI S5 91 5), .inl v6] [.inr (.inr (some 91))] rfl ⟨by omega, by omega⟩ rfl ?_
              show ma_wp X (d - 1) (w - 21) 54 0 [(0, .inl v6), (1, .inl (mI S5 91 5))] [] S5 _
              refine zw_push hm_54 dX4_orElse_0 (v := .inl v6) rfl ?_
              refine zw_push hm_54 dX4_orElse_1 (v := .inl (-1 : Int32)) rfl ?_
              refine zw_if2 hm_54 dX4_orElse_2 (t := 9) rfl zc2_ne ?_ ?_
              · intro hc
                rw [if_neg hc] at h
                refine zw_push hm_54 dX4_orElse_9 (v := .inl v6) rfl ?_
                refine zw_iret hm_54 dX4_orElse_10 ?_
                show ma_wp X d w 43 101 [(0, .inr (.inr (some 91))), (1, .inl l1), (2, .inl l2), (3, .inl l3)] [.inl v6, .inr (.inr (some 91))] S5 _
                refine zw_pf hm_43 dX4_cleanAll_101 (zT_is hS5 s_91) (zT_t hS5 s_91) p_4_34_4 zk_int ?_
                refine zw_push hm_43 dX4_cleanAll_104 (v := .inl l1) rfl ?_
                exact zw_iret hm_43 dX4_cleanAll_105 h
              · intro hc
                rw [if_pos (Classical.not_not.mp hc)] at h
                refine zw_push hm_54 dX4_orElse_5 (v := .inl (mI S5 91 5)) rfl ?_
                refine zw_goto hm_54 dX4_orElse_6 (t := 10) rfl ?_
                refine zw_iret hm_54 dX4_orElse_10 ?_
                show ma_wp X d w 43 101 [(0, .inr (.inr (some 91))), (1, .inl l1), (2, .inl l2), (3, .inl l3)] [.inl (mI S5 91 5), .inr (.inr (some 91))] S5 _
                refine zw_pf hm_43 dX4_cleanAll_101 (zT_is hS5 s_91) (zT_t hS5 s_91) p_4_34_4 zk_int ?_
                refine zw_push hm_43 dX4_cleanAll_104 (v := .inl l1) rfl ?_
                exact zw_iret hm_43 dX4_cleanAll_105 h
            · intro x S9 hx
              exact ⟨by decide, hx⟩
    · intro hc
      rw [if_neg hc] at h
      refine zw_push hm_43 dX4_cleanAll_67 (v := .inr (.inr (some 91))) rfl ?_
      refine zw_push hm_43 dX4_cleanAll_68 (v := .inr (.inr (some 91))) rfl ?_
      refine zw_gf hm_43 dX4_cleanAll_69 (v := .inl (mI S 91 6)) (zT_is hS s_91) (zT_t hS s_91) rfl f_4_83_4 rfl ?_
      refine zw_pf hm_43 dX4_cleanAll_72 (zT_is hS s_91) (zT_t hS s_91) p_4_34_4 zk_int ?_
      refine zw_goto hm_43 dX4_cleanAll_75 (t := 104) rfl ?_
      refine zw_push hm_43 dX4_cleanAll_104 (v := .inl l1) rfl ?_
      exact zw_iret hm_43 dX4_cleanAll_105 h
  · intro hc
    rw [if_neg hc] at h
    refine zw_push hm_43 dX4_cleanAll_35 (v := .inl l2) rfl ?_
    refine zw_push hm_43 dX4_cleanAll_36 (v := .inl (-1 : Int32)) rfl ?_
    refine zw_if2 hm_43 dX4_cleanAll_37 (t := 59) rfl zc2_eq ?_ ?_
    · intro hc
      rw [if_pos hc] at h
      refine zw_push hm_43 dX4_cleanAll_59 (v := .inr (.inr (some 91))) rfl ?_
      refine zw_gf hm_43 dX4_cleanAll_60 (v := .inl (mI S 91 6)) (zT_is hS s_91) (zT_t hS s_91) rfl f_4_83_4 rfl ?_
      refine zw_push hm_43 dX4_cleanAll_63 (v := .inl (-1 : Int32)) rfl ?_
      refine zw_if2 hm_43 dX4_cleanAll_64 (t := 78) rfl zc2_eq ?_ ?_
      · intro hc
        rw [if_pos hc] at h
        refine zw_push hm_43 dX4_cleanAll_78 (v := .inr (.inr (some 91))) rfl ?_
        refine zw_push hm_43 dX4_cleanAll_79 (v := .inr (.inr (some 91))) rfl ?_
        refine zw_gf hm_43 dX4_cleanAll_80 (v := .inl (mI S 91 5)) (zT_is hS s_91) (zT_t hS s_91) rfl f_4_34_4 rfl ?_
        refine zw_cv hm_43 dX4_cleanAll_83 v_4_93_4 hm_50 [.inl (mI S 91 5)] [] rfl (zT_rt hS s_91 rfl) ⟨by omega, by omega⟩ rfl ?_
        show ma_wp X (d - 1) (w - 21) 50 0 [(0, .inr (.inr (some 91))), (1, .inl (mI S 91 5))] [] S _
        refine zw_push hm_50 dX4_topOf_0 (v := .inl (mI S 91 5)) rfl ?_
        refine zw_if0 hm_50 dX4_topOf_1 (t := 19) rfl zc0_lt ?_ ?_
        · intro hc
          rw [if_pos hc] at h
          refine zw_push hm_50 dX4_topOf_19 (v := .inl (0 : Int32)) rfl ?_
          refine zw_iret hm_50 dX4_topOf_20 ?_
          show ma_wp X d w 43 86 [(0, .inr (.inr (some 91))), (1, .inl l1), (2, .inl l2), (3, .inl l3)] [.inl (0 : Int32)] S _
          refine zw_if0 hm_43 dX4_cleanAll_86 (t := 104) rfl zc0_ne (fun hc => absurd hc (by decide)) (fun _ => ?_)
          refine zw_push hm_43 dX4_cleanAll_89 (v := .inr (.inr (some 91))) rfl ?_
          refine zw_push hm_43 dX4_cleanAll_90 (v := .inr (.inr (some 91))) rfl ?_
          refine zw_cv hm_43 dX4_cleanAll_91 v_4_54_4 hm_52 [] [.inr (.inr (some 91))] rfl (zT_rt hS s_91 rfl) ⟨by omega, by omega⟩ rfl (zw_mono h (zi_go ?_ ?_))
          · intro v8 S7 hv
            obtain ⟨hS7, h⟩ := hv
            refine zw_push hm_43 dX4_cleanAll_94 (v := .inr (.inr (some 91))) rfl ?_
            refine zw_gf hm_43 dX4_cleanAll_95 (v := .inl (mI S7 91 5)) (zT_is hS7 s_91) (zT_t hS7 s_91) rfl f_4_34_4 rfl ?_
            refine zw_cs hm_43 dX4_cleanAll_98 pn_4_57 sl_4_57 hm_54 [.inl (mI S7 91 5), .inl v8] [.inr (.inr (some 91))] rfl ⟨by omega, by omega⟩ rfl ?_
            show ma_wp X (d - 1) (w - 21) 54 0 [(0, .inl v8), (1, .inl (mI S7 91 5))] [] S7 _
            refine zw_push hm_54 dX4_orElse_0 (v := .inl v8) rfl ?_
            refine zw_push hm_54 dX4_orElse_1 (v := .inl (-1 : Int32)) rfl ?_
            refine zw_if2 hm_54 dX4_orElse_2 (t := 9) rfl zc2_ne ?_ ?_
            · intro hc
              rw [if_neg hc] at h
              refine zw_push hm_54 dX4_orElse_9 (v := .inl v8) rfl ?_
              refine zw_iret hm_54 dX4_orElse_10 ?_
              show ma_wp X d w 43 101 [(0, .inr (.inr (some 91))), (1, .inl l1), (2, .inl l2), (3, .inl l3)] [.inl v8, .inr (.inr (some 91))] S7 _
              refine zw_pf hm_43 dX4_cleanAll_101 (zT_is hS7 s_91) (zT_t hS7 s_91) p_4_34_4 zk_int ?_
              refine zw_push hm_43 dX4_cleanAll_104 (v := .inl l1) rfl ?_
              exact zw_iret hm_43 dX4_cleanAll_105 h
            · intro hc
              rw [if_pos (Classical.not_not.mp hc)] at h
              refine zw_push hm_54 dX4_orElse_5 (v := .inl (mI S7 91 5)) rfl ?_
              refine zw_goto hm_54 dX4_orElse_6 (t := 10) rfl ?_
              refine zw_iret hm_54 dX4_orElse_10 ?_
              show ma_wp X d w 43 101 [(0, .inr (.inr (some 91))), (1, .inl l1), (2, .inl l2), (3, .inl l3)] [.inl (mI S7 91 5), .inr (.inr (some 91))] S7 _
              refine zw_pf hm_43 dX4_cleanAll_101 (zT_is hS7 s_91) (zT_t hS7 s_91) p_4_34_4 zk_int ?_
              refine zw_push hm_43 dX4_cleanAll_104 (v := .inl l1) rfl ?_
              exact zw_iret hm_43 dX4_cleanAll_105 h
          · intro x S9 hx
            exact ⟨by decide, hx⟩
        · intro hc
          rw [if_neg hc] at h
          refine zw_push hm_50 dX4_topOf_4 (v := .inl (mI S 91 5)) rfl ?_
          refine zw_push hm_50 dX4_topOf_5 (v := .inl (93 : Int32)) rfl ?_
          refine zw_if2 hm_50 dX4_topOf_7 (t := 19) rfl zc2_ge ?_ ?_
          · intro hc
            rw [if_pos hc] at h
            refine zw_push hm_50 dX4_topOf_19 (v := .inl (0 : Int32)) rfl ?_
            refine zw_iret hm_50 dX4_topOf_20 ?_
            show ma_wp X d w 43 86 [(0, .inr (.inr (some 91))), (1, .inl l1), (2, .inl l2), (3, .inl l3)] [.inl (0 : Int32)] S _
            refine zw_if0 hm_43 dX4_cleanAll_86 (t := 104) rfl zc0_ne (fun hc => absurd hc (by decide)) (fun _ => ?_)
            refine zw_push hm_43 dX4_cleanAll_89 (v := .inr (.inr (some 91))) rfl ?_
            refine zw_push hm_43 dX4_cleanAll_90 (v := .inr (.inr (some 91))) rfl ?_
            refine zw_cv hm_43 dX4_cleanAll_91 v_4_54_4 hm_52 [] [.inr (.inr (some 91))] rfl (zT_rt hS s_91 rfl) ⟨by omega, by omega⟩ rfl (zw_mono h (zi_go ?_ ?_))
            · intro v10 S9 hv
              obtain ⟨hS9, h⟩ := hv
              refine zw_push hm_43 dX4_cleanAll_94 (v := .inr (.inr (some 91))) rfl ?_
              refine zw_gf hm_43 dX4_cleanAll_95 (v := .inl (mI S9 91 5)) (zT_is hS9 s_91) (zT_t hS9 s_91) rfl f_4_34_4 rfl ?_
              refine zw_cs hm_43 dX4_cleanAll_98 pn_4_57 sl_4_57 hm_54 [.inl (mI S9 91 5), .inl v10] [.inr (.inr (some 91))] rfl ⟨by omega, by omega⟩ rfl ?_
              show ma_wp X (d - 1) (w - 21) 54 0 [(0, .inl v10), (1, .inl (mI S9 91 5))] [] S9 _
              refine zw_push hm_54 dX4_orElse_0 (v := .inl v10) rfl ?_
              refine zw_push hm_54 dX4_orElse_1 (v := .inl (-1 : Int32)) rfl ?_
              refine zw_if2 hm_54 dX4_orElse_2 (t := 9) rfl zc2_ne ?_ ?_
              · intro hc
                rw [if_neg hc] at h
                refine zw_push hm_54 dX4_orElse_9 (v := .inl v10) rfl ?_
                refine zw_iret hm_54 dX4_orElse_10 ?_
                show ma_wp X d w 43 101 [(0, .inr (.inr (some 91))), (1, .inl l1), (2, .inl l2), (3, .inl l3)] [.inl v10, .inr (.inr (some 91))] S9 _
                refine zw_pf hm_43 dX4_cleanAll_101 (zT_is hS9 s_91) (zT_t hS9 s_91) p_4_34_4 zk_int ?_
                refine zw_push hm_43 dX4_cleanAll_104 (v := .inl l1) rfl ?_
                exact zw_iret hm_43 dX4_cleanAll_105 h
              · intro hc
                rw [if_pos (Classical.not_not.mp hc)] at h
                refine zw_push hm_54 dX4_orElse_5 (v := .inl (mI S9 91 5)) rfl ?_
                refine zw_goto hm_54 dX4_orElse_6 (t := 10) rfl ?_
                refine zw_iret hm_54 dX4_orElse_10 ?_
                show ma_wp X d w 43 101 [(0, .inr (.inr (some 91))), (1, .inl l1), (2, .inl l2), (3, .inl l3)] [.inl (mI S9 91 5), .inr (.inr (some 91))] S9 _
                refine zw_pf hm_43 dX4_cleanAll_101 (zT_is hS9 s_91) (zT_t hS9 s_91) p_4_34_4 zk_int ?_
                refine zw_push hm_43 dX4_cleanAll_104 (v := .inl l1) rfl ?_
                exact zw_iret hm_43 dX4_cleanAll_105 h
            · intro x S9 hx
              exact ⟨by decide, hx⟩
          · intro hc
            rw [if_neg hc] at h
            refine zw_push hm_50 dX4_topOf_10 (v := .inr (.inr (some 91))) rfl ?_
            refine zw_gf hm_50 dX4_topOf_11 (v := .inr (.inr (some 92))) (zT_is hS s_91) (zT_t hS s_91) rfl f_4_9_4 (zT_f hS r_91_7) ?_
            refine zw_push hm_50 dX4_topOf_14 (v := .inl (mI S 91 5)) rfl ?_
            obtain ⟨hg, h⟩ := h
            refine zw_ia hm_50 dX4_topOf_15 (zT_is hS s_92) (zT_h hS s_92) rfl hg ?_
            show ma_wp X (d - 1) (w - 21) 50 16 [(0, .inr (.inr (some 91))), (1, .inl (mI S 91 5))] [.inl (mI S 92 (mI S 91 5).toNatClampNeg)] S _
            refine zw_goto hm_50 dX4_topOf_16 (t := 20) rfl ?_
            refine zw_iret hm_50 dX4_topOf_20 ?_
            show ma_wp X d w 43 86 [(0, .inr (.inr (some 91))), (1, .inl l1), (2, .inl l2), (3, .inl l3)] [.inl (mI S 92 (mI S 91 5).toNatClampNeg)] S _
            refine zw_if0 hm_43 dX4_cleanAll_86 (t := 104) rfl zc0_ne ?_ ?_
            · intro hc
              rw [if_neg hc] at h
              refine zw_push hm_43 dX4_cleanAll_104 (v := .inl l1) rfl ?_
              exact zw_iret hm_43 dX4_cleanAll_105 h
            · intro hc
              rw [if_pos (Classical.not_not.mp hc)] at h
              refine zw_push hm_43 dX4_cleanAll_89 (v := .inr (.inr (some 91))) rfl ?_
              refine zw_push hm_43 dX4_cleanAll_90 (v := .inr (.inr (some 91))) rfl ?_
              refine zw_cv hm_43 dX4_cleanAll_91 v_4_54_4 hm_52 [] [.inr (.inr (some 91))] rfl (zT_rt hS s_91 rfl) ⟨by omega, by omega⟩ rfl (zw_mono h (zi_go ?_ ?_))
              · intro v12 S11 hv
                obtain ⟨hS11, h⟩ := hv
                refine zw_push hm_43 dX4_cleanAll_94 (v := .inr (.inr (some 91))) rfl ?_
                refine zw_gf hm_43 dX4_cleanAll_95 (v := .inl (mI S11 91 5)) (zT_is hS11 s_91) (zT_t hS11 s_91) rfl f_4_34_4 rfl ?_
                refine zw_cs hm_43 dX4_cleanAll_98 pn_4_57 sl_4_57 hm_54 [.inl (mI S11 91 5), .inl v12] [.inr (.inr (some 91))] rfl ⟨by omega, by omega⟩ rfl ?_
                show ma_wp X (d - 1) (w - 21) 54 0 [(0, .inl v12), (1, .inl (mI S11 91 5))] [] S11 _
                refine zw_push hm_54 dX4_orElse_0 (v := .inl v12) rfl ?_
                refine zw_push hm_54 dX4_orElse_1 (v := .inl (-1 : Int32)) rfl ?_
                refine zw_if2 hm_54 dX4_orElse_2 (t := 9) rfl zc2_ne ?_ ?_
                · intro hc
                  rw [if_neg hc] at h
                  refine zw_push hm_54 dX4_orElse_9 (v := .inl v12) rfl ?_
                  refine zw_iret hm_54 dX4_orElse_10 ?_
                  show ma_wp X d w 43 101 [(0, .inr (.inr (some 91))), (1, .inl l1), (2, .inl l2), (3, .inl l3)] [.inl v12, .inr (.inr (some 91))] S11 _
                  refine zw_pf hm_43 dX4_cleanAll_101 (zT_is hS11 s_91) (zT_t hS11 s_91) p_4_34_4 zk_int ?_
                  refine zw_push hm_43 dX4_cleanAll_104 (v := .inl l1) rfl ?_
                  exact zw_iret hm_43 dX4_cleanAll_105 h
                · intro hc
                  rw [if_pos (Classical.not_not.mp hc)] at h
                  refine zw_push hm_54 dX4_orElse_5 (v := .inl (mI S11 91 5)) rfl ?_
                  refine zw_goto hm_54 dX4_orElse_6 (t := 10) rfl ?_
                  refine zw_iret hm_54 dX4_orElse_10 ?_
                  show ma_wp X d w 43 101 [(0, .inr (.inr (some 91))), (1, .inl l1), (2, .inl l2), (3, .inl l3)] [.inl (mI S11 91 5), .inr (.inr (some 91))] S11 _
                  refine zw_pf hm_43 dX4_cleanAll_101 (zT_is hS11 s_91) (zT_t hS11 s_91) p_4_34_4 zk_int ?_
                  refine zw_push hm_43 dX4_cleanAll_104 (v := .inl l1) rfl ?_
                  exact zw_iret hm_43 dX4_cleanAll_105 h
              · intro x S9 hx
                exact ⟨by decide, hx⟩
      · intro hc
        rw [if_neg hc] at h
        refine zw_push hm_43 dX4_cleanAll_67 (v := .inr (.inr (some 91))) rfl ?_
        refine zw_push hm_43 dX4_cleanAll_68 (v := .inr (.inr (some 91))) rfl ?_
        refine zw_gf hm_43 dX4_cleanAll_69 (v := .inl (mI S 91 6)) (zT_is hS s_91) (zT_t hS s_91) rfl f_4_83_4 rfl ?_
        refine zw_pf hm_43 dX4_cleanAll_72 (zT_is hS s_91) (zT_t hS s_91) p_4_34_4 zk_int ?_
        refine zw_goto hm_43 dX4_cleanAll_75 (t := 104) rfl ?_
        refine zw_push hm_43 dX4_cleanAll_104 (v := .inl l1) rfl ?_
        exact zw_iret hm_43 dX4_cleanAll_105 h
    · intro hc
      rw [if_neg hc] at h
      refine zw_push hm_43 dX4_cleanAll_40 (v := .inr (.inr (some 91))) rfl ?_
      refine zw_push hm_43 dX4_cleanAll_41 (v := .inl l2) rfl ?_
      refine zw_cv hm_43 dX4_cleanAll_42 v_4_89_4 hm_49 [.inl l2] [] rfl (zT_rt hS s_91 rfl) ⟨by omega, by omega⟩ rfl (zw_mono h (zi_go ?_ ?_))
      · intro v14 S13 hv
        obtain ⟨hS13, h⟩ := hv
        refine zw_if0 hm_43 dX4_cleanAll_45 (t := 59) rfl zc0_eq ?_ ?_
        · intro hc
          rw [if_pos hc] at h
          refine zw_push hm_43 dX4_cleanAll_59 (v := .inr (.inr (some 91))) rfl ?_
          refine zw_gf hm_43 dX4_cleanAll_60 (v := .inl (mI S13 91 6)) (zT_is hS13 s_91) (zT_t hS13 s_91) rfl f_4_83_4 rfl ?_
          refine zw_push hm_43 dX4_cleanAll_63 (v := .inl (-1 : Int32)) rfl ?_
          refine zw_if2 hm_43 dX4_cleanAll_64 (t := 78) rfl zc2_eq ?_ ?_
          · intro hc
            rw [if_pos hc] at h
            refine zw_push hm_43 dX4_cleanAll_78 (v := .inr (.inr (some 91))) rfl ?_
            refine zw_push hm_43 dX4_cleanAll_79 (v := .inr (.inr (some 91))) rfl ?_
            refine zw_gf hm_43 dX4_cleanAll_80 (v := .inl (mI S13 91 5)) (zT_is hS13 s_91) (zT_t hS13 s_91) rfl f_4_34_4 rfl ?_
            refine zw_cv hm_43 dX4_cleanAll_83 v_4_93_4 hm_50 [.inl (mI S13 91 5)] [] rfl (zT_rt hS13 s_91 rfl) ⟨by omega, by omega⟩ rfl ?_
            show ma_wp X (d - 1) (w - 21) 50 0 [(0, .inr (.inr (some 91))), (1, .inl (mI S13 91 5))] [] S13 _
            refine zw_push hm_50 dX4_topOf_0 (v := .inl (mI S13 91 5)) rfl ?_
            refine zw_if0 hm_50 dX4_topOf_1 (t := 19) rfl zc0_lt ?_ ?_
            · intro hc
              rw [if_pos hc] at h
              refine zw_push hm_50 dX4_topOf_19 (v := .inl (0 : Int32)) rfl ?_
              refine zw_iret hm_50 dX4_topOf_20 ?_
              show ma_wp X d w 43 86 [(0, .inr (.inr (some 91))), (1, .inl l1), (2, .inl l2), (3, .inl l3)] [.inl (0 : Int32)] S13 _
              refine zw_if0 hm_43 dX4_cleanAll_86 (t := 104) rfl zc0_ne (fun hc => absurd hc (by decide)) (fun _ => ?_)
              refine zw_push hm_43 dX4_cleanAll_89 (v := .inr (.inr (some 91))) rfl ?_
              refine zw_push hm_43 dX4_cleanAll_90 (v := .inr (.inr (some 91))) rfl ?_
              refine zw_cv hm_43 dX4_cleanAll_91 v_4_54_4 hm_52 [] [.inr (.inr (some 91))] rfl (zT_rt hS13 s_91 rfl) ⟨by omega, by omega⟩ rfl (zw_mono h (zi_go ?_ ?_))
              · intro v16 S15 hv
                obtain ⟨hS15, h⟩ := hv
                refine zw_push hm_43 dX4_cleanAll_94 (v := .inr (.inr (some 91))) rfl ?_
                refine zw_gf hm_43 dX4_cleanAll_95 (v := .inl (mI S15 91 5)) (zT_is hS15 s_91) (zT_t hS15 s_91) rfl f_4_34_4 rfl ?_
                refine zw_cs hm_43 dX4_cleanAll_98 pn_4_57 sl_4_57 hm_54 [.inl (mI S15 91 5), .inl v16] [.inr (.inr (some 91))] rfl ⟨by omega, by omega⟩ rfl ?_
                show ma_wp X (d - 1) (w - 21) 54 0 [(0, .inl v16), (1, .inl (mI S15 91 5))] [] S15 _
                refine zw_push hm_54 dX4_orElse_0 (v := .inl v16) rfl ?_
                refine zw_push hm_54 dX4_orElse_1 (v := .inl (-1 : Int32)) rfl ?_
                refine zw_if2 hm_54 dX4_orElse_2 (t := 9) rfl zc2_ne ?_ ?_
                · intro hc
                  rw [if_neg hc] at h
                  refine zw_push hm_54 dX4_orElse_9 (v := .inl v16) rfl ?_
                  refine zw_iret hm_54 dX4_orElse_10 ?_
                  show ma_wp X d w 43 101 [(0, .inr (.inr (some 91))), (1, .inl l1), (2, .inl l2), (3, .inl l3)] [.inl v16, .inr (.inr (some 91))] S15 _
                  refine zw_pf hm_43 dX4_cleanAll_101 (zT_is hS15 s_91) (zT_t hS15 s_91) p_4_34_4 zk_int ?_
                  refine zw_push hm_43 dX4_cleanAll_104 (v := .inl l1) rfl ?_
                  exact zw_iret hm_43 dX4_cleanAll_105 h
                · intro hc
                  rw [if_pos (Classical.not_not.mp hc)] at h
                  refine zw_push hm_54 dX4_orElse_5 (v := .inl (mI S15 91 5)) rfl ?_
                  refine zw_goto hm_54 dX4_orElse_6 (t := 10) rfl ?_
                  refine zw_iret hm_54 dX4_orElse_10 ?_
                  show ma_wp X d w 43 101 [(0, .inr (.inr (some 91))), (1, .inl l1), (2, .inl l2), (3, .inl l3)] [.inl (mI S15 91 5), .inr (.inr (some 91))] S15 _
                  refine zw_pf hm_43 dX4_cleanAll_101 (zT_is hS15 s_91) (zT_t hS15 s_91) p_4_34_4 zk_int ?_
                  refine zw_push hm_43 dX4_cleanAll_104 (v := .inl l1) rfl ?_
                  exact zw_iret hm_43 dX4_cleanAll_105 h
              · intro x S9 hx
                exact ⟨by decide, hx⟩
            · intro hc
              rw [if_neg hc] at h
              refine zw_push hm_50 dX4_topOf_4 (v := .inl (mI S13 91 5)) rfl ?_
              refine zw_push hm_50 dX4_topOf_5 (v := .inl (93 : Int32)) rfl ?_
              refine zw_if2 hm_50 dX4_topOf_7 (t := 19) rfl zc2_ge ?_ ?_
              · intro hc
                rw [if_pos hc] at h
                refine zw_push hm_50 dX4_topOf_19 (v := .inl (0 : Int32)) rfl ?_
                refine zw_iret hm_50 dX4_topOf_20 ?_
                show ma_wp X d w 43 86 [(0, .inr (.inr (some 91))), (1, .inl l1), (2, .inl l2), (3, .inl l3)] [.inl (0 : Int32)] S13 _
                refine zw_if0 hm_43 dX4_cleanAll_86 (t := 104) rfl zc0_ne (fun hc => absurd hc (by decide)) (fun _ => ?_)
                refine zw_push hm_43 dX4_cleanAll_89 (v := .inr (.inr (some 91))) rfl ?_
                refine zw_push hm_43 dX4_cleanAll_90 (v := .inr (.inr (some 91))) rfl ?_
                refine zw_cv hm_43 dX4_cleanAll_91 v_4_54_4 hm_52 [] [.inr (.inr (some 91))] rfl (zT_rt hS13 s_91 rfl) ⟨by omega, by omega⟩ rfl (zw_mono h (zi_go ?_ ?_))
                · intro v18 S17 hv
                  obtain ⟨hS17, h⟩ := hv
                  refine zw_push hm_43 dX4_cleanAll_94 (v := .inr (.inr (some 91))) rfl ?_
                  refine zw_gf hm_43 dX4_cleanAll_95 (v := .inl (mI S17 91 5)) (zT_is hS17 s_91) (zT_t hS17 s_91) rfl f_4_34_4 rfl ?_
                  refine zw_cs hm_43 dX4_cleanAll_98 pn_4_57 sl_4_57 hm_54 [.inl (mI S17 91 5), .inl v18] [.inr (.inr (some 91))] rfl ⟨by omega, by omega⟩ rfl ?_
                  show ma_wp X (d - 1) (w - 21) 54 0 [(0, .inl v18), (1, .inl (mI S17 91 5))] [] S17 _
                  refine zw_push hm_54 dX4_orElse_0 (v := .inl v18) rfl ?_
                  refine zw_push hm_54 dX4_orElse_1 (v := .inl (-1 : Int32)) rfl ?_
                  refine zw_if2 hm_54 dX4_orElse_2 (t := 9) rfl zc2_ne ?_ ?_
                  · intro hc
                    rw [if_neg hc] at h
                    refine zw_push hm_54 dX4_orElse_9 (v := .inl v18) rfl ?_
                    refine zw_iret hm_54 dX4_orElse_10 ?_
                    show ma_wp X d w 43 101 [(0, .inr (.inr (some 91))), (1, .inl l1), (2, .inl l2), (3, .inl l3)] [.inl v18, .inr (.inr (some 91))] S17 _
                    refine zw_pf hm_43 dX4_cleanAll_101 (zT_is hS17 s_91) (zT_t hS17 s_91) p_4_34_4 zk_int ?_
                    refine zw_push hm_43 dX4_cleanAll_104 (v := .inl l1) rfl ?_
                    exact zw_iret hm_43 dX4_cleanAll_105 h
                  · intro hc
                    rw [if_pos (Classical.not_not.mp hc)] at h
                    refine zw_push hm_54 dX4_orElse_5 (v := .inl (mI S17 91 5)) rfl ?_
                    refine zw_goto hm_54 dX4_orElse_6 (t := 10) rfl ?_
                    refine zw_iret hm_54 dX4_orElse_10 ?_
                    show ma_wp X d w 43 101 [(0, .inr (.inr (some 91))), (1, .inl l1), (2, .inl l2), (3, .inl l3)] [.inl (mI S17 91 5), .inr (.inr (some 91))] S17 _
                    refine zw_pf hm_43 dX4_cleanAll_101 (zT_is hS17 s_91) (zT_t hS17 s_91) p_4_34_4 zk_int ?_
                    refine zw_push hm_43 dX4_cleanAll_104 (v := .inl l1) rfl ?_
                    exact zw_iret hm_43 dX4_cleanAll_105 h
                · intro x S9 hx
                  exact ⟨by decide, hx⟩
              · intro hc
                rw [if_neg hc] at h
                refine zw_push hm_50 dX4_topOf_10 (v := .inr (.inr (some 91))) rfl ?_
                refine zw_gf hm_50 dX4_topOf_11 (v := .inr (.inr (some 92))) (zT_is hS13 s_91) (zT_t hS13 s_91) rfl f_4_9_4 (zT_f hS13 r_91_7) ?_
                refine zw_push hm_50 dX4_topOf_14 (v := .inl (mI S13 91 5)) rfl ?_
                obtain ⟨hg, h⟩ := h
                refine zw_ia hm_50 dX4_topOf_15 (zT_is hS13 s_92) (zT_h hS13 s_92) rfl hg ?_
                show ma_wp X (d - 1) (w - 21) 50 16 [(0, .inr (.inr (some 91))), (1, .inl (mI S13 91 5))] [.inl (mI S13 92 (mI S13 91 5).toNatClampNeg)] S13 _
                refine zw_goto hm_50 dX4_topOf_16 (t := 20) rfl ?_
                refine zw_iret hm_50 dX4_topOf_20 ?_
                show ma_wp X d w 43 86 [(0, .inr (.inr (some 91))), (1, .inl l1), (2, .inl l2), (3, .inl l3)] [.inl (mI S13 92 (mI S13 91 5).toNatClampNeg)] S13 _
                refine zw_if0 hm_43 dX4_cleanAll_86 (t := 104) rfl zc0_ne ?_ ?_
                · intro hc
                  rw [if_neg hc] at h
                  refine zw_push hm_43 dX4_cleanAll_104 (v := .inl l1) rfl ?_
                  exact zw_iret hm_43 dX4_cleanAll_105 h
                · intro hc
                  rw [if_pos (Classical.not_not.mp hc)] at h
                  refine zw_push hm_43 dX4_cleanAll_89 (v := .inr (.inr (some 91))) rfl ?_
                  refine zw_push hm_43 dX4_cleanAll_90 (v := .inr (.inr (some 91))) rfl ?_
                  refine zw_cv hm_43 dX4_cleanAll_91 v_4_54_4 hm_52 [] [.inr (.inr (some 91))] rfl (zT_rt hS13 s_91 rfl) ⟨by omega, by omega⟩ rfl (zw_mono h (zi_go ?_ ?_))
                  · intro v20 S19 hv
                    obtain ⟨hS19, h⟩ := hv
                    refine zw_push hm_43 dX4_cleanAll_94 (v := .inr (.inr (some 91))) rfl ?_
                    refine zw_gf hm_43 dX4_cleanAll_95 (v := .inl (mI S19 91 5)) (zT_is hS19 s_91) (zT_t hS19 s_91) rfl f_4_34_4 rfl ?_
                    refine zw_cs hm_43 dX4_cleanAll_98 pn_4_57 sl_4_57 hm_54 [.inl (mI S19 91 5), .inl v20] [.inr (.inr (some 91))] rfl ⟨by omega, by omega⟩ rfl ?_
                    show ma_wp X (d - 1) (w - 21) 54 0 [(0, .inl v20), (1, .inl (mI S19 91 5))] [] S19 _
                    refine zw_push hm_54 dX4_orElse_0 (v := .inl v20) rfl ?_
                    refine zw_push hm_54 dX4_orElse_1 (v := .inl (-1 : Int32)) rfl ?_
                    refine zw_if2 hm_54 dX4_orElse_2 (t := 9) rfl zc2_ne ?_ ?_
                    · intro hc
                      rw [if_neg hc] at h
                      refine zw_push hm_54 dX4_orElse_9 (v := .inl v20) rfl ?_
                      refine zw_iret hm_54 dX4_orElse_10 ?_
                      show ma_wp X d w 43 101 [(0, .inr (.inr (some 91))), (1, .inl l1), (2, .inl l2), (3, .inl l3)] [.inl v20, .inr (.inr (some 91))] S19 _
                      refine zw_pf hm_43 dX4_cleanAll_101 (zT_is hS19 s_91) (zT_t hS19 s_91) p_4_34_4 zk_int ?_
                      refine zw_push hm_43 dX4_cleanAll_104 (v := .inl l1) rfl ?_
                      exact zw_iret hm_43 dX4_cleanAll_105 h
                    · intro hc
                      rw [if_pos (Classical.not_not.mp hc)] at h
                      refine zw_push hm_54 dX4_orElse_5 (v := .inl (mI S19 91 5)) rfl ?_
                      refine zw_goto hm_54 dX4_orElse_6 (t := 10) rfl ?_
                      refine zw_iret hm_54 dX4_orElse_10 ?_
                      show ma_wp X d w 43 101 [(0, .inr (.inr (some 91))), (1, .inl l1), (2, .inl l2), (3, .inl l3)] [.inl (mI S19 91 5), .inr (.inr (some 91))] S19 _
                      refine zw_pf hm_43 dX4_cleanAll_101 (zT_is hS19 s_91) (zT_t hS19 s_91) p_4_34_4 zk_int ?_
                      refine zw_push hm_43 dX4_cleanAll_104 (v := .inl l1) rfl ?_
                      exact zw_iret hm_43 dX4_cleanAll_105 h
                  · intro x S9 hx
                    exact ⟨by decide, hx⟩
          · intro hc
            rw [if_neg hc] at h
            refine zw_push hm_43 dX4_cleanAll_67 (v := .inr (.inr (some 91))) rfl ?_
            refine zw_push hm_43 dX4_cleanAll_68 (v := .inr (.inr (some 91))) rfl ?_
            refine zw_gf hm_43 dX4_cleanAll_69 (v := .inl (mI S13 91 6)) (zT_is hS13 s_91) (zT_t hS13 s_91) rfl f_4_83_4 rfl ?_
            refine zw_pf hm_43 dX4_cleanAll_72 (zT_is hS13 s_91) (zT_t hS13 s_91) p_4_34_4 zk_int ?_
            refine zw_goto hm_43 dX4_cleanAll_75 (t := 104) rfl ?_
            refine zw_push hm_43 dX4_cleanAll_104 (v := .inl l1) rfl ?_
            exact zw_iret hm_43 dX4_cleanAll_105 h
        · intro hc
          rw [if_neg hc] at h
          refine zw_push hm_43 dX4_cleanAll_48 (v := .inr (.inr (some 91))) rfl ?_
          refine zw_cv hm_43 dX4_cleanAll_49 v_4_86_4 hm_48 [] [] rfl (zT_rt hS13 s_91 rfl) ⟨by omega, by omega⟩ rfl (zw_mono h (zi_go ?_ ?_))
          · intro v22 S21 hv
            obtain ⟨hS21, h⟩ := hv
            refine zw_sto hm_43 dX4_cleanAll_52 [(2, .inl v22), (0, .inr (.inr (some 91))), (1, .inl l1), (3, .inl l3)] rfl rfl rfl ?_
            refine zw_sto hm_43 dX4_cleanAll_53 [(3, .inl (l3 + (1 : Int32))), (2, .inl v22), (0, .inr (.inr (some 91))), (1, .inl l1)] rfl rfl rfl ?_
            refine zw_goto hm_43 dX4_cleanAll_56 (t := 29) rfl ?_
            exact zw_sub (ma_nd_of (ks := [0, 1, 2, 3]) rfl (by decide)) (ma_nd_of (ks := [3, 2, 0, 1]) rfl (by decide)) (ma_le_cons rfl (ma_le_cons rfl (ma_le_cons rfl (ma_le_cons rfl (ma_le_nil _))))) h
          · intro x S9 hx
            exact ⟨by decide, hx⟩
      · intro x S9 hx
        exact ⟨by decide, hx⟩
theorem lp_43_91_29 {X : Nat × (Nat → Int32)} {d w : Nat} {f : Nat → Nat → Int32} {r : Nat → Nat → Option Nat} {C Z N : Nat} {Q : Option ma_V ⊕ Nat → ma_S → Prop} (hd : 4 ≤ d) (hw : 160 ≤ w) (K : ∀ v S', zL91 f r C Z N S' → (True) → Q (.inl (some (.inl v))) S') : ∀ (n : Nat) (S : ma_S) (l1 : Int32) (l2 : Int32) (l3 : Int32), (93 - l3.toInt).toNat = n → zL91 f r C Z N S → (0 ≤ l3.toInt) → (-1 ≤ l2.toInt) → (l2.toInt ≤ 92) → ma_wp X d w 43 29 [(0, .inr (.inr (some 91))), (1, .inl l1), (2, .inl l2), (3, .inl l3)] [] S Q := by
  intro n
  induction n using Nat.strongRecOn with
  | _ n IH =>
    intro S l1 l2 l3 hmu hI  hi0 hi1 hi2
    refine g_43_91_29 l1 l2 l3 (by omega) (by omega) (zG_T hI) ?_
    have li1 : (93 : Int32).toInt = 93 := rfl
    have b2 := i_bd l3
    refine zd (fun h3 => ?_) (fun h3 => ?_)
    · skip
      have g4 := i_le h3
      have f5 := zG_s hI (-1) (92) (c := 91) (k := 6) (by decide)
      have li6 : (-1 : Int32).toInt = -1 := rfl
      refine zd (fun h7 => ?_) (fun h7 => ?_)
      · skip
        have g8 := i_eq h7
        have f9 := zG_s hI (0) (92) (c := 91) (k := 5) (by decide)
        have li10 : (0 : Int32).toInt = 0 := rfl
        refine zd (fun h11 => ?_) (fun h11 => ?_)
        · skip
          have g12 := i_lt h11
          refine sp_52_91  (by omega) (by omega) hI  (fun v2 S1 hI_S1 hp_v2 => zi_n ⟨zG_T hI_S1, ?_⟩)
          have b13 := i_bd v2
          refine zd (fun h14 => ?_) (fun h14 => ?_)
          · skip
            have g15 := i_eq h14
            have f17 := zG_s hI_S1 (0) (92) (c := 91) (k := 5) (by decide)
            have hI16 : zL91 f r C Z N (ma_put S1 91 5 (.inl (mI S1 91 5))) := zG_sp hI_S1 (0) (92) rfl (by decide) (by decide) (by decide) trivial (by omega) (by omega)
            have b18 := i_bd l1
            exact K (l1) _ hI16 trivial
          · skip
            have g19 := i_ne h14
            have hI20 : zL91 f r C Z N (ma_put S1 91 5 (.inl v2)) := zG_sp hI_S1 (0) (92) rfl (by decide) (by decide) (by decide) trivial (by omega) (by omega)
            have b21 := i_bd l1
            exact K (l1) _ hI20 trivial
        · skip
          have g22 := i_nlt h11
          refine zd (fun h23 => ?_) (fun h23 => ?_)
          · skip
            have g24 := i_le h23
            refine sp_52_91  (by omega) (by omega) hI  (fun v4 S3 hI_S3 hp_v4 => zi_n ⟨zG_T hI_S3, ?_⟩)
            have b25 := i_bd v4
            refine zd (fun h26 => ?_) (fun h26 => ?_)
            · skip
              have g27 := i_eq h26
              have f29 := zG_s hI_S3 (0) (92) (c := 91) (k := 5) (by decide)
              have hI28 : zL91 f r C Z N (ma_put S3 91 5 (.inl (mI S3 91 5))) := zG_sp hI_S3 (0) (92) rfl (by decide) (by decide) (by decide) trivial (by omega) (by omega)
              have b30 := i_bd l1
              exact K (l1) _ hI28 trivial
            · skip
              have g31 := i_ne h26
              have hI32 : zL91 f r C Z N (ma_put S3 91 5 (.inl v4)) := zG_sp hI_S3 (0) (92) rfl (by decide) (by decide) (by decide) trivial (by omega) (by omega)
              have b33 := i_bd l1
              exact K (l1) _ hI32 trivial
          · skip
            have g34 := i_nle h23
            refine ⟨i_ix (by omega) (by omega), ?_⟩
            first | have f35 := zG_a hI 93 (0) (3000) (c := 92) (k := (mI S 91 5).toNatClampNeg) (by decide) (i_ix (n := 93) (by omega) (by omega)).2 | have b36 := i_bd (mI S 92 (mI S 91 5).toNatClampNeg)
            refine zd (fun h37 => ?_) (fun h37 => ?_)
            · skip
              have g38 := i_eq h37
              refine sp_52_91  (by omega) (by omega) hI  (fun v6 S5 hI_S5 hp_v6 => zi_n ⟨zG_T hI_S5, ?_⟩)
              have b39 := i_bd v6
              refine zd (fun h40 => ?_) (fun h40 => ?_)
              · skip
                have g41 := i_eq h40
                have f43 := zG_s hI_S5 (0) (92) (c := 91) (k := 5) (by decide)
                have hI42 : zL91 f r C Z N (ma_put S5 91 5 (.inl (mI S5 91 5))) := zG_sp hI_S5 (0) (92) rfl (by decide) (by decide) (by decide) trivial (by omega) (by omega)
                have b44 := i_bd l1
                exact K (l1) _ hI42 trivial
              · skip
                have g45 := i_ne h40
                have hI46 : zL91 f r C Z N (ma_put S5 91 5 (.inl v6)) := zG_sp hI_S5 (0) (92) rfl (by decide) (by decide) (by decide) trivial (by omega) (by omega)
                have b47 := i_bd l1
                exact K (l1) _ hI46 trivial
            · skip
              have g48 := i_ne h37
              have b49 := i_bd l1
              exact K (l1) _ hI trivial
      · skip
        have g50 := i_ne h7
        have hI51 : zL91 f r C Z N (ma_put S 91 5 (.inl (mI S 91 6))) := zG_sp hI (0) (92) rfl (by decide) (by decide) (by decide) trivial (by omega) (by omega)
        have b52 := i_bd l1
        exact K (l1) _ hI51 trivial
    · skip
      have g53 := i_nle h3
      have b54 := i_bd l2
      have li55 : (-1 : Int32).toInt = -1 := rfl
      refine zd (fun h56 => ?_) (fun h56 => ?_)
      · skip
        have g57 := i_eq h56
        have f58 := zG_s hI (-1) (92) (c := 91) (k := 6) (by decide)
        refine zd (fun h59 => ?_) (fun h59 => ?_)
        · skip
          have g60 := i_eq h59
          have f61 := zG_s hI (0) (92) (c := 91) (k := 5) (by decide)
          have li62 : (0 : Int32).toInt = 0 := rfl
          refine zd (fun h63 => ?_) (fun h63 => ?_)
          · skip
            have g64 := i_lt h63
            refine sp_52_91  (by omega) (by omega) hI  (fun v8 S7 hI_S7 hp_v8 => zi_n ⟨zG_T hI_S7, ?_⟩)
            have b65 := i_bd v8
            refine zd (fun h66 => ?_) (fun h66 => ?_)
            · skip
              have g67 := i_eq h66
              have f69 := zG_s hI_S7 (0) (92) (c := 91) (k := 5) (by decide)
              have hI68 : zL91 f r C Z N (ma_put S7 91 5 (.inl (mI S7 91 5))) := zG_sp hI_S7 (0) (92) rfl (by decide) (by decide) (by decide) trivial (by omega) (by omega)
              have b70 := i_bd l1
              exact K (l1) _ hI68 trivial
            · skip
              have g71 := i_ne h66
              have hI72 : zL91 f r C Z N (ma_put S7 91 5 (.inl v8)) := zG_sp hI_S7 (0) (92) rfl (by decide) (by decide) (by decide) trivial (by omega) (by omega)
              have b73 := i_bd l1
              exact K (l1) _ hI72 trivial
          · skip
            have g74 := i_nlt h63
            refine zd (fun h75 => ?_) (fun h75 => ?_)
            · skip
              have g76 := i_le h75
              refine sp_52_91  (by omega) (by omega) hI  (fun v10 S9 hI_S9 hp_v10 => zi_n ⟨zG_T hI_S9, ?_⟩)
              have b77 := i_bd v10
              refine zd (fun h78 => ?_) (fun h78 => ?_)
              · skip
                have g79 := i_eq h78
                have f81 := zG_s hI_S9 (0) (92) (c := 91) (k := 5) (by decide)
                have hI80 : zL91 f r C Z N (ma_put S9 91 5 (.inl (mI S9 91 5))) := zG_sp hI_S9 (0) (92) rfl (by decide) (by decide) (by decide) trivial (by omega) (by omega)
                have b82 := i_bd l1
                exact K (l1) _ hI80 trivial
              · skip
                have g83 := i_ne h78
                have hI84 : zL91 f r C Z N (ma_put S9 91 5 (.inl v10)) := zG_sp hI_S9 (0) (92) rfl (by decide) (by decide) (by decide) trivial (by omega) (by omega)
                have b85 := i_bd l1
                exact K (l1) _ hI84 trivial
            · skip
              have g86 := i_nle h75
              refine ⟨i_ix (by omega) (by omega), ?_⟩
              first | have f87 := zG_a hI 93 (0) (3000) (c := 92) (k := (mI S 91 5).toNatClampNeg) (by decide) (i_ix (n := 93) (by omega) (by omega)).2 | have b88 := i_bd (mI S 92 (mI S 91 5).toNatClampNeg)
              refine zd (fun h89 => ?_) (fun h89 => ?_)
              · skip
                have g90 := i_eq h89
                refine sp_52_91  (by omega) (by omega) hI  (fun v12 S11 hI_S11 hp_v12 => zi_n ⟨zG_T hI_S11, ?_⟩)
                have b91 := i_bd v12
                refine zd (fun h92 => ?_) (fun h92 => ?_)
                · skip
                  have g93 := i_eq h92
                  have f95 := zG_s hI_S11 (0) (92) (c := 91) (k := 5) (by decide)
                  have hI94 : zL91 f r C Z N (ma_put S11 91 5 (.inl (mI S11 91 5))) := zG_sp hI_S11 (0) (92) rfl (by decide) (by decide) (by decide) trivial (by omega) (by omega)
                  have b96 := i_bd l1
                  exact K (l1) _ hI94 trivial
                · skip
                  have g97 := i_ne h92
                  have hI98 : zL91 f r C Z N (ma_put S11 91 5 (.inl v12)) := zG_sp hI_S11 (0) (92) rfl (by decide) (by decide) (by decide) trivial (by omega) (by omega)
                  have b99 := i_bd l1
                  exact K (l1) _ hI98 trivial
              · skip
                have g100 := i_ne h89
                have b101 := i_bd l1
                exact K (l1) _ hI trivial
        · skip
          have g102 := i_ne h59
          have hI103 : zL91 f r C Z N (ma_put S 91 5 (.inl (mI S 91 6))) := zG_sp hI (0) (92) rfl (by decide) (by decide) (by decide) trivial (by omega) (by omega)
          have b104 := i_bd l1
          exact K (l1) _ hI103 trivial
      · skip
        have g105 := i_ne h56
        refine sp_49_91 (l2) (by omega) (by omega) hI (by omega) (by omega) (fun v14 S13 hI_S13 hp_v14 => zi_n ⟨zG_T hI_S13, ?_⟩)
        have b106 := i_bd v14
        have li107 : (0 : Int32).toInt = 0 := rfl
        refine zd (fun h108 => ?_) (fun h108 => ?_)
        · skip
          have g109 := i_eq h108
          have f110 := zG_s hI_S13 (-1) (92) (c := 91) (k := 6) (by decide)
          refine zd (fun h111 => ?_) (fun h111 => ?_)
          · skip
            have g112 := i_eq h111
            have f113 := zG_s hI_S13 (0) (92) (c := 91) (k := 5) (by decide)
            refine zd (fun h114 => ?_) (fun h114 => ?_)
            · skip
              have g115 := i_lt h114
              refine sp_52_91  (by omega) (by omega) hI_S13  (fun v16 S15 hI_S15 hp_v16 => zi_n ⟨zG_T hI_S15, ?_⟩)
              have b116 := i_bd v16
              refine zd (fun h117 => ?_) (fun h117 => ?_)
              · skip
                have g118 := i_eq h117
                have f120 := zG_s hI_S15 (0) (92) (c := 91) (k := 5) (by decide)
                have hI119 : zL91 f r C Z N (ma_put S15 91 5 (.inl (mI S15 91 5))) := zG_sp hI_S15 (0) (92) rfl (by decide) (by decide) (by decide) trivial (by omega) (by omega)
                have b121 := i_bd l1
                exact K (l1) _ hI119 trivial
              · skip
                have g122 := i_ne h117
                have hI123 : zL91 f r C Z N (ma_put S15 91 5 (.inl v16)) := zG_sp hI_S15 (0) (92) rfl (by decide) (by decide) (by decide) trivial (by omega) (by omega)
                have b124 := i_bd l1
                exact K (l1) _ hI123 trivial
            · skip
              have g125 := i_nlt h114
              refine zd (fun h126 => ?_) (fun h126 => ?_)
              · skip
                have g127 := i_le h126
                refine sp_52_91  (by omega) (by omega) hI_S13  (fun v18 S17 hI_S17 hp_v18 => zi_n ⟨zG_T hI_S17, ?_⟩)
                have b128 := i_bd v18
                refine zd (fun h129 => ?_) (fun h129 => ?_)
                · skip
                  have g130 := i_eq h129
                  have f132 := zG_s hI_S17 (0) (92) (c := 91) (k := 5) (by decide)
                  have hI131 : zL91 f r C Z N (ma_put S17 91 5 (.inl (mI S17 91 5))) := zG_sp hI_S17 (0) (92) rfl (by decide) (by decide) (by decide) trivial (by omega) (by omega)
                  have b133 := i_bd l1
                  exact K (l1) _ hI131 trivial
                · skip
                  have g134 := i_ne h129
                  have hI135 : zL91 f r C Z N (ma_put S17 91 5 (.inl v18)) := zG_sp hI_S17 (0) (92) rfl (by decide) (by decide) (by decide) trivial (by omega) (by omega)
                  have b136 := i_bd l1
                  exact K (l1) _ hI135 trivial
              · skip
                have g137 := i_nle h126
                refine ⟨i_ix (by omega) (by omega), ?_⟩
                first | have f138 := zG_a hI_S13 93 (0) (3000) (c := 92) (k := (mI S13 91 5).toNatClampNeg) (by decide) (i_ix (n := 93) (by omega) (by omega)).2 | have b139 := i_bd (mI S13 92 (mI S13 91 5).toNatClampNeg)
                refine zd (fun h140 => ?_) (fun h140 => ?_)
                · skip
                  have g141 := i_eq h140
                  refine sp_52_91  (by omega) (by omega) hI_S13  (fun v20 S19 hI_S19 hp_v20 => zi_n ⟨zG_T hI_S19, ?_⟩)
                  have b142 := i_bd v20
                  refine zd (fun h143 => ?_) (fun h143 => ?_)
                  · skip
                    have g144 := i_eq h143
                    have f146 := zG_s hI_S19 (0) (92) (c := 91) (k := 5) (by decide)
                    have hI145 : zL91 f r C Z N (ma_put S19 91 5 (.inl (mI S19 91 5))) := zG_sp hI_S19 (0) (92) rfl (by decide) (by decide) (by decide) trivial (by omega) (by omega)
                    have b147 := i_bd l1
                    exact K (l1) _ hI145 trivial
                  · skip
                    have g148 := i_ne h143
                    have hI149 : zL91 f r C Z N (ma_put S19 91 5 (.inl v20)) := zG_sp hI_S19 (0) (92) rfl (by decide) (by decide) (by decide) trivial (by omega) (by omega)
                    have b150 := i_bd l1
                    exact K (l1) _ hI149 trivial
                · skip
                  have g151 := i_ne h140
                  have b152 := i_bd l1
                  exact K (l1) _ hI_S13 trivial
          · skip
            have g153 := i_ne h111
            have hI154 : zL91 f r C Z N (ma_put S13 91 5 (.inl (mI S13 91 6))) := zG_sp hI_S13 (0) (92) rfl (by decide) (by decide) (by decide) trivial (by omega) (by omega)
            have b155 := i_bd l1
            exact K (l1) _ hI154 trivial
        · skip
          have g156 := i_ne h108
          refine sp_48_91  (by omega) (by omega) hI_S13  (fun v22 S21 hI_S21 hp_v22 => zi_n ⟨zG_T hI_S21, ?_⟩)
          have b157 := i_bd l1
          have b158 := i_bd v22
          first | have e159 : (l3 + (1 : Int32)).toInt = l3.toInt + (1) := i_addk rfl (by omega) (by omega) | have b160 := i_bd (l3 + (1 : Int32))
          exact IH _ (by omega) _ (l1) (v22) ((l3 + (1 : Int32))) rfl hI_S21 (by omega) (by omega) (by omega)
theorem sp_43_91 {X : Nat × (Nat → Int32)} {d w : Nat} {f : Nat → Nat → Int32} {r : Nat → Nat → Option Nat} {C Z N : Nat} {Q : Option ma_V ⊕ Nat → ma_S → Prop} {S : ma_S}  (hd : 4 ≤ d) (hw : 160 ≤ w) (hI : zL91 f r C Z N S)  (K : ∀ v S', zL91 f r C Z N S' → (True) → Q (.inl (some (.inl v))) S') : ma_wp X d w 43 0 [(0, .inr (.inr (some 91)))] [] S Q := by
  refine g_43_91_0  (by omega) (by omega) (zG_T hI) ?_
  refine sp_264_91  (by omega) (by omega) (zL91_dn hI)  (fun v2 S1 hL_S1 hp_v2 => zi_n ⟨zG_T hL_S1, ?_⟩)
  have hI_S1 := zL91_up hI hL_S1
  refine sp_44_91  (by omega) (by omega) hI_S1  (fun S3 hI_S3 => zv_n ⟨zG_T hI_S3, ?_⟩)
  refine sp_46_91  (by omega) (by omega) hI_S3  (fun S5 hI_S5 => zv_n ⟨zG_T hI_S5, ?_⟩)
  refine sp_47_91  (by omega) (by omega) hI_S5  (fun S7 hI_S7 => zv_n ⟨zG_T hI_S7, ?_⟩)
  have li2 : (-1 : Int32).toInt = -1 := rfl
  have hI1 : zL91 f r C Z N (ma_put S7 91 6 (.inl (-1 : Int32))) := zG_sp hI_S7 (-1) (92) rfl (by decide) (by decide) (by decide) trivial (by omega) (by omega)
  refine sp_48_91  (by omega) (by omega) hI1  (fun v10 S9 hI_S9 hp_v10 => zi_n ⟨zG_T hI_S9, ?_⟩)
  have b3 := i_bd v2
  have b4 := i_bd v10
  have li5 : (0 : Int32).toInt = 0 := rfl
  exact lp_43_91_29 (by omega) (by omega) K _ _ (v2) (v10) ((0 : Int32)) rfl hI_S9 (by omega) (by omega) (by omega)
