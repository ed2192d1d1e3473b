/-! from 95.s20 -/
/-! REGIONS, the class (written by wip/tools/gen15z.py) -/
theorem g_43_91_sz_0 {X : Nat × (Nat → Int32)} {d w : Nat} {S : ma_S} {Q : Option ma_V ⊕ Nat → ma_S → Prop}  (hd : 4 ≤ d) (hw : 138 ≤ w) (hS : zT S) (h : ma_wp X (d - 1) (w - 20) 264 0 [(0, .inr (.inr (some 91)))] [] S (zi (fun v2 S1 => zT S1 ∧ (ma_wp X (d - 1) (w - 22) 44 0 [(0, .inr (.inr (some 91)))] [] S1 (zv (fun S3 => zT S3 ∧ (ma_wp X (d - 1) (w - 21) 46 0 [(0, .inr (.inr (some 91)))] [] S3 (zv (fun S5 => zT S5 ∧ (ma_wp X (d - 1) (w - 22) 47 0 [(0, .inr (.inr (some 91)))] [] S5 (zv (fun S7 => zT S7 ∧ (ma_wp X (d - 1) (w - 22) 48 0 [(0, .inr (.inr (some 91)))] [] (ma_put S7 91 6 (.inl (-1 : Int32))) (zi (fun v10 S9 => zT S9 ∧ (ma_wp X d w 43 29 [(0, .inr (.inr (some 91))), (1, .inl v2), (2, .inl v10), (3, .inl (0 : Int32))] [] S9 Q)) (fun x S9 => Q (.inr x) S9)))) (fun x S9 => Q (.inr x) S9)))) (fun x S9 => Q (.inr x) S9)))) (fun x S9 => Q (.inr x) S9)))) (fun _ _ => False))) : ma_wp X d w 43 0 [(0, .inr (.inr (some 91)))] [] S Q := by
  refine zw_push hm_43 dX4_cleanAll_0 (v := .inr (.inr (some 91))) rfl ?_
  refine zw_cv hm_43 dX4_cleanAll_1 v_4_70_4 hm_264 [] [] rfl (zT_rt hS s_91 rfl) ⟨by omega, by omega⟩ rfl (zw_mono h (zi_go ?_ ?_))
  · intro v2 S1 hv
    obtain ⟨hS1, h⟩ := hv
    refine zw_sto hm_43 dX4_cleanAll_4 [(1, .inl v2), (0, .inr (.inr (some 91)))] rfl rfl rfl ?_
    refine zw_push hm_43 dX4_cleanAll_5 (v := .inr (.inr (some 91))) rfl ?_
    refine zw_cv hm_43 dX4_cleanAll_6 v_4_73_4 hm_44 [] [] rfl (zT_rt hS1 s_91 rfl) ⟨by omega, by omega⟩ rfl (zw_mono h (zv_go ?_ ?_))
    · intro S3 hv
      obtain ⟨hS3, h⟩ := hv
      refine zw_push hm_43 dX4_cleanAll_9 (v := .inr (.inr (some 91))) rfl ?_
      refine zw_cv hm_43 dX4_cleanAll_10 v_4_77_4 hm_46 [] [] rfl (zT_rt hS3 s_91 rfl) ⟨by omega, by omega⟩ rfl (zw_mono h (zv_go ?_ ?_))
      · intro S5 hv
        obtain ⟨hS5, h⟩ := hv
        refine zw_push hm_43 dX4_cleanAll_13 (v := .inr (.inr (some 91))) rfl ?_
        refine zw_cv hm_43 dX4_cleanAll_14 v_4_80_4 hm_47 [] [] rfl (zT_rt hS5 s_91 rfl) ⟨by omega, by omega⟩ rfl (zw_mono h (zv_go ?_ ?_))
        · intro S7 hv
          obtain ⟨hS7, h⟩ := hv
          refine zw_push hm_43 dX4_cleanAll_17 (v := .inr (.inr (some 91))) rfl ?_
          refine zw_push hm_43 dX4_cleanAll_18 (v := .inl (-1 : Int32)) rfl ?_
          refine zw_pf hm_43 dX4_cleanAll_19 (zT_is hS7 s_91) (zT_t hS7 s_91) p_4_83_4 zk_int ?_
          refine zw_push hm_43 dX4_cleanAll_22 (v := .inr (.inr (some 91))) rfl ?_
          refine zw_cv hm_43 dX4_cleanAll_23 v_4_86_4 hm_48 [] [] rfl (zT_rt (zT_pi hS7) s_91 rfl) ⟨by omega, by omega⟩ rfl (zw_mono h (zi_go ?_ ?_))
          · intro v10 S9 hv
            obtain ⟨hS9, h⟩ := hv
            refine zw_sto hm_43 dX4_cleanAll_26 [(2, .inl v10), (1, .inl v2), (0, .inr (.inr (some 91)))] rfl rfl rfl ?_
            refine zw_push hm_43 dX4_cleanAll_27 (v := .inl (0 : Int32)) rfl ?_
            refine zw_sto hm_43 dX4_cleanAll_28 [(3, .inl (0 : Int32)), (2, .inl v10), (1, .inl v2), (0, .inr (.inr (some 91)))] rfl rfl rfl ?_
            exact zw_sub (ma_nd_of (ks := [0, 1, 2, 3]) rfl (by decide)) (ma_nd_of (ks := [3, 2, 1, 0]) rfl (by decide)) (ma_le_cons rfl (ma_le_cons rfl (ma_le_cons rfl (ma_le_cons rfl (ma_le_nil _))))) h
          · intro x S9 hx
            exact ⟨by decide, hx⟩
        · intro x S9 hx
          exact ⟨by decide, hx⟩
      · intro x S9 hx
        exact ⟨by decide, hx⟩
    · intro x S9 hx
      exact ⟨by decide, hx⟩
  · intro x S9 hx
    exact hx.elim
theorem g_43_91_sz_29 {X : Nat × (Nat → Int32)} {d w : Nat} {S : ma_S} {Q : Option ma_V ⊕ Nat → ma_S → Prop} (l1 : Int32) (l2 : Int32) (l3 : Int32) (hd : 4 ≤ d) (hw : 160 ≤ w) (hS : zT S) (h : if (93 : Int32) ≤ l3 then (if (mI S 91 6) = (-1 : Int32) then (if (mI S 91 5) < 0 then (ma_wp X (d - 1) (w - 21) 52 0 [(0, .inr (.inr (some 91)))] [] S (zi (fun v2 S1 => zT S1 ∧ (if v2 = (-1 : Int32) then (Q (.inl (some (.inl l1))) (ma_put S1 91 5 (.inl (mI S1 91 5)))) else (Q (.inl (some (.inl l1))) (ma_put S1 91 5 (.inl v2))))) (fun x S9 => Q (.inr x) S9))) else (if (93 : Int32) ≤ (mI S 91 5) then (ma_wp X (d - 1) (w - 21) 52 0 [(0, .inr (.inr (some 91)))] [] S (zi (fun v4 S3 => zT S3 ∧ (if v4 = (-1 : Int32) then (Q (.inl (some (.inl l1))) (ma_put S3 91 5 (.inl (mI S3 91 5)))) else (Q (.inl (some (.inl l1))) (ma_put S3 91 5 (.inl v4))))) (fun x S9 => Q (.inr x) S9))) else ((0 ≤ (mI S 91 5) ∧ (mI S 91 5).toNatClampNeg < 93) ∧ (if (mI S 92 (mI S 91 5).toNatClampNeg) = 0 then (ma_wp X (d - 1) (w - 21) 52 0 [(0, .inr (.inr (some 91)))] [] S (zi (fun v6 S5 => zT S5 ∧ (if v6 = (-1 : Int32) then (Q (.inl (some (.inl l1))) (ma_put S5 91 5 (.inl (mI S5 91 5)))) else (Q (.inl (some (.inl l1))) (ma_put S5 91 5 (.inl v6))))) (fun x S9 => Q (.inr x) S9))) else (Q (.inl (some (.inl l1))) S))))) else (Q (.inl (some (.inl l1))) (ma_put S 91 5 (.inl (mI S 91 6))))) else (if l2 = (-1 : Int32) then (if (mI S 91 6) = (-1 : Int32) then (if (mI S 91 5) < 0 then (ma_wp X (d - 1) (w - 21) 52 0 [(0, .inr (.inr (some 91)))] [] S (zi (fun v8 S7 => zT S7 ∧ (if v8 = (-1 : Int32) then (Q (.inl (some (.inl l1))) (ma_put S7 91 5 (.inl (mI S7 91 5)))) else (Q (.inl (some (.inl l1))) (ma_put S7 91 5 (.inl v8))))) (fun x S9 => Q (.inr x) S9))) else (if (93 : Int32) ≤ (mI S 91 5) then (ma_wp X (d - 1) (w - 21) 52 0 [(0, .inr (.inr (some 91)))] [] S (zi (fun v10 S9 => zT S9 ∧ (if v10 = (-1 : Int32) then (Q (.inl (some (.inl l1))) (ma_put S9 91 5 (.inl (mI S9 91 5)))) else (Q (.inl (some (.inl l1))) (ma_put S9 91 5 (.inl v10))))) (fun x S9 => Q (.inr x) S9))) else ((0 ≤ (mI S 91 5) ∧ (mI S 91 5).toNatClampNeg < 93) ∧ (if (mI S 92 (mI S 91 5).toNatClampNeg) = 0 then (ma_wp X (d - 1) (w - 21) 52 0 [(0, .inr (.inr (some 91)))] [] S (zi (fun v12 S11 => zT S11 ∧ (if v12 = (-1 : Int32) then (Q (.inl (some (.inl l1))) (ma_put S11 91 5 (.inl (mI S11 91 5)))) else (Q (.inl (some (.inl l1))) (ma_put S11 91 5 (.inl v12))))) (fun x S9 => Q (.inr x) S9))) else (Q (.inl (some (.inl l1))) S))))) else (Q (.inl (some (.inl l1))) (ma_put S 91 5 (.inl (mI S 91 6))))) else (ma_wp X (d - 1) (w - 24) 49 0 [(0, .inr (.inr (some 91))), (1, .inl l2)] [] S (zi (fun v14 S13 => zT S13 ∧ (if v14 = 0 then (if (mI S13 91 6) = (-1 : Int32) then (if (mI S13 91 5) < 0 then (ma_wp X (d - 1) (w - 21) 52 0 [(0, .inr (.inr (some 91)))] [] S13 (zi (fun v16 S15 => zT S15 ∧ (if v16 = (-1 : Int32) then (Q (.inl (some (.inl l1))) (ma_put S15 91 5 (.inl (mI S15 91 5)))) else (Q (.inl (some (.inl l1))) (ma_put S15 91 5 (.inl v16))))) (fun x S9 => Q (.inr x) S9))) else (if (93 : Int32) ≤ (mI S13 91 5) then (ma_wp X (d - 1) (w - 21) 52 0 [(0, .inr (.inr (some 91)))] [] S13 (zi (fun v18 S17 => zT S17 ∧ (if v18 = (-1 : Int32) then (Q (.inl (some (.inl l1))) (ma_put S17 91 5 (.inl (mI S17 91 5)))) else (Q (.inl (some (.inl l1))) (ma_put S17 91 5 (.inl v18))))) (fun x S9 => Q (.inr x) S9))) else ((0 ≤ (mI S13 91 5) ∧ (mI S13 91 5).toNatClampNeg < 93) ∧ (if (mI S13 92 (mI S13 91 5).toNatClampNeg) = 0 then (ma_wp X (d - 1) (w - 21) 52 0 [(0, .inr (.inr (some 91)))] [] S13 (zi (fun v20 S19 => zT S19 ∧ (if v20 = (-1 : Int32) then (Q (.inl (some (.inl l1))) (ma_put S19 91 5 (.inl (mI S19 91 5)))) else (Q (.inl (some (.inl l1))) (ma_put S19 91 5 (.inl v20))))) (fun x S9 => Q (.inr x) S9))) else (Q (.inl (some (.inl l1))) S13))))) else (Q (.inl (some (.inl l1))) (ma_put S13 91 5 (.inl (mI S13 91 6))))) else (ma_wp X (d - 1) (w - 22) 48 0 [(0, .inr (.inr (some 91)))] [] S13 (zi (fun v22 S21 => zT S21 ∧ (ma_wp X d w 43 29 [(0, .inr (.inr (some 91))), (1, .inl l1), (2, .inl v22), (3, .inl (l3 + (1 : Int32)))] [] S21 Q)) (fun x S9 => Q (.inr x) S9))))) (fun x S9 => Q (.inr x) S9))))) : ma_wp X d w 43 29 [(0, .inr (.inr (some 91))), (1, .inl l1), (2, .inl l2), (3, .inl l3)] [] S Q := by
  refine zw_push hm_43 dX4_cleanAll_29 (v := .inl l3) rfl ?_
  refine zw_push hm_43 dX4_cleanAll_30 (v := .inl (93 : Int32)) rfl ?_
  refine zw_if2 hm_43 dX4_cleanAll_32 (t := 59) rfl zc2_ge ?_ ?_
  · intro hc
    rw [if_pos hc] at h
    refine zw_push hm_43 dX4_cleanAll_59 (v := .inr (.inr (some 91))) rfl ?_
    refine zw_gf hm_43 dX4_cleanAll_60 (v := .inl (mI S 91 6)) (zT_is hS s_91) (zT_t hS s_91) rfl f_4_83_4 rfl ?_
    refine zw_push hm_43 dX4_cleanAll_63 (v := .inl (-1 : Int32)) rfl ?_
    refine zw_if2 hm_43 dX4_cleanAll_64 (t := 78) rfl zc2_eq ?_ ?_
    · intro hc
      rw [if_pos hc] at h
      refine zw_push hm_43 dX4_cleanAll_78 (v := .inr (.inr (some 91))) rfl ?_
      refine zw_push hm_43 dX4_cleanAll_79 (v := .inr (.inr (some 91))) rfl ?_
      refine zw_gf hm_43 dX4_cleanAll_80 (v := .inl (mI S 91 5)) (zT_is hS s_91) (zT_t hS s_91) rfl f_4_34_4 rfl ?_
      refine zw_cv hm_43 dX4_cleanAll_83 v_4_93_4 hm_50 [.inl (mI S 91 5)] [] rfl (zT_rt hS s_91 rfl) ⟨by omega, by omega⟩ rfl ?_
      show ma_wp X (d - 1) (w - 21) 50 0 [(0, .inr (.inr (some 91))), (1, .inl (mI S 91 5))] [] S _
      refine zw_push hm_50 dX4_topOf_0 (v := .inl (mI S 91 5)) rfl ?_
      refine zw_if0 hm_50 dX4_topOf_1 (t := 19) rfl zc0_lt ?_ ?_
      · intro hc
        rw [if_pos hc] at h
        refine zw_push hm_50 dX4_topOf_19 (v := .inl (0 : Int32)) rfl ?_
        refine zw_iret hm_50 dX4_topOf_20 ?_
        show ma_wp X d w 43 86 [(0, .inr (.inr (some 91))), (1, .inl l1), (2, .inl l2), (3, .inl l3)] [.inl (0 : Int32)] S _
        refine zw_if0 hm_43 dX4_cleanAll_86 (t := 104) rfl zc0_ne (fun hc => absurd hc (by decide)) (fun _ => ?_)
        refine zw_push hm_43 dX4_cleanAll_89 (v := .inr (.inr (some 91))) rfl ?_
        refine zw_push hm_43 dX4_cleanAll_90 (v := .inr (.inr (some 91))) rfl ?_
        refine zw_cv hm_43 dX4_cleanAll_91 v_4_54_4 hm_52 [] [.inr (.inr (some 91))] rfl (zT_rt hS s_91 rfl) ⟨by omega, by omega⟩ rfl (zw_mono h (zi_go ?_ ?_))
        · intro v2 S1 hv
          obtain ⟨hS1, h⟩ := hv
          refine zw_push hm_43 dX4_cleanAll_94 (v := .inr (.inr (some 91))) rfl ?_
          refine zw_gf hm_43 dX4_cleanAll_95 (v := .inl (mI S1 91 5)) (zT_is hS1 s_91) (zT_t hS1 s_91) rfl f_4_34_4 rfl ?_
          refine zw_cs hm_43 dX4_cleanAll_98 pn_4_57 sl_4_57 hm_54 [.inl (mI S1 91 5), .inl v2] [.inr (.inr (some 91))] rfl ⟨by omega, by omega⟩ rfl ?_
          show ma_wp X (d - 1) (w - 21) 54 0 [(0, .inl v2), (1, .inl (mI S1 91 5))] [] S1 _
          refine zw_push hm_54 dX4_orElse_0 (v := .inl v2) rfl ?_
          refine zw_push hm_54 dX4_orElse_1 (v := .inl (-1 : Int32)) rfl ?_
          refine zw_if2 hm_54 dX4_orElse_2 (t := 9) rfl zc2_ne ?_ ?_
          · intro hc
            rw [if_neg hc] at h
            refine zw_push hm_54 dX4_orElse_9 (v := .inl v2) rfl ?_
            refine zw_iret hm_54 dX4_orElse_10 ?_
            show ma_wp X d w 43 101 [(0, .inr (.inr (some 91))), (1, .inl l1), (2, .inl l2), (3, .inl l3)] [.inl v2, .inr (.inr (some 91))] S1 _
            refine zw_pf hm_43 dX4_cleanAll_101 (zT_is hS1 s_91) (zT_t hS1 s_91) p_4_34_4 zk_int ?_
            refine zw_push hm_43 dX4_cleanAll_104 (v := .inl l1) rfl ?_
            exact zw_iret hm_43 dX4_cleanAll_105 h
          · intro hc
            rw [if_pos (Classical.not_not.mp hc)] at h
            refine zw_push hm_54 dX4_orElse_5 (v := .inl (mI S1 91 5)) rfl ?_
            refine zw_goto hm_54 dX4_orElse_6 (t := 10) rfl ?_
            refine zw_iret hm_54 dX4_orElse_10 ?_
            show ma_wp X d w 43 101 [(0, .inr (.inr (some 91))), (1, .inl l1), (2, .inl l2), (3, .inl l3)] [.inl (mI S1 91 5), .inr (.inr (some 91))] S1 _
            refine zw_pf hm_43 dX4_cleanAll_101 (zT_is hS1 s_91) (zT_t hS1 s_91) p_4_34_4 zk_int ?_
            refine zw_push hm_43 dX4_cleanAll_104 (v := .inl l1) rfl ?_
            exact zw_iret hm_43 dX4_cleanAll_105 h
        · intro x S9 hx
          exact ⟨by decide, hx⟩
      · intro hc
        rw [if_neg hc] at h
        refine zw_push hm_50 dX4_topOf_4 (v := .inl (mI S 91 5)) rfl ?_
        refine zw_push hm_50 dX4_topOf_5 (v := .inl (93 : Int32)) rfl ?_
        refine zw_if2 hm_50 dX4_topOf_7 (t := 19) rfl zc2_ge ?_ ?_
        · intro hc
          rw [if_pos hc] at h
          refine zw_push hm_50 dX4_topOf_19 (v := .inl (0 : Int32)) rfl ?_
          refine zw_iret hm_50 dX4_topOf_20 ?_
          show ma_wp X d w 43 86 [(0, .inr (.inr (some 91))), (1, .inl l1), (2, .inl l2), (3, .inl l3)] [.inl (0 : Int32)] S _
          refine zw_if0 hm_43 dX4_cleanAll_86 (t := 104) rfl zc0_ne (fun hc => absurd hc (by decide)) (fun _ => ?_)
          refine zw_push hm_43 dX4_cleanAll_89 (v := .inr (.inr (some 91))) rfl ?_
          refine zw_push hm_43 dX4_cleanAll_90 (v := .inr (.inr (some 91))) rfl ?_
          refine zw_cv hm_43 dX4_cleanAll_91 v_4_54_4 hm_52 [] [.inr (.inr (some 91))] rfl (zT_rt hS s_91 rfl) ⟨by omega, by omega⟩ rfl (zw_mono h (zi_go ?_ ?_))
          · intro v4 S3 hv
            obtain ⟨hS3, h⟩ := hv
            refine zw_push hm_43 dX4_cleanAll_94 (v := .inr (.inr (some 91))) rfl ?_
            refine zw_gf hm_43 dX4_cleanAll_95 (v := .inl (mI S3 91 5)) (zT_is hS3 s_91) (zT_t hS3 s_91) rfl f_4_34_4 rfl ?_
            refine zw_cs hm_43 dX4_cleanAll_98 pn_4_57 sl_4_57 hm_54 [.inl (mI S3 91 5), .inl v4] [.inr (.inr (some 91))] rfl ⟨by omega, by omega⟩ rfl ?_
            show ma_wp X (d - 1) (w - 21) 54 0 [(0, .inl v4), (1, .inl (mI S3 91 5))] [] S3 _
            refine zw_push hm_54 dX4_orElse_0 (v := .inl v4) rfl ?_
            refine zw_push hm_54 dX4_orElse_1 (v := .inl (-1 : Int32)) rfl ?_
            refine zw_if2 hm_54 dX4_orElse_2 (t := 9) rfl zc2_ne ?_ ?_
            · intro hc
              rw [if_neg hc] at h
              refine zw_push hm_54 dX4_orElse_9 (v := .inl v4) rfl ?_
              refine zw_iret hm_54 dX4_orElse_10 ?_
              show ma_wp X d w 43 101 [(0, .inr (.inr (some 91))), (1, .inl l1), (2, .inl l2), (3, .inl l3)] [.inl v4, .inr (.inr (some 91))] S3 _
              refine zw_pf hm_43 dX4_cleanAll_101 (zT_is hS3 s_91) (zT_t hS3 s_91) p_4_34_4 zk_int ?_
              refine zw_push hm_43 dX4_cleanAll_104 (v := .inl l1) rfl ?_
              exact zw_iret hm_43 dX4_cleanAll_105 h
            · intro hc
              rw [if_pos (Classical.not_not.mp hc)] at h
              refine zw_push hm_54 dX4_orElse_5 (v := .inl (mI S3 91 5)) rfl ?_
              refine zw_goto hm_54 dX4_orElse_6 (t := 10) rfl ?_
              refine zw_iret hm_54 dX4_orElse_10 ?_
              show ma_wp X d w 43 101 [(0, .inr (.inr (some 91))), (1, .inl l1), (2, .inl l2), (3, .inl l3)] [.inl (mI S3 91 5), .inr (.inr (some 91))] S3 _
              refine zw_pf hm_43 dX4_cleanAll_101 (zT_is hS3 s_91) (zT_t hS3 s_91) p_4_34_4 zk_int ?_
              refine zw_push hm_43 dX4_cleanAll_104 (v := .inl l1) rfl ?_
              exact zw_iret hm_43 dX4_cleanAll_105 h
          · intro x S9 hx
            exact ⟨by decide, hx⟩
        · intro hc
          rw [if_neg hc] at h
          refine zw_push hm_50 dX4_topOf_10 (v := .inr (.inr (some 91))) rfl ?_
          refine zw_gf hm_50 dX4_topOf_11 (v := .inr (.inr (some 92))) (zT_is hS s_91) (zT_t hS s_91) rfl f_4_9_4 (zT_f hS r_91_7) ?_
          refine zw_push hm_50 dX4_topOf_14 (v := .inl (mI S 91 5)) rfl ?_
          obtain ⟨hg, h⟩ := h
          refine zw_ia hm_50 dX4_topOf_15 (zT_is hS s_92) (zT_h hS s_92) rfl hg ?_
          show ma_wp X (d - 1) (w - 21) 50 16 [(0, .inr (.inr (some 91))), (1, .inl (mI S 91 5))] [.inl (mI S 92 (mI S 91 5).toNatClampNeg)] S _
          refine zw_goto hm_50 dX4_topOf_16 (t := 20) rfl ?_
          refine zw_iret hm_50 dX4_topOf_20 ?_
          show ma_wp X d w 43 86 [(0, .inr (.inr (some 91))), (1, .inl l1), (2, .inl l2), (3, .inl l3)] [.inl (mI S 92 (mI S 91 5).toNatClampNeg)] S _
          refine zw_if0 hm_43 dX4_cleanAll_86 (t := 104) rfl zc0_ne ?_ ?_
          · intro hc
            rw [if_neg hc] at h
            refine zw_push hm_43 dX4_cleanAll_104 (v := .inl l1) rfl ?_
            exact zw_iret hm_43 dX4_cleanAll_105 h
          · intro hc
            rw [if_pos (Classical.not_not.mp hc)] at h
            refine zw_push hm_43 dX4_cleanAll_89 (v := .inr (.inr (some 91))) rfl ?_
            refine zw_push hm_43 dX4_cleanAll_90 (v := .inr (.inr (some 91))) rfl ?_
            refine zw_cv hm_43 dX4_cleanAll_91 v_4_54_4 hm_52 [] [.inr (.inr (some 91))] rfl (zT_rt hS s_91 rfl) ⟨by omega, by omega⟩ rfl (zw_mono h (zi_go ?_ ?_))
            · intro v6 S5 hv
              obtain ⟨hS5, h⟩ := hv
              refine zw_push hm_43 dX4_cleanAll_94 (v := .inr (.inr (some 91))) rfl ?_
              refine zw_gf hm_43 dX4_cleanAll_95 (v := .inl (mI S5 91 5)) (zT_is hS5 s_91) (zT_t hS5 s_91) rfl f_4_34_4 rfl ?_
              refine zw_cs hm_43 dX4_cleanAll_98 pn_4_57 sl_4_57 hm_54 [.inl (mI S5 91 5), .inl v6] [.inr (.inr (some 91))] rfl ⟨by omega, by omega⟩ rfl ?_
              show ma_wp X (d - 1) (w - 21) 54 0 [(0, .inl v6), (1, .inl (mI S5 91 5))] [] S5 _
              refine zw_push hm_54 dX4_orElse_0 (v := .inl v6) rfl ?_
              refine zw_push hm_54 dX4_orElse_1 (v := .inl (-1 : Int32)) rfl ?_
              refine zw_if2 hm_54 dX4_orElse_2 (t := 9) rfl zc2_ne ?_ ?_
              · intro hc
                rw [if_neg hc] at h
                refine zw_push hm_54 dX4_orElse_9 (v := .inl v6) rfl ?_
                refine zw_iret hm_54 dX4_orElse_10 ?_
                show ma_wp X d w 43 101 [(0, .inr (.inr (some 91))), (1, .inl l1), (2, .inl l2), (3, .inl l3)] [.inl v6, .inr (.inr (some 91))] S5 _
                refine zw_pf hm_43 dX4_cleanAll_101 (zT_is hS5 s_91) (zT_t hS5 s_91) p_4_34_4 zk_int ?_
                refine zw_push hm_43 dX4_cleanAll_104 (v := .inl l1) rfl ?_
                exact zw_iret hm_43 dX4_cleanAll_105 h
              · intro hc
                rw [if_pos (Classical.not_not.mp hc)] at h
                refine zw_push hm_54 dX4_orElse_5 (v := .inl (mI S5 91 5)) rfl ?_
                refine zw_goto hm_54 dX4_orElse_6 (t := 10) rfl ?_
                refine zw_iret hm_54 dX4_orElse_10 ?_
                show ma_wp X d w 43 101 [(0, .inr (.inr (some 91))), (1, .inl l1), (2, .inl l2), (3, .inl l3)] [.inl (mI S5 91 5), .inr (.inr (some 91))] S5 _
                refine zw_pf hm_43 dX4_cleanAll_101 (zT_is hS5 s_91) (zT_t hS5 s_91) p_4_34_4 zk_int ?_
                refine zw_push hm_43 dX4_cleanAll_104 (v := .inl l1) rfl ?_
                exact zw_iret hm_43 dX4_cleanAll_105 h
            · intro x S9 hx
              exact ⟨by decide, hx⟩
    · intro hc
      rw [if_neg hc] at h
      refine zw_push hm_43 dX4_cleanAll_67 (v := .inr (.inr (some 91))) rfl ?_
      refine zw_push hm_43 dX4_cleanAll_68 (v := .inr (.inr (some 91))) rfl ?_
      refine zw_gf hm_43 dX4_cleanAll_69 (v := .inl (mI S 91 6)) (zT_is hS s_91) (zT_t hS s_91) rfl f_4_83_4 rfl ?_
      refine zw_pf hm_43 dX4_cleanAll_72 (zT_is hS s_91) (zT_t hS s_91) p_4_34_4 zk_int ?_
      refine zw_goto hm_43 dX4_cleanAll_75 (t := 104) rfl ?_
      refine zw_push hm_43 dX4_cleanAll_104 (v := .inl l1) rfl ?_
      exact zw_iret hm_43 dX4_cleanAll_105 h
  · intro hc
    rw [if_neg hc] at h
    refine zw_push hm_43 dX4_cleanAll_35 (v := .inl l2) rfl ?_
    refine zw_push hm_43 dX4_cleanAll_36 (v := .inl (-1 : Int32)) rfl ?_
    refine zw_if2 hm_43 dX4_cleanAll_37 (t := 59) rfl zc2_eq ?_ ?_
    · intro hc
      rw [if_pos hc] at h
      refine zw_push hm_43 dX4_cleanAll_59 (v := .inr (.inr (some 91))) rfl ?_
      refine zw_gf hm_43 dX4_cleanAll_60 (v := .inl (mI S 91 6)) (zT_is hS s_91) (zT_t hS s_91) rfl f_4_83_4 rfl ?_
      refine zw_push hm_43 dX4_cleanAll_63 (v := .inl (-1 : Int32)) rfl ?_
      refine zw_if2 hm_43 dX4_cleanAll_64 (t := 78) rfl zc2_eq ?_ ?_
      · intro hc
        rw [if_pos hc] at h
        refine zw_push hm_43 dX4_cleanAll_78 (v := .inr (.inr (some 91))) rfl ?_
        refine zw_push hm_43 dX4_cleanAll_79 (v := .inr (.inr (some 91))) rfl ?_
        refine zw_gf hm_43 dX4_cleanAll_80 (v := .inl (mI S 91 5)) (zT_is hS s_91) (zT_t hS s_91) rfl f_4_34_4 rfl ?_
        refine zw_cv hm_43 dX4_cleanAll_83 v_4_93_4 hm_50 [.inl (mI S 91 5)] [] rfl (zT_rt hS s_91 rfl) ⟨by omega, by omega⟩ rfl ?_
        show ma_wp X (d - 1) (w - 21) 50 0 [(0, .inr (.inr (some 91))), (1, .inl (mI S 91 5))] [] S _
        refine zw_push hm_50 dX4_topOf_0 (v := .inl (mI S 91 5)) rfl ?_
        refine zw_if0 hm_50 dX4_topOf_1 (t := 19) rfl zc0_lt ?_ ?_
        · intro hc
          rw [if_pos hc] at h
          refine zw_push hm_50 dX4_topOf_19 (v := .inl (0 : Int32)) rfl ?_
          refine zw_iret hm_50 dX4_topOf_20 ?_
          show ma_wp X d w 43 86 [(0, .inr (.inr (some 91))), (1, .inl l1), (2, .inl l2), (3, .inl l3)] [.inl (0 : Int32)] S _
          refine zw_if0 hm_43 dX4_cleanAll_86 (t := 104) rfl zc0_ne (fun hc => absurd hc (by decide)) (fun _ => ?_)
          refine zw_push hm_43 dX4_cleanAll_89 (v := .inr (.inr (some 91))) rfl ?_
          refine zw_push hm_43 dX4_cleanAll_90 (v := .inr (.inr (some 91))) rfl ?_
          refine zw_cv hm_43 dX4_cleanAll_91 v_4_54_4 hm_52 [] [.inr (.inr (some 91))] rfl (zT_rt hS s_91 rfl) ⟨by omega, by omega⟩ rfl (zw_mono h (zi_go ?_ ?_))
          · intro v8 S7 hv
            obtain ⟨hS7, h⟩ := hv
            refine zw_push hm_43 dX4_cleanAll_94 (v := .inr (.inr (some 91))) rfl ?_
            refine zw_gf hm_43 dX4_cleanAll_95 (v := .inl (mI S7 91 5)) (zT_is hS7 s_91) (zT_t hS7 s_91) rfl f_4_34_4 rfl ?_
            refine zw_cs hm_43 dX4_cleanAll_98 pn_4_57 sl_4_57 hm_54 [.inl (mI S7 91 5), .inl v8] [.inr (.inr (some 91))] rfl ⟨by omega, by omega⟩ rfl ?_
            show ma_wp X (d - 1) (w - 21) 54 0 [(0, .inl v8), (1, .inl (mI S7 91 5))] [] S7 _
            refine zw_push hm_54 dX4_orElse_0 (v := .inl v8) rfl ?_
            refine zw_push hm_54 dX4_orElse_1 (v := .inl (-1 : Int32)) rfl ?_
            refine zw_if2 hm_54 dX4_orElse_2 (t := 9) rfl zc2_ne ?_ ?_
            · intro hc
              rw [if_neg hc] at h
              refine zw_push hm_54 dX4_orElse_9 (v := .inl v8) rfl ?_
              refine zw_iret hm_54 dX4_orElse_10 ?_
              show ma_wp X d w 43 101 [(0, .inr (.inr (some 91))), (1, .inl l1), (2, .inl l2), (3, .inl l3)] [.inl v8, .inr (.inr (some 91))] S7 _
              refine zw_pf hm_43 dX4_cleanAll_101 (zT_is hS7 s_91) (zT_t hS7 s_91) p_4_34_4 zk_int ?_
              refine zw_push hm_43 dX4_cleanAll_104 (v := .inl l1) rfl ?_
              exact zw_iret hm_43 dX4_cleanAll_105 h
            · intro hc
              rw [if_pos (Classical.not_not.mp hc)] at h
              refine zw_push hm_54 dX4_orElse_5 (v := .inl (mI S7 91 5)) rfl ?_
              refine zw_goto hm_54 dX4_orElse_6 (t := 10) rfl ?_
              refine zw_iret hm_54 dX4_orElse_10 ?_
              show ma_wp X d w 43 101 [(0, .inr (.inr (some 91))), (1, .inl l1), (2, .inl l2), (3, .inl l3)] [.inl (mI S7 91 5), .inr (.inr (some 91))] S7 _
              refine zw_pf hm_43 dX4_cleanAll_101 (zT_is hS7 s_91) (zT_t hS7 s_91) p_4_34_4 zk_int ?_
              refine zw_push hm_43 dX4_cleanAll_104 (v := .inl l1) rfl ?_
              exact zw_iret hm_43 dX4_cleanAll_105 h
          · intro x S9 hx
            exact ⟨by decide, hx⟩
        · intro hc
          rw [if_neg hc] at h
          refine zw_push hm_50 dX4_topOf_4 (v := .inl (mI S 91 5)) rfl ?_
          refine zw_push hm_50 dX4_topOf_5 (v := .inl (93 : Int32)) rfl ?_
          refine zw_if2 hm_50 dX4_topOf_7 (t := 19) rfl zc2_ge ?_ ?_
          · intro hc
            rw [if_pos hc] at h
            refine zw_push hm_50 dX4_topOf_19 (v := .inl (0 : Int32)) rfl ?_
            refine zw_iret hm_50 dX4_topOf_20 ?_
            show ma_wp X d w 43 86 [(0, .inr (.inr (some 91))), (1, .inl l1), (2, .inl l2), (3, .inl l3)] [.inl (0 : Int32)] S _
            refine zw_if0 hm_43 dX4_cleanAll_86 (t := 104) rfl zc0_ne (fun hc => absurd hc (by decide)) (fun _ => ?_)
            refine zw_push hm_43 dX4_cleanAll_89 (v := .inr (.inr (some 91))) rfl ?_
            refine zw_push hm_43 dX4_cleanAll_90 (v := .inr (.inr (some 91))) rfl ?_
            refine zw_cv hm_43 dX4_cleanAll_91 v_4_54_4 hm_52 [] [.inr (.inr (some 91))] rfl (zT_rt hS s_91 rfl) ⟨by omega, by omega⟩ rfl (zw_mono h (zi_go ?_ ?_))
            · intro v10 S9 hv
              obtain ⟨hS9, h⟩ := hv
              refine zw_push hm_43 dX4_cleanAll_94 (v := .inr (.inr (some 91))) rfl ?_
              refine zw_gf hm_43 dX4_cleanAll_95 (v := .inl (mI S9 91 5)) (zT_is hS9 s_91) (zT_t hS9 s_91) rfl f_4_34_4 rfl ?_
              refine zw_cs hm_43 dX4_cleanAll_98 pn_4_57 sl_4_57 hm_54 [.inl (mI S9 91 5), .inl v10] [.inr (.inr (some 91))] rfl ⟨by omega, by omega⟩ rfl ?_
              show ma_wp X (d - 1) (w - 21) 54 0 [(0, .inl v10), (1, .inl (mI S9 91 5))] [] S9 _
              refine zw_push hm_54 dX4_orElse_0 (v := .inl v10) rfl ?_
              refine zw_push hm_54 dX4_orElse_1 (v := .inl (-1 : Int32)) rfl ?_
              refine zw_if2 hm_54 dX4_orElse_2 (t := 9) rfl zc2_ne ?_ ?_
              · intro hc
                rw [if_neg hc] at h
                refine zw_push hm_54 dX4_orElse_9 (v := .inl v10) rfl ?_
                refine zw_iret hm_54 dX4_orElse_10 ?_
                show ma_wp X d w 43 101 [(0, .inr (.inr (some 91))), (1, .inl l1), (2, .inl l2), (3, .inl l3)] [.inl v10, .inr (.inr (some 91))] S9 _
                refine zw_pf hm_43 dX4_cleanAll_101 (zT_is hS9 s_91) (zT_t hS9 s_91) p_4_34_4 zk_int ?_
                refine zw_push hm_43 dX4_cleanAll_104 (v := .inl l1) rfl ?_
                exact zw_iret hm_43 dX4_cleanAll_105 h
              · intro hc
                rw [if_pos (Classical.not_not.mp hc)] at h
                refine zw_push hm_54 dX4_orElse_5 (v := .inl (mI S9 91 5)) rfl ?_
                refine zw_goto hm_54 dX4_orElse_6 (t := 10) rfl ?_
                refine zw_iret hm_54 dX4_orElse_10 ?_
                show ma_wp X d w 43 101 [(0, .inr (.inr (some 91))), (1, .inl l1), (2, .inl l2), (3, .inl l3)] [.inl (mI S9 91 5), .inr (.inr (some 91))] S9 _
                refine zw_pf hm_43 dX4_cleanAll_101 (zT_is hS9 s_91) (zT_t hS9 s_91) p_4_34_4 zk_int ?_
                refine zw_push hm_43 dX4_cleanAll_104 (v := .inl l1) rfl ?_
                exact zw_iret hm_43 dX4_cleanAll_105 h
            · intro x S9 hx
              exact ⟨by decide, hx⟩
          · intro hc
            rw [if_neg hc] at h
            refine zw_push hm_50 dX4_topOf_10 (v := .inr (.inr (some 91))) rfl ?_
            refine zw_gf hm_50 dX4_topOf_11 (v := .inr (.inr (some 92))) (zT_is hS s_91) (zT_t hS s_91) rfl f_4_9_4 (zT_f hS r_91_7) ?_
            refine zw_push hm_50 dX4_topOf_14 (v := .inl (mI S 91 5)) rfl ?_
            obtain ⟨hg, h⟩ := h
            refine zw_ia hm_50 dX4_topOf_15 (zT_is hS s_92) (zT_h hS s_92) rfl hg ?_
            show ma_wp X (d - 1) (w - 21) 50 16 [(0, .inr (.inr (some 91))), (1, .inl (mI S 91 5))] [.inl (mI S 92 (mI S 91 5).toNatClampNeg)] S _
            refine zw_goto hm_50 dX4_topOf_16 (t := 20) rfl ?_
            refine zw_iret hm_50 dX4_topOf_20 ?_
            show ma_wp X d w 43 86 [(0, .inr (.inr (some 91))), (1, .inl l1), (2, .inl l2), (3, .inl l3)] [.inl (mI S 92 (mI S 91 5).toNatClampNeg)] S _
            refine zw_if0 hm_43 dX4_cleanAll_86 (t := 104) rfl zc0_ne ?_ ?_
            · intro hc
              rw [if_neg hc] at h
              refine zw_push hm_43 dX4_cleanAll_104 (v := .inl l1) rfl ?_
              exact zw_iret hm_43 dX4_cleanAll_105 h
            · intro hc
              rw [if_pos (Classical.not_not.mp hc)] at h
              refine zw_push hm_43 dX4_cleanAll_89 (v := .inr (.inr (some 91))) rfl ?_
              refine zw_push hm_43 dX4_cleanAll_90 (v := .inr (.inr (some 91))) rfl ?_
              refine zw_cv hm_43 dX4_cleanAll_91 v_4_54_4 hm_52 [] [.inr (.inr (some 91))] rfl (zT_rt hS s_91 rfl) ⟨by omega, by omega⟩ rfl (zw_mono h (zi_go ?_ ?_))
              · intro v12 S11 hv
                obtain ⟨hS11, h⟩ := hv
                refine zw_push hm_43 dX4_cleanAll_94 (v := .inr (.inr (some 91))) rfl ?_
                refine zw_gf hm_43 dX4_cleanAll_95 (v := .inl (mI S11 91 5)) (zT_is hS11 s_91) (zT_t hS11 s_91) rfl f_4_34_4 rfl ?_
                refine zw_cs hm_43 dX4_cleanAll_98 pn_4_57 sl_4_57 hm_54 [.inl (mI S11 91 5), .inl v12] [.inr (.inr (some 91))] rfl ⟨by omega, by omega⟩ rfl ?_
                show ma_wp X (d - 1) (w - 21) 54 0 [(0, .inl v12), (1, .inl (mI S11 91 5))] [] S11 _
                refine zw_push hm_54 dX4_orElse_0 (v := .inl v12) rfl ?_
                refine zw_push hm_54 dX4_orElse_1 (v := .inl (-1 : Int32)) rfl ?_
                refine zw_if2 hm_54 dX4_orElse_2 (t := 9) rfl zc2_ne ?_ ?_
                · intro hc
                  rw [if_neg hc] at h
                  refine zw_push hm_54 dX4_orElse_9 (v := .inl v12) rfl ?_
                  refine zw_iret hm_54 dX4_orElse_10 ?_
                  show ma_wp X d w 43 101 [(0, .inr (.inr (some 91))), (1, .inl l1), (2, .inl l2), (3, .inl l3)] [.inl v12, .inr (.inr (some 91))] S11 _
                  refine zw_pf hm_43 dX4_cleanAll_101 (zT_is hS11 s_91) (zT_t hS11 s_91) p_4_34_4 zk_int ?_
                  refine zw_push hm_43 dX4_cleanAll_104 (v := .inl l1) rfl ?_
                  exact zw_iret hm_43 dX4_cleanAll_105 h
                · intro hc
                  rw [if_pos (Classical.not_not.mp hc)] at h
                  refine zw_push hm_54 dX4_orElse_5 (v := .inl (mI S11 91 5)) rfl ?_
                  refine zw_goto hm_54 dX4_orElse_6 (t := 10) rfl ?_
                  refine zw_iret hm_54 dX4_orElse_10 ?_
                  show ma_wp X d w 43 101 [(0, .inr (.inr (some 91))), (1, .inl l1), (2, .inl l2), (3, .inl l3)] [.inl (mI S11 91 5), .inr (.inr (some 91))] S11 _
                  refine zw_pf hm_43 dX4_cleanAll_101 (zT_is hS11 s_91) (zT_t hS11 s_91) p_4_34_4 zk_int ?_
                  refine zw_push hm_43 dX4_cleanAll_104 (v := .inl l1) rfl ?_
                  exact zw_iret hm_43 dX4_cleanAll_105 h
              · intro x S9 hx
                exact ⟨by decide, hx⟩
      · intro hc
        rw [if_neg hc] at h
        refine zw_push hm_43 dX4_cleanAll_67 (v := .inr (.inr (some 91))) rfl ?_
        refine zw_push hm_43 dX4_cleanAll_68 (v := .inr (.inr (some 91))) rfl ?_
        refine zw_gf hm_43 dX4_cleanAll_69 (v := .inl (mI S 91 6)) (zT_is hS s_91) (zT_t hS s_91) rfl f_4_83_4 rfl ?_
        refine zw_pf hm_43 dX4_cleanAll_72 (zT_is hS s_91) (zT_t hS s_91) p_4_34_4 zk_int ?_
        refine zw_goto hm_43 dX4_cleanAll_75 (t := 104) rfl ?_
        refine zw_push hm_43 dX4_cleanAll_104 (v := .inl l1) rfl ?_
        exact zw_iret hm_43 dX4_cleanAll_105 h
    · intro hc
      rw [if_neg hc] at h
      refine zw_push hm_43 dX4_cleanAll_40 (v := .inr (.inr (some 91))) rfl ?_
      refine zw_push hm_43 dX4_cleanAll_41 (v := .inl l2) rfl ?_
      refine zw_cv hm_43 dX4_cleanAll_42 v_4_89_4 hm_49 [.inl l2] [] rfl (zT_rt hS s_91 rfl) ⟨by omega, by omega⟩ rfl (zw_mono h (zi_go ?_ ?_))
      · intro v14 S13 hv
        obtain ⟨hS13, h⟩ := hv
        refine zw_if0 hm_43 dX4_cleanAll_45 (t := 59) rfl zc0_eq ?_ ?_
        · intro hc
          rw [if_pos hc] at h
          refine zw_push hm_43 dX4_cleanAll_59 (v := .inr (.inr (some 91))) rfl ?_
          refine zw_gf hm_43 dX4_cleanAll_60 (v := .inl (mI S13 91 6)) (zT_is hS13 s_91) (zT_t hS13 s_91) rfl f_4_83_4 rfl ?_
          refine zw_push hm_43 dX4_cleanAll_63 (v := .inl (-1 : Int32)) rfl ?_
          refine zw_if2 hm_43 dX4_cleanAll_64 (t := 78) rfl zc2_eq ?_ ?_
          · intro hc
            rw [if_pos hc] at h
            refine zw_push hm_43 dX4_cleanAll_78 (v := .inr (.inr (some 91))) rfl ?_
            refine zw_push hm_43 dX4_cleanAll_79 (v := .inr (.inr (some 91))) rfl ?_
            refine zw_gf hm_43 dX4_cleanAll_80 (v := .inl (mI S13 91 5)) (zT_is hS13 s_91) (zT_t hS13 s_91) rfl f_4_34_4 rfl ?_
            refine zw_cv hm_43 dX4_cleanAll_83 v_4_93_4 hm_50 [.inl (mI S13 91 5)] [] rfl (zT_rt hS13 s_91 rfl) ⟨by omega, by omega⟩ rfl ?_
            show ma_wp X (d - 1) (w - 21) 50 0 [(0, .inr (.inr (some 91))), (1, .inl (mI S13 91 5))] [] S13 _
            refine zw_push hm_50 dX4_topOf_0 (v := .inl (mI S13 91 5)) rfl ?_
            refine zw_if0 hm_50 dX4_topOf_1 (t := 19) rfl zc0_lt ?_ ?_
            · intro hc
              rw [if_pos hc] at h
              refine zw_push hm_50 dX4_topOf_19 (v := .inl (0 : Int32)) rfl ?_
              refine zw_iret hm_50 dX4_topOf_20 ?_
              show ma_wp X d w 43 86 [(0, .inr (.inr (some 91))), (1, .inl l1), (2, .inl l2), (3, .inl l3)] [.inl (0 : Int32)] S13 _
              refine zw_if0 hm_43 dX4_cleanAll_86 (t := 104) rfl zc0_ne (fun hc => absurd hc (by decide)) (fun _ => ?_)
              refine zw_push hm_43 dX4_cleanAll_89 (v := .inr (.inr (some 91))) rfl ?_
              refine zw_push hm_43 dX4_cleanAll_90 (v := .inr (.inr (some 91))) rfl ?_
              refine zw_cv hm_43 dX4_cleanAll_91 v_4_54_4 hm_52 [] [.inr (.inr (some 91))] rfl (zT_rt hS13 s_91 rfl) ⟨by omega, by omega⟩ rfl (zw_mono h (zi_go ?_ ?_))
              · intro v16 S15 hv
                obtain ⟨hS15, h⟩ := hv
                refine zw_push hm_43 dX4_cleanAll_94 (v := .inr (.inr (some 91))) rfl ?_
                refine zw_gf hm_43 dX4_cleanAll_95 (v := .inl (mI S15 91 5)) (zT_is hS15 s_91) (zT_t hS15 s_91) rfl f_4_34_4 rfl ?_
                refine zw_cs hm_43 dX4_cleanAll_98 pn_4_57 sl_4_57 hm_54 [.inl (mI S15 91 5), .inl v16] [.inr (.inr (some 91))] rfl ⟨by omega, by omega⟩ rfl ?_
                show ma_wp X (d - 1) (w - 21) 54 0 [(0, .inl v16), (1, .inl (mI S15 91 5))] [] S15 _
                refine zw_push hm_54 dX4_orElse_0 (v := .inl v16) rfl ?_
                refine zw_push hm_54 dX4_orElse_1 (v := .inl (-1 : Int32)) rfl ?_
                refine zw_if2 hm_54 dX4_orElse_2 (t := 9) rfl zc2_ne ?_ ?_
                · intro hc
                  rw [if_neg hc] at h
                  refine zw_push hm_54 dX4_orElse_9 (v := .inl v16) rfl ?_
                  refine zw_iret hm_54 dX4_orElse_10 ?_
                  show ma_wp X d w 43 101 [(0, .inr (.inr (some 91))), (1, .inl l1), (2, .inl l2), (3, .inl l3)] [.inl v16, .inr (.inr (some 91))] S15 _
                  refine zw_pf hm_43 dX4_cleanAll_101 (zT_is hS15 s_91) (zT_t hS15 s_91) p_4_34_4 zk_int ?_
                  refine zw_push hm_43 dX4_cleanAll_104 (v := .inl l1) rfl ?_
                  exact zw_iret hm_43 dX4_cleanAll_105 h
                · intro hc
                  rw [if_pos (Classical.not_not.mp hc)] at h
                  refine zw_push hm_54 dX4_orElse_5 (v := .inl (mI S15 91 5)) rfl ?_
                  refine zw_goto hm_54 dX4_orElse_6 (t := 10) rfl ?_
                  refine zw_iret hm_54 dX4_orElse_10 ?_
                  show ma_wp X d w 43 101 [(0, .inr (.inr (some 91))), (1, .inl l1), (2, .inl l2), (3, .inl l3)] [.inl (mI S15 91 5), .inr (.inr (some 91))] S15 _
                  refine zw_pf hm_43 dX4_cleanAll_101 (zT_is hS15 s_91) (zT_t hS15 s_91) p_4_34_4 zk_int ?_
                  refine zw_push hm_43 dX4_cleanAll_104 (v := .inl l1) rfl ?_
                  exact zw_iret hm_43 dX4_cleanAll_105 h
              · intro x S9 hx
                exact ⟨by decide, hx⟩
            · intro hc
              rw [if_neg hc] at h
              refine zw_push hm_50 dX4_topOf_4 (v := .inl (mI S13 91 5)) rfl ?_
              refine zw_push hm_50 dX4_topOf_5 (v := .inl (93 : Int32)) rfl ?_
              refine zw_if2 hm_50 dX4_topOf_7 (t := 19) rfl zc2_ge ?_ ?_
              · intro hc
                rw [if_pos hc] at h
                refine zw_push hm_50 dX4_topOf_19 (v := .inl (0 : Int32)) rfl ?_
                refine zw_iret hm_50 dX4_topOf_20 ?_
                show ma_wp X d w 43 86 [(0, .inr (.inr (some 91))), (1, .inl l1), (2, .inl l2), (3, .inl l3)] [.inl (0 : Int32)] S13 _
                refine zw_if0 hm_43 dX4_cleanAll_86 (t := 104) rfl zc0_ne (fun hc => absurd hc (by decide)) (fun _ => ?_)
                refine zw_push hm_43 dX4_cleanAll_89 (v := .inr (.inr (some 91))) rfl ?_
                refine zw_push hm_43 dX4_cleanAll_90 (v := .inr (.inr (some 91))) rfl ?_
                refine zw_cv hm_43 dX4_cleanAll_91 v_4_54_4 hm_52 [] [.inr (.inr (some 91))] rfl (zT_rt hS13 s_91 rfl) ⟨by omega, by omega⟩ rfl (zw_mono h (zi_go ?_ ?_))
                · intro v18 S17 hv
                  obtain ⟨hS17, h⟩ := hv
                  refine zw_push hm_43 dX4_cleanAll_94 (v := .inr (.inr (some 91))) rfl ?_
                  refine zw_gf hm_43 dX4_cleanAll_95 (v := .inl (mI S17 91 5)) (zT_is hS17 s_91) (zT_t hS17 s_91) rfl f_4_34_4 rfl ?_
                  refine zw_cs hm_43 dX4_cleanAll_98 pn_4_57 sl_4_57 hm_54 [.inl (mI S17 91 5), .inl v18] [.inr (.inr (some 91))] rfl ⟨by omega, by omega⟩ rfl ?_
                  show ma_wp X (d - 1) (w - 21) 54 0 [(0, .inl v18), (1, .inl (mI S17 91 5))] [] S17 _
                  refine zw_push hm_54 dX4_orElse_0 (v := .inl v18) rfl ?_
                  refine zw_push hm_54 dX4_orElse_1 (v := .inl (-1 : Int32)) rfl ?_
                  refine zw_if2 hm_54 dX4_orElse_2 (t := 9) rfl zc2_ne ?_ ?_
                  · intro hc
                    rw [if_neg hc] at h
                    refine zw_push hm_54 dX4_orElse_9 (v := .inl v18) rfl ?_
                    refine zw_iret hm_54 dX4_orElse_10 ?_
                    show ma_wp X d w 43 101 [(0, .inr (.inr (some 91))), (1, .inl l1), (2, .inl l2), (3, .inl l3)] [.inl v18, .inr (.inr (some 91))] S17 _
                    refine zw_pf hm_43 dX4_cleanAll_101 (zT_is hS17 s_91) (zT_t hS17 s_91) p_4_34_4 zk_int ?_
                    refine zw_push hm_43 dX4_cleanAll_104 (v := .inl l1) rfl ?_
                    exact zw_iret hm_43 dX4_cleanAll_105 h
                  · intro hc
                    rw [if_pos (Classical.not_not.mp hc)] at h
                    refine zw_push hm_54 dX4_orElse_5 (v := .inl (mI S17 91 5)) rfl ?_
                    refine zw_goto hm_54 dX4_orElse_6 (t := 10) rfl ?_
                    refine zw_iret hm_54 dX4_orElse_10 ?_
                    show ma_wp X d w 43 101 [(0, .inr (.inr (some 91))), (1, .inl l1), (2, .inl l2), (3, .inl l3)] [.inl (mI S17 91 5), .inr (.inr (some 91))] S17 _
                    refine zw_pf hm_43 dX4_cleanAll_101 (zT_is hS17 s_91) (zT_t hS17 s_91) p_4_34_4 zk_int ?_
                    refine zw_push hm_43 dX4_cleanAll_104 (v := .inl l1) rfl ?_
                    exact zw_iret hm_43 dX4_cleanAll_105 h
                · intro x S9 hx
                  exact ⟨by decide, hx⟩
              · intro hc
                rw [if_neg hc] at h
                refine zw_push hm_50 dX4_topOf_10 (v := .inr (.inr (some 91))) rfl ?_
                refine zw_gf hm_50 dX4_topOf_11 (v := .inr (.inr (some 92))) (zT_is hS13 s_91) (zT_t hS13 s_91) rfl f_4_9_4 (zT_f hS13 r_91_7) ?_
                refine zw_push hm_50 dX4_topOf_14 (v := .inl (mI S13 91 5)) rfl ?_
                obtain ⟨hg, h⟩ := h
                refine zw_ia hm_50 dX4_topOf_15 (zT_is hS13 s_92) (zT_h hS13 s_92) rfl hg ?_
                show ma_wp X (d - 1) (w - 21) 50 16 [(0, .inr (.inr (some 91))), (1, .inl (mI S13 91 5))] [.inl (mI S13 92 (mI S13 91 5).toNatClampNeg)] S13 _
                refine zw_goto hm_50 dX4_topOf_16 (t := 20) rfl ?_
                refine zw_iret hm_50 dX4_topOf_20 ?_
                show ma_wp X d w 43 86 [(0, .inr (.inr (some 91))), (1, .inl l1), (2, .inl l2), (3, .inl l3)] [.inl (mI S13 92 (mI S13 91 5).toNatClampNeg)] S13 _
                refine zw_if0 hm_43 dX4_cleanAll_86 (t := 104) rfl zc0_ne ?_ ?_
                · intro hc
                  rw [if_neg hc] at h
                  refine zw_push hm_43 dX4_cleanAll_104 (v := .inl l1) rfl ?_
                  exact zw_iret hm_43 dX4_cleanAll_105 h
                · intro hc
                  rw [if_pos (Classical.not_not.mp hc)] at h
                  refine zw_push hm_43 dX4_cleanAll_89 (v := .inr (.inr (some 91))) rfl ?_
                  refine zw_push hm_43 dX4_cleanAll_90 (v := .inr (.inr (some 91))) rfl ?_
                  refine zw_cv hm_43 dX4_cleanAll_91 v_4_54_4 hm_52 [] [.inr (.inr (some 91))] rfl (zT_rt hS13 s_91 rfl) ⟨by omega, by omega⟩ rfl (zw_mono h (zi_go ?_ ?_))
                  · intro v20 S19 hv
                    obtain ⟨hS19, h⟩ := hv
                    refine zw_push hm_43 dX4_cleanAll_94 (v := .inr (.inr (some 91))) rfl ?_
                    refine zw_gf hm_43 dX4_cleanAll_95 (v := .inl (mI S19 91 5)) (zT_is hS19 s_91) (zT_t hS19 s_91) rfl f_4_34_4 rfl ?_
                    refine zw_cs hm_43 dX4_cleanAll_98 pn_4_57 sl_4_57 hm_54 [.inl (mI S19 91 5), .inl v20] [.inr (.inr (some 91))] rfl ⟨by omega, by omega⟩ rfl ?_
                    show ma_wp X (d - 1) (w - 21) 54 0 [(0, .inl v20), (1, .inl (mI S19 91 5))] [] S19 _
                    refine zw_push hm_54 dX4_orElse_0 (v := .inl v20) rfl ?_
                    refine zw_push hm_54 dX4_orElse_1 (v := .inl (-1 : Int32)) rfl ?_
                    refine zw_if2 hm_54 dX4_orElse_2 (t := 9) rfl zc2_ne ?_ ?_
                    · intro hc
                      rw [if_neg hc] at h
                      refine zw_push hm_54 dX4_orElse_9 (v := .inl v20) rfl ?_
                      refine zw_iret hm_54 dX4_orElse_10 ?_
                      show ma_wp X d w 43 101 [(0, .inr (.inr (some 91))), (1, .inl l1), (2, .inl l2), (3, .inl l3)] [.inl v20, .inr (.inr (some 91))] S19 _
                      refine zw_pf hm_43 dX4_cleanAll_101 (zT_is hS19 s_91) (zT_t hS19 s_91) p_4_34_4 zk_int ?_
                      refine zw_push hm_43 dX4_cleanAll_104 (v := .inl l1) rfl ?_
                      exact zw_iret hm_43 dX4_cleanAll_105 h
                    · intro hc
                      rw [if_pos (Classical.not_not.mp hc)] at h
                      refine zw_push hm_54 dX4_orElse_5 (v := .inl (mI S19 91 5)) rfl ?_
                      refine zw_goto hm_54 dX4_orElse_6 (t := 10) rfl ?_
                      refine zw_iret hm_54 dX4_orElse_10 ?_
                      show ma_wp X d w 43 101 [(0, .inr (.inr (some 91))), (1, .inl l1), (2, .inl l2), (3, .inl l3)] [.inl (mI S19 91 5), .inr (.inr (some 91))] S19 _
                      refine zw_pf hm_43 dX4_cleanAll_101 (zT_is hS19 s_91) (zT_t hS19 s_91) p_4_34_4 zk_int ?_
                      refine zw_push hm_43 dX4_cleanAll_104 (v := .inl l1) rfl ?_
                      exact zw_iret hm_43 dX4_cleanAll_105 h
                  · intro x S9 hx
                    exact ⟨by decide, hx⟩
          · intro hc
            rw [if_neg hc] at h
            refine zw_push hm_43 dX4_cleanAll_67 (v := .inr (.inr (some 91))) rfl ?_
            refine zw_push hm_43 dX4_cleanAll_68 (v := .inr (.inr (some 91))) rfl ?_
            refine zw_gf hm_43 dX4_cleanAll_69 (v := .inl (mI S13 91 6)) (zT_is hS13 s_91) (zT_t hS13 s_91) rfl f_4_83_4 rfl ?_
            refine zw_pf hm_43 dX4_cleanAll_72 (zT_is hS13 s_91) (zT_t hS13 s_91) p_4_34_4 zk_int ?_
            refine zw_goto hm_43 dX4_cleanAll_75 (t := 104) rfl ?_
            refine zw_push hm_43 dX4_cleanAll_104 (v := .inl l1) rfl ?_
            exact zw_iret hm_43 dX4_cleanAll_105 h
        · intro hc
          rw [if_neg hc] at h
          refine zw_push hm_43 dX4_cleanAll_48 (v := .inr (.inr (some 91))) rfl ?_
          refine zw_cv hm_43 dX4_cleanAll_49 v_4_86_4 hm_48 [] [] rfl (zT_rt hS13 s_91 rfl) ⟨by omega, by omega⟩ rfl (zw_mono h (zi_go ?_ ?_))
          · intro v22 S21 hv
            obtain ⟨hS21, h⟩ := hv
            refine zw_sto hm_43 dX4_cleanAll_52 [(2, .inl v22), (0, .inr (.inr (some 91))), (1, .inl l1), (3, .inl l3)] rfl rfl rfl ?_
            refine zw_sto hm_43 dX4_cleanAll_53 [(3, .inl (l3 + (1 : Int32))), (2, .inl v22), (0, .inr (.inr (some 91))), (1, .inl l1)] rfl rfl rfl ?_
            refine zw_goto hm_43 dX4_cleanAll_56 (t := 29) rfl ?_
            exact zw_sub (ma_nd_of (ks := [0, 1, 2, 3]) rfl (by decide)) (ma_nd_of (ks := [3, 2, 0, 1]) rfl (by decide)) (ma_le_cons rfl (ma_le_cons rfl (ma_le_cons rfl (ma_le_cons rfl (ma_le_nil _))))) h
          · intro x S9 hx
            exact ⟨by decide, hx⟩
      · intro x S9 hx
        exact ⟨by decide, hx⟩
theorem lp_43_91_sz_29 {X : Nat × (Nat → Int32)} {d w : Nat} {f : Nat → Nat → Int32} {r : Nat → Nat → Option Nat} {C Z N : Nat} {Q : Option ma_V ⊕ Nat → ma_S → Prop} {ab : Nat→Nat→Int32} (hd : 4 ≤ d) (hw : 160 ≤ w) (K : ∀ v S₉, zL91 f r C Z N S₉ → (True) → (xB S₉ (mR S₉ 70)) → (aZ S₉ = rCl ab ∧ v = aSv ab ∧ qRv (aZ S₉)) → Q (.inl (some (.inl v))) S₉) : ∀ (n : Nat) (S : ma_S) (l1 : Int32) (l2 : Int32) (l3 : Int32), (93 - l3.toInt).toNat = n → zL91 f r C Z N S → (0 ≤ l3.toInt) → (l3.toInt ≤ 93) → (-1 ≤ l2.toInt) → (l2.toInt ≤ 92) → (xB S (mR S 70)) → (qRv (aZ S) ∧ qLv (aZ S) (mI S 91 6).toInt) → (rOf (93 - l3.toInt).toNat (aZ S) (mI S 91 6).toInt = rC0 ab) → (l2.toInt = rFw (aZ S)) → (l1 = aSv ab) → ma_wp X d w 43 29 [(0, .inr (.inr (some 91))), (1, .inl l1), (2, .inl l2), (3, .inl l3)] [] S Q := by
  intro n
  induction n using Nat.strongRecOn with
  | _ n IH =>
    intro S l1 l2 l3 hmu hI  hi0 hi1 hi2 hi3 hi4 hi5 hi6 hi7 hi8
    refine g_43_91_sz_29 l1 l2 l3 (by omega) (by omega) (zG_T hI) ?_
    have f1 := zG_s hI (-1) (92) (c := 91) (k := 6) (by decide)
    have li2 : (93 : Int32).toInt = 93 := rfl
    have b3 := i_bd l3
    refine zd (fun h4 => ?_) (fun h4 => ?_)
    · skip
      have g5 := i_le h4
      have li6 : (-1 : Int32).toInt = -1 := rfl
      refine zd (fun h7 => ?_) (fun h7 => ?_)
      · skip
        have g8 := i_eq h7
        have f9 := zG_s hI (0) (92) (c := 91) (k := 5) (by decide)
        have li10 : (0 : Int32).toInt = 0 := rfl
        refine zd (fun h11 => ?_) (fun h11 => ?_)
        · skip
          have g12 := i_lt h11
          refine sp_52_91_sz  (by omega) (by omega) hI  (fun v2 S1 eS_S1 hp_v2 rp0_S1 => zi_n ⟨(by rw [eS_S1]; exact zG_T hI), ?_⟩)
          replace eS_S1 := eS_S1.symm; subst eS_S1
          have rp0_S1 : v2.toInt = rLe (aZ S) := rp0_S1
          have b13 := i_bd v2
          refine zd (fun h14 => ?_) (fun h14 => ?_)
          · skip
            have g15 := i_eq h14
            have hI16 : zL91 f r C Z N (ma_put S 91 5 (.inl (mI S 91 5))) := zG_sp hI (0) (92) rfl (by decide) (by decide) (by decide) trivial (by omega) (by omega)
            have b17 := i_bd l1
            exact K (l1) _ hI16 trivial (show xB (ma_put S 91 5 (.inl (mI S 91 5))) (mR (ma_put S 91 5 (.inl (mI S 91 5))) 70) from by first | (exact xB_x (xC_n (c := 91) (k := 5) (x := (mI S 91 5)) (xC_o (W := 75) hi4) ⟨by decide, Or.inl ⟨rfl, rfl⟩⟩).2)) (show aZ (ma_put S 91 5 (.inl (mI S 91 5))) = rCl ab ∧ l1 = aSv ab ∧ qRv (aZ (ma_put S 91 5 (.inl (mI S 91 5)))) from by first | (have hR := hi5.1; have hL := hi5.2; have k := hi6; rw [Of_e (by rw [← hi7]; omega)] at k; have k1 := congrArg Prod.fst k; have k2 := congrArg Prod.snd k; have hl := hL.2.2.2; have p9 : aZ S 87 9 = mI S 91 5 := rfl; have p4 := congrArg Int32.toInt (show aZ S 87 4 = mI S 91 3 from rfl); have h39 := hR.2.2.1.2.2.1; have p9i := congrArg Int32.toInt p9; have p92 : (aZ S 92 (aZ S 87 9).toNatClampNeg).toInt = (mI S 92 (mI S 91 5).toNatClampNeg).toInt := congrArg Int32.toInt (aZ_9 (Or.inl rfl)); have lz := rp0_S1; have ly := Le_y (a := aZ S) (by omega); rw [((Z_p5 (x := (mI S 91 5)) (xC_o (W := 75) hi4).2).trans (congrArg (fun q => ma_u q 87 9 (mI S 91 5)) (show aZ S = aZ S from rfl)))]; exact ⟨Cl_2 k1 k2 (by omega) (by omega) lz (by omega), hi8, Rv_9 hR (by omega) (by omega)⟩) | (have hR := hi5.1; have hL := hi5.2; have k := hi6; rw [Of_e (by rw [← hi7]; omega)] at k; have k1 := congrArg Prod.fst k; have k2 := congrArg Prod.snd k; have hl := hL.2.2.2; have p9 : aZ S 87 9 = mI S 91 5 := rfl; have p4 := congrArg Int32.toInt (show aZ S 87 4 = mI S 91 3 from rfl); have h39 := hR.2.2.1.2.2.1; have p9i := congrArg Int32.toInt p9; have p92 : (aZ S 92 (aZ S 87 9).toNatClampNeg).toInt = (mI S 92 (mI S 91 5).toNatClampNeg).toInt := congrArg Int32.toInt (aZ_9 (Or.inl rfl)); have lz := rp0_S1; rw [((Z_p5 (x := (mI S 91 5)) (xC_o (W := 75) hi4).2).trans (congrArg (fun q => ma_u q 87 9 (mI S 91 5)) (show aZ S = aZ S from rfl)))]; refine ⟨(Cl_3 (b := aZ S) (tg := mI S 91 6) k1 k2 (by omega) (by omega)).1, hi8, Rv_9 hR (by omega) (by omega)⟩) | (have hR := hi5.1; have hL := hi5.2; have k := hi6; rw [show (93 - l3.toInt).toNat = 0 from by omega] at k; have k1 := congrArg Prod.fst k; have k2 := congrArg Prod.snd k; have hl := hL.2.2.2; have p9 : aZ S 87 9 = mI S 91 5 := rfl; have p4 := congrArg Int32.toInt (show aZ S 87 4 = mI S 91 3 from rfl); have h39 := hR.2.2.1.2.2.1; have p9i := congrArg Int32.toInt p9; have p92 : (aZ S 92 (aZ S 87 9).toNatClampNeg).toInt = (mI S 92 (mI S 91 5).toNatClampNeg).toInt := congrArg Int32.toInt (aZ_9 (Or.inl rfl)); have lz := rp0_S1; have ly := Le_y (a := aZ S) (by omega); rw [((Z_p5 (x := (mI S 91 5)) (xC_o (W := 75) hi4).2).trans (congrArg (fun q => ma_u q 87 9 (mI S 91 5)) (show aZ S = aZ S from rfl)))]; exact ⟨Cl_2 k1 k2 (by omega) (by omega) lz (by omega), hi8, Rv_9 hR (by omega) (by omega)⟩) | (have hR := hi5.1; have hL := hi5.2; have k := hi6; rw [show (93 - l3.toInt).toNat = 0 from by omega] at k; have k1 := congrArg Prod.fst k; have k2 := congrArg Prod.snd k; have hl := hL.2.2.2; have p9 : aZ S 87 9 = mI S 91 5 := rfl; have p4 := congrArg Int32.toInt (show aZ S 87 4 = mI S 91 3 from rfl); have h39 := hR.2.2.1.2.2.1; have p9i := congrArg Int32.toInt p9; have p92 : (aZ S 92 (aZ S 87 9).toNatClampNeg).toInt = (mI S 92 (mI S 91 5).toNatClampNeg).toInt := congrArg Int32.toInt (aZ_9 (Or.inl rfl)); have lz := rp0_S1; rw [((Z_p5 (x := (mI S 91 5)) (xC_o (W := 75) hi4).2).trans (congrArg (fun q => ma_u q 87 9 (mI S 91 5)) (show aZ S = aZ S from rfl)))]; refine ⟨(Cl_3 (b := aZ S) (tg := mI S 91 6) k1 k2 (by omega) (by omega)).1, hi8, Rv_9 hR (by omega) (by omega)⟩) | (exfalso; have h39 := hi5.1.2.2.1.2.2.1; have h38 := hi5.1.2.2.1.2.1; have p9i := congrArg Int32.toInt (show aZ S 87 9 = mI S 91 5 from rfl); have p4 := congrArg Int32.toInt (show aZ S 87 4 = mI S 91 3 from rfl); omega))
          · skip
            have g18 := i_ne h14
            have hI19 : zL91 f r C Z N (ma_put S 91 5 (.inl v2)) := zG_sp hI (0) (92) rfl (by decide) (by decide) (by decide) trivial (by omega) (by omega)
            have b20 := i_bd l1
            exact K (l1) _ hI19 trivial (show xB (ma_put S 91 5 (.inl v2)) (mR (ma_put S 91 5 (.inl v2)) 70) from by first | (exact xB_x (xC_n (c := 91) (k := 5) (x := v2) (xC_o (W := 75) hi4) ⟨by decide, Or.inl ⟨rfl, rfl⟩⟩).2)) (show aZ (ma_put S 91 5 (.inl v2)) = rCl ab ∧ l1 = aSv ab ∧ qRv (aZ (ma_put S 91 5 (.inl v2))) from by first | (have hR := hi5.1; have hL := hi5.2; have k := hi6; rw [Of_e (by rw [← hi7]; omega)] at k; have k1 := congrArg Prod.fst k; have k2 := congrArg Prod.snd k; have hl := hL.2.2.2; have p9 : aZ S 87 9 = mI S 91 5 := rfl; have p4 := congrArg Int32.toInt (show aZ S 87 4 = mI S 91 3 from rfl); have h39 := hR.2.2.1.2.2.1; have p9i := congrArg Int32.toInt p9; have p92 : (aZ S 92 (aZ S 87 9).toNatClampNeg).toInt = (mI S 92 (mI S 91 5).toNatClampNeg).toInt := congrArg Int32.toInt (aZ_9 (Or.inl rfl)); have lz := rp0_S1; have ly := Le_y (a := aZ S) (by omega); rw [((Z_p5 (x := v2) (xC_o (W := 75) hi4).2).trans (congrArg (fun q => ma_u q 87 9 v2) (show aZ S = aZ S from rfl)))]; exact ⟨Cl_2 k1 k2 (by omega) (by omega) lz (by omega), hi8, Rv_9 hR (by omega) (by omega)⟩) | (have hR := hi5.1; have hL := hi5.2; have k := hi6; rw [Of_e (by rw [← hi7]; omega)] at k; have k1 := congrArg Prod.fst k; have k2 := congrArg Prod.snd k; have hl := hL.2.2.2; have p9 : aZ S 87 9 = mI S 91 5 := rfl; have p4 := congrArg Int32.toInt (show aZ S 87 4 = mI S 91 3 from rfl); have h39 := hR.2.2.1.2.2.1; have p9i := congrArg Int32.toInt p9; have p92 : (aZ S 92 (aZ S 87 9).toNatClampNeg).toInt = (mI S 92 (mI S 91 5).toNatClampNeg).toInt := congrArg Int32.toInt (aZ_9 (Or.inl rfl)); have lz := rp0_S1; rw [((Z_p5 (x := v2) (xC_o (W := 75) hi4).2).trans (congrArg (fun q => ma_u q 87 9 v2) (show aZ S = aZ S from rfl)))]; refine ⟨(Cl_3 (b := aZ S) (tg := mI S 91 6) k1 k2 (by omega) (by omega)).1, hi8, Rv_9 hR (by omega) (by omega)⟩) | (have hR := hi5.1; have hL := hi5.2; have k := hi6; rw [show (93 - l3.toInt).toNat = 0 from by omega] at k; have k1 := congrArg Prod.fst k; have k2 := congrArg Prod.snd k; have hl := hL.2.2.2; have p9 : aZ S 87 9 = mI S 91 5 := rfl; have p4 := congrArg Int32.toInt (show aZ S 87 4 = mI S 91 3 from rfl); have h39 := hR.2.2.1.2.2.1; have p9i := congrArg Int32.toInt p9; have p92 : (aZ S 92 (aZ S 87 9).toNatClampNeg).toInt = (mI S 92 (mI S 91 5).toNatClampNeg).toInt := congrArg Int32.toInt (aZ_9 (Or.inl rfl)); have lz := rp0_S1; have ly := Le_y (a := aZ S) (by omega); rw [((Z_p5 (x := v2) (xC_o (W := 75) hi4).2).trans (congrArg (fun q => ma_u q 87 9 v2) (show aZ S = aZ S from rfl)))]; exact ⟨Cl_2 k1 k2 (by omega) (by omega) lz (by omega), hi8, Rv_9 hR (by omega) (by omega)⟩) | (have hR := hi5.1; have hL := hi5.2; have k := hi6; rw [show (93 - l3.toInt).toNat = 0 from by omega] at k; have k1 := congrArg Prod.fst k; have k2 := congrArg Prod.snd k; have hl := hL.2.2.2; have p9 : aZ S 87 9 = mI S 91 5 := rfl; have p4 := congrArg Int32.toInt (show aZ S 87 4 = mI S 91 3 from rfl); have h39 := hR.2.2.1.2.2.1; have p9i := congrArg Int32.toInt p9; have p92 : (aZ S 92 (aZ S 87 9).toNatClampNeg).toInt = (mI S 92 (mI S 91 5).toNatClampNeg).toInt := congrArg Int32.toInt (aZ_9 (Or.inl rfl)); have lz := rp0_S1; rw [((Z_p5 (x := v2) (xC_o (W := 75) hi4).2).trans (congrArg (fun q => ma_u q 87 9 v2) (show aZ S = aZ S from rfl)))]; refine ⟨(Cl_3 (b := aZ S) (tg := mI S 91 6) k1 k2 (by omega) (by omega)).1, hi8, Rv_9 hR (by omega) (by omega)⟩) | (exfalso; have h39 := hi5.1.2.2.1.2.2.1; have h38 := hi5.1.2.2.1.2.1; have p9i := congrArg Int32.toInt (show aZ S 87 9 = mI S 91 5 from rfl); have p4 := congrArg Int32.toInt (show aZ S 87 4 = mI S 91 3 from rfl); omega))
        · skip
          have g21 := i_nlt h11
          refine zd (fun h22 => ?_) (fun h22 => ?_)
          · skip
            have g23 := i_le h22
            refine sp_52_91_sz  (by omega) (by omega) hI  (fun v4 S3 eS_S3 hp_v4 rp0_S3 => zi_n ⟨(by rw [eS_S3]; exact zG_T hI), ?_⟩)
            replace eS_S3 := eS_S3.symm; subst eS_S3
            have rp0_S3 : v4.toInt = rLe (aZ S) := rp0_S3
            have b24 := i_bd v4
            refine zd (fun h25 => ?_) (fun h25 => ?_)
            · skip
              have g26 := i_eq h25
              have hI27 : zL91 f r C Z N (ma_put S 91 5 (.inl (mI S 91 5))) := zG_sp hI (0) (92) rfl (by decide) (by decide) (by decide) trivial (by omega) (by omega)
              have b28 := i_bd l1
              exact K (l1) _ hI27 trivial (show xB (ma_put S 91 5 (.inl (mI S 91 5))) (mR (ma_put S 91 5 (.inl (mI S 91 5))) 70) from by first | (exact xB_x (xC_n (c := 91) (k := 5) (x := (mI S 91 5)) (xC_o (W := 75) hi4) ⟨by decide, Or.inl ⟨rfl, rfl⟩⟩).2)) (show aZ (ma_put S 91 5 (.inl (mI S 91 5))) = rCl ab ∧ l1 = aSv ab ∧ qRv (aZ (ma_put S 91 5 (.inl (mI S 91 5)))) from by first | (have hR := hi5.1; have hL := hi5.2; have k := hi6; rw [Of_e (by rw [← hi7]; omega)] at k; have k1 := congrArg Prod.fst k; have k2 := congrArg Prod.snd k; have hl := hL.2.2.2; have p9 : aZ S 87 9 = mI S 91 5 := rfl; have p4 := congrArg Int32.toInt (show aZ S 87 4 = mI S 91 3 from rfl); have h39 := hR.2.2.1.2.2.1; have p9i := congrArg Int32.toInt p9; have p92 : (aZ S 92 (aZ S 87 9).toNatClampNeg).toInt = (mI S 92 (mI S 91 5).toNatClampNeg).toInt := congrArg Int32.toInt (aZ_9 (Or.inl rfl)); have lz := rp0_S3; have ly := Le_y (a := aZ S) (by omega); rw [((Z_p5 (x := (mI S 91 5)) (xC_o (W := 75) hi4).2).trans (congrArg (fun q => ma_u q 87 9 (mI S 91 5)) (show aZ S = aZ S from rfl)))]; exact ⟨Cl_2 k1 k2 (by omega) (by omega) lz (by omega), hi8, Rv_9 hR (by omega) (by omega)⟩) | (have hR := hi5.1; have hL := hi5.2; have k := hi6; rw [Of_e (by rw [← hi7]; omega)] at k; have k1 := congrArg Prod.fst k; have k2 := congrArg Prod.snd k; have hl := hL.2.2.2; have p9 : aZ S 87 9 = mI S 91 5 := rfl; have p4 := congrArg Int32.toInt (show aZ S 87 4 = mI S 91 3 from rfl); have h39 := hR.2.2.1.2.2.1; have p9i := congrArg Int32.toInt p9; have p92 : (aZ S 92 (aZ S 87 9).toNatClampNeg).toInt = (mI S 92 (mI S 91 5).toNatClampNeg).toInt := congrArg Int32.toInt (aZ_9 (Or.inl rfl)); have lz := rp0_S3; rw [((Z_p5 (x := (mI S 91 5)) (xC_o (W := 75) hi4).2).trans (congrArg (fun q => ma_u q 87 9 (mI S 91 5)) (show aZ S = aZ S from rfl)))]; refine ⟨(Cl_3 (b := aZ S) (tg := mI S 91 6) k1 k2 (by omega) (by omega)).1, hi8, Rv_9 hR (by omega) (by omega)⟩) | (have hR := hi5.1; have hL := hi5.2; have k := hi6; rw [show (93 - l3.toInt).toNat = 0 from by omega] at k; have k1 := congrArg Prod.fst k; have k2 := congrArg Prod.snd k; have hl := hL.2.2.2; have p9 : aZ S 87 9 = mI S 91 5 := rfl; have p4 := congrArg Int32.toInt (show aZ S 87 4 = mI S 91 3 from rfl); have h39 := hR.2.2.1.2.2.1; have p9i := congrArg Int32.toInt p9; have p92 : (aZ S 92 (aZ S 87 9).toNatClampNeg).toInt = (mI S 92 (mI S 91 5).toNatClampNeg).toInt := congrArg Int32.toInt (aZ_9 (Or.inl rfl)); have lz := rp0_S3; have ly := Le_y (a := aZ S) (by omega); rw [((Z_p5 (x := (mI S 91 5)) (xC_o (W := 75) hi4).2).trans (congrArg (fun q => ma_u q 87 9 (mI S 91 5)) (show aZ S = aZ S from rfl)))]; exact ⟨Cl_2 k1 k2 (by omega) (by omega) lz (by omega), hi8, Rv_9 hR (by omega) (by omega)⟩) | (have hR := hi5.1; have hL := hi5.2; have k := hi6; rw [show (93 - l3.toInt).toNat = 0 from by omega] at k; have k1 := congrArg Prod.fst k; have k2 := congrArg Prod.snd k; have hl := hL.2.2.2; have p9 : aZ S 87 9 = mI S 91 5 := rfl; have p4 := congrArg Int32.toInt (show aZ S 87 4 = mI S 91 3 from rfl); have h39 := hR.2.2.1.2.2.1; have p9i := congrArg Int32.toInt p9; have p92 : (aZ S 92 (aZ S 87 9).toNatClampNeg).toInt = (mI S 92 (mI S 91 5).toNatClampNeg).toInt := congrArg Int32.toInt (aZ_9 (Or.inl rfl)); have lz := rp0_S3; rw [((Z_p5 (x := (mI S 91 5)) (xC_o (W := 75) hi4).2).trans (congrArg (fun q => ma_u q 87 9 (mI S 91 5)) (show aZ S = aZ S from rfl)))]; refine ⟨(Cl_3 (b := aZ S) (tg := mI S 91 6) k1 k2 (by omega) (by omega)).1, hi8, Rv_9 hR (by omega) (by omega)⟩) | (exfalso; have h39 := hi5.1.2.2.1.2.2.1; have h38 := hi5.1.2.2.1.2.1; have p9i := congrArg Int32.toInt (show aZ S 87 9 = mI S 91 5 from rfl); have p4 := congrArg Int32.toInt (show aZ S 87 4 = mI S 91 3 from rfl); omega))
            · skip
              have g29 := i_ne h25
              have hI30 : zL91 f r C Z N (ma_put S 91 5 (.inl v4)) := zG_sp hI (0) (92) rfl (by decide) (by decide) (by decide) trivial (by omega) (by omega)
              have b31 := i_bd l1
              exact K (l1) _ hI30 trivial (show xB (ma_put S 91 5 (.inl v4)) (mR (ma_put S 91 5 (.inl v4)) 70) from by first | (exact xB_x (xC_n (c := 91) (k := 5) (x := v4) (xC_o (W := 75) hi4) ⟨by decide, Or.inl ⟨rfl, rfl⟩⟩).2)) (show aZ (ma_put S 91 5 (.inl v4)) = rCl ab ∧ l1 = aSv ab ∧ qRv (aZ (ma_put S 91 5 (.inl v4))) from by first | (have hR := hi5.1; have hL := hi5.2; have k := hi6; rw [Of_e (by rw [← hi7]; omega)] at k; have k1 := congrArg Prod.fst k; have k2 := congrArg Prod.snd k; have hl := hL.2.2.2; have p9 : aZ S 87 9 = mI S 91 5 := rfl; have p4 := congrArg Int32.toInt (show aZ S 87 4 = mI S 91 3 from rfl); have h39 := hR.2.2.1.2.2.1; have p9i := congrArg Int32.toInt p9; have p92 : (aZ S 92 (aZ S 87 9).toNatClampNeg).toInt = (mI S 92 (mI S 91 5).toNatClampNeg).toInt := congrArg Int32.toInt (aZ_9 (Or.inl rfl)); have lz := rp0_S3; have ly := Le_y (a := aZ S) (by omega); rw [((Z_p5 (x := v4) (xC_o (W := 75) hi4).2).trans (congrArg (fun q => ma_u q 87 9 v4) (show aZ S = aZ S from rfl)))]; exact ⟨Cl_2 k1 k2 (by omega) (by omega) lz (by omega), hi8, Rv_9 hR (by omega) (by omega)⟩) | (have hR := hi5.1; have hL := hi5.2; have k := hi6; rw [Of_e (by rw [← hi7]; omega)] at k; have k1 := congrArg Prod.fst k; have k2 := congrArg Prod.snd k; have hl := hL.2.2.2; have p9 : aZ S 87 9 = mI S 91 5 := rfl; have p4 := congrArg Int32.toInt (show aZ S 87 4 = mI S 91 3 from rfl); have h39 := hR.2.2.1.2.2.1; have p9i := congrArg Int32.toInt p9; have p92 : (aZ S 92 (aZ S 87 9).toNatClampNeg).toInt = (mI S 92 (mI S 91 5).toNatClampNeg).toInt := congrArg Int32.toInt (aZ_9 (Or.inl rfl)); have lz := rp0_S3; rw [((Z_p5 (x := v4) (xC_o (W := 75) hi4).2).trans (congrArg (fun q => ma_u q 87 9 v4) (show aZ S = aZ S from rfl)))]; refine ⟨(Cl_3 (b := aZ S) (tg := mI S 91 6) k1 k2 (by omega) (by omega)).1, hi8, Rv_9 hR (by omega) (by omega)⟩) | (have hR := hi5.1; have hL := hi5.2; have k := hi6; rw [show (93 - l3.toInt).toNat = 0 from by omega] at k; have k1 := congrArg Prod.fst k; have k2 := congrArg Prod.snd k; have hl := hL.2.2.2; have p9 : aZ S 87 9 = mI S 91 5 := rfl; have p4 := congrArg Int32.toInt (show aZ S 87 4 = mI S 91 3 from rfl); have h39 := hR.2.2.1.2.2.1; have p9i := congrArg Int32.toInt p9; have p92 : (aZ S 92 (aZ S 87 9).toNatClampNeg).toInt = (mI S 92 (mI S 91 5).toNatClampNeg).toInt := congrArg Int32.toInt (aZ_9 (Or.inl rfl)); have lz := rp0_S3; have ly := Le_y (a := aZ S) (by omega); rw [((Z_p5 (x := v4) (xC_o (W := 75) hi4).2).trans (congrArg (fun q => ma_u q 87 9 v4) (show aZ S = aZ S from rfl)))]; exact ⟨Cl_2 k1 k2 (by omega) (by omega) lz (by omega), hi8, Rv_9 hR (by omega) (by omega)⟩) | (have hR := hi5.1; have hL := hi5.2; have k := hi6; rw [show (93 - l3.toInt).toNat = 0 from by omega] at k; have k1 := congrArg Prod.fst k; have k2 := congrArg Prod.snd k; have hl := hL.2.2.2; have p9 : aZ S 87 9 = mI S 91 5 := rfl; have p4 := congrArg Int32.toInt (show aZ S 87 4 = mI S 91 3 from rfl); have h39 := hR.2.2.1.2.2.1; have p9i := congrArg Int32.toInt p9; have p92 : (aZ S 92 (aZ S 87 9).toNatClampNeg).toInt = (mI S 92 (mI S 91 5).toNatClampNeg).toInt := congrArg Int32.toInt (aZ_9 (Or.inl rfl)); have lz := rp0_S3; rw [((Z_p5 (x := v4) (xC_o (W := 75) hi4).2).trans (congrArg (fun q => ma_u q 87 9 v4) (show aZ S = aZ S from rfl)))]; refine ⟨(Cl_3 (b := aZ S) (tg := mI S 91 6) k1 k2 (by omega) (by omega)).1, hi8, Rv_9 hR (by omega) (by omega)⟩) | (exfalso; have h39 := hi5.1.2.2.1.2.2.1; have h38 := hi5.1.2.2.1.2.1; have p9i := congrArg Int32.toInt (show aZ S 87 9 = mI S 91 5 from rfl); have p4 := congrArg Int32.toInt (show aZ S 87 4 = mI S 91 3 from rfl); omega))
          · skip
            have g32 := i_nle h22
            refine ⟨i_ix (by omega) (by omega), ?_⟩
            first | have f33 := zG_a hI 93 (0) (3000) (c := 92) (k := (mI S 91 5).toNatClampNeg) (by decide) (i_ix (n := 93) (by omega) (by omega)).2 | have b34 := i_bd (mI S 92 (mI S 91 5).toNatClampNeg)
            refine zd (fun h35 => ?_) (fun h35 => ?_)
            · skip
              have g36 := i_eq h35
              refine sp_52_91_sz  (by omega) (by omega) hI  (fun v6 S5 eS_S5 hp_v6 rp0_S5 => zi_n ⟨(by rw [eS_S5]; exact zG_T hI), ?_⟩)
              replace eS_S5 := eS_S5.symm; subst eS_S5
              have rp0_S5 : v6.toInt = rLe (aZ S) := rp0_S5
              have b37 := i_bd v6
              refine zd (fun h38 => ?_) (fun h38 => ?_)
              · skip
                have g39 := i_eq h38
                have hI40 : zL91 f r C Z N (ma_put S 91 5 (.inl (mI S 91 5))) := zG_sp hI (0) (92) rfl (by decide) (by decide) (by decide) trivial (by omega) (by omega)
                have b41 := i_bd l1
                exact K (l1) _ hI40 trivial (show xB (ma_put S 91 5 (.inl (mI S 91 5))) (mR (ma_put S 91 5 (.inl (mI S 91 5))) 70) from by first | (exact xB_x (xC_n (c := 91) (k := 5) (x := (mI S 91 5)) (xC_o (W := 75) hi4) ⟨by decide, Or.inl ⟨rfl, rfl⟩⟩).2)) (show aZ (ma_put S 91 5 (.inl (mI S 91 5))) = rCl ab ∧ l1 = aSv ab ∧ qRv (aZ (ma_put S 91 5 (.inl (mI S 91 5)))) from by first | (have hR := hi5.1; have hL := hi5.2; have k := hi6; rw [Of_e (by rw [← hi7]; omega)] at k; have k1 := congrArg Prod.fst k; have k2 := congrArg Prod.snd k; have hl := hL.2.2.2; have p9 : aZ S 87 9 = mI S 91 5 := rfl; have p4 := congrArg Int32.toInt (show aZ S 87 4 = mI S 91 3 from rfl); have h39 := hR.2.2.1.2.2.1; have p9i := congrArg Int32.toInt p9; have p92 : (aZ S 92 (aZ S 87 9).toNatClampNeg).toInt = (mI S 92 (mI S 91 5).toNatClampNeg).toInt := congrArg Int32.toInt (aZ_9 (Or.inl rfl)); have lz := rp0_S5; have ly := Le_y (a := aZ S) (by omega); rw [((Z_p5 (x := (mI S 91 5)) (xC_o (W := 75) hi4).2).trans (congrArg (fun q => ma_u q 87 9 (mI S 91 5)) (show aZ S = aZ S from rfl)))]; exact ⟨Cl_2 k1 k2 (by omega) (by omega) lz (by omega), hi8, Rv_9 hR (by omega) (by omega)⟩) | (have hR := hi5.1; have hL := hi5.2; have k := hi6; rw [Of_e (by rw [← hi7]; omega)] at k; have k1 := congrArg Prod.fst k; have k2 := congrArg Prod.snd k; have hl := hL.2.2.2; have p9 : aZ S 87 9 = mI S 91 5 := rfl; have p4 := congrArg Int32.toInt (show aZ S 87 4 = mI S 91 3 from rfl); have h39 := hR.2.2.1.2.2.1; have p9i := congrArg Int32.toInt p9; have p92 : (aZ S 92 (aZ S 87 9).toNatClampNeg).toInt = (mI S 92 (mI S 91 5).toNatClampNeg).toInt := congrArg Int32.toInt (aZ_9 (Or.inl rfl)); have lz := rp0_S5; rw [((Z_p5 (x := (mI S 91 5)) (xC_o (W := 75) hi4).2).trans (congrArg (fun q => ma_u q 87 9 (mI S 91 5)) (show aZ S = aZ S from rfl)))]; refine ⟨(Cl_3 (b := aZ S) (tg := mI S 91 6) k1 k2 (by omega) (by omega)).1, hi8, Rv_9 hR (by omega) (by omega)⟩) | (have hR := hi5.1; have hL := hi5.2; have k := hi6; rw [show (93 - l3.toInt).toNat = 0 from by omega] at k; have k1 := congrArg Prod.fst k; have k2 := congrArg Prod.snd k; have hl := hL.2.2.2; have p9 : aZ S 87 9 = mI S 91 5 := rfl; have p4 := congrArg Int32.toInt (show aZ S 87 4 = mI S 91 3 from rfl); have h39 := hR.2.2.1.2.2.1; have p9i := congrArg Int32.toInt p9; have p92 : (aZ S 92 (aZ S 87 9).toNatClampNeg).toInt = (mI S 92 (mI S 91 5).toNatClampNeg).toInt := congrArg Int32.toInt (aZ_9 (Or.inl rfl)); have lz := rp0_S5; have ly := Le_y (a := aZ S) (by omega); rw [((Z_p5 (x := (mI S 91 5)) (xC_o (W := 75) hi4).2).trans (congrArg (fun q => ma_u q 87 9 (mI S 91 5)) (show aZ S = aZ S from rfl)))]; exact ⟨Cl_2 k1 k2 (by omega) (by omega) lz (by omega), hi8, Rv_9 hR (by omega) (by omega)⟩) | (have hR := hi5.1; have hL := hi5.2; have k := hi6; rw [show (93 - l3.toInt).toNat = 0 from by omega] at k; have k1 := congrArg Prod.fst k; have k2 := congrArg Prod.snd k; have hl := hL.2.2.2; have p9 : aZ S 87 9 = mI S 91 5 := rfl; have p4 := congrArg Int32.toInt (show aZ S 87 4 = mI S 91 3 from rfl); have h39 := hR.2.2.1.2.2.1; have p9i := congrArg Int32.toInt p9; have p92 : (aZ S 92 (aZ S 87 9).toNatClampNeg).toInt = (mI S 92 (mI S 91 5).toNatClampNeg).toInt := congrArg Int32.toInt (aZ_9 (Or.inl rfl)); have lz := rp0_S5; rw [((Z_p5 (x := (mI S 91 5)) (xC_o (W := 75) hi4).2).trans (congrArg (fun q => ma_u q 87 9 (mI S 91 5)) (show aZ S = aZ S from rfl)))]; refine ⟨(Cl_3 (b := aZ S) (tg := mI S 91 6) k1 k2 (by omega) (by omega)).1, hi8, Rv_9 hR (by omega) (by omega)⟩) | (exfalso; have h39 := hi5.1.2.2.1.2.2.1; have h38 := hi5.1.2.2.1.2.1; have p9i := congrArg Int32.toInt (show aZ S 87 9 = mI S 91 5 from rfl); have p4 := congrArg Int32.toInt (show aZ S 87 4 = mI S 91 3 from rfl); omega))
              · skip
                have g42 := i_ne h38
                have hI43 : zL91 f r C Z N (ma_put S 91 5 (.inl v6)) := zG_sp hI (0) (92) rfl (by decide) (by decide) (by decide) trivial (by omega) (by omega)
                have b44 := i_bd l1
                exact K (l1) _ hI43 trivial (show xB (ma_put S 91 5 (.inl v6)) (mR (ma_put S 91 5 (.inl v6)) 70) from by first | (exact xB_x (xC_n (c := 91) (k := 5) (x := v6) (xC_o (W := 75) hi4) ⟨by decide, Or.inl ⟨rfl, rfl⟩⟩).2)) (show aZ (ma_put S 91 5 (.inl v6)) = rCl ab ∧ l1 = aSv ab ∧ qRv (aZ (ma_put S 91 5 (.inl v6))) from by first | (have hR := hi5.1; have hL := hi5.2; have k := hi6; rw [Of_e (by rw [← hi7]; omega)] at k; have k1 := congrArg Prod.fst k; have k2 := congrArg Prod.snd k; have hl := hL.2.2.2; have p9 : aZ S 87 9 = mI S 91 5 := rfl; have p4 := congrArg Int32.toInt (show aZ S 87 4 = mI S 91 3 from rfl); have h39 := hR.2.2.1.2.2.1; have p9i := congrArg Int32.toInt p9; have p92 : (aZ S 92 (aZ S 87 9).toNatClampNeg).toInt = (mI S 92 (mI S 91 5).toNatClampNeg).toInt := congrArg Int32.toInt (aZ_9 (Or.inl rfl)); have lz := rp0_S5; have ly := Le_y (a := aZ S) (by omega); rw [((Z_p5 (x := v6) (xC_o (W := 75) hi4).2).trans (congrArg (fun q => ma_u q 87 9 v6) (show aZ S = aZ S from rfl)))]; exact ⟨Cl_2 k1 k2 (by omega) (by omega) lz (by omega), hi8, Rv_9 hR (by omega) (by omega)⟩) | (have hR := hi5.1; have hL := hi5.2; have k := hi6; rw [Of_e (by rw [← hi7]; omega)] at k; have k1 := congrArg Prod.fst k; have k2 := congrArg Prod.snd k; have hl := hL.2.2.2; have p9 : aZ S 87 9 = mI S 91 5 := rfl; have p4 := congrArg Int32.toInt (show aZ S 87 4 = mI S 91 3 from rfl); have h39 := hR.2.2.1.2.2.1; have p9i := congrArg Int32.toInt p9; have p92 : (aZ S 92 (aZ S 87 9).toNatClampNeg).toInt = (mI S 92 (mI S 91 5).toNatClampNeg).toInt := congrArg Int32.toInt (aZ_9 (Or.inl rfl)); have lz := rp0_S5; rw [((Z_p5 (x := v6) (xC_o (W := 75) hi4).2).trans (congrArg (fun q => ma_u q 87 9 v6) (show aZ S = aZ S from rfl)))]; refine ⟨(Cl_3 (b := aZ S) (tg := mI S 91 6) k1 k2 (by omega) (by omega)).1, hi8, Rv_9 hR (by omega) (by omega)⟩) | (have hR := hi5.1; have hL := hi5.2; have k := hi6; rw [show (93 - l3.toInt).toNat = 0 from by omega] at k; have k1 := congrArg Prod.fst k; have k2 := congrArg Prod.snd k; have hl := hL.2.2.2; have p9 : aZ S 87 9 = mI S 91 5 := rfl; have p4 := congrArg Int32.toInt (show aZ S 87 4 = mI S 91 3 from rfl); have h39 := hR.2.2.1.2.2.1; have p9i := congrArg Int32.toInt p9; have p92 : (aZ S 92 (aZ S 87 9).toNatClampNeg).toInt = (mI S 92 (mI S 91 5).toNatClampNeg).toInt := congrArg Int32.toInt (aZ_9 (Or.inl rfl)); have lz := rp0_S5; have ly := Le_y (a := aZ S) (by omega); rw [((Z_p5 (x := v6) (xC_o (W := 75) hi4).2).trans (congrArg (fun q => ma_u q 87 9 v6) (show aZ S = aZ S from rfl)))]; exact ⟨Cl_2 k1 k2 (by omega) (by omega) lz (by omega), hi8, Rv_9 hR (by omega) (by omega)⟩) | (have hR := hi5.1; have hL := hi5.2; have k := hi6; rw [show (93 - l3.toInt).toNat = 0 from by omega] at k; have k1 := congrArg Prod.fst k; have k2 := congrArg Prod.snd k; have hl := hL.2.2.2; have p9 : aZ S 87 9 = mI S 91 5 := rfl; have p4 := congrArg Int32.toInt (show aZ S 87 4 = mI S 91 3 from rfl); have h39 := hR.2.2.1.2.2.1; have p9i := congrArg Int32.toInt p9; have p92 : (aZ S 92 (aZ S 87 9).toNatClampNeg).toInt = (mI S 92 (mI S 91 5).toNatClampNeg).toInt := congrArg Int32.toInt (aZ_9 (Or.inl rfl)); have lz := rp0_S5; rw [((Z_p5 (x := v6) (xC_o (W := 75) hi4).2).trans (congrArg (fun q => ma_u q 87 9 v6) (show aZ S = aZ S from rfl)))]; refine ⟨(Cl_3 (b := aZ S) (tg := mI S 91 6) k1 k2 (by omega) (by omega)).1, hi8, Rv_9 hR (by omega) (by omega)⟩) | (exfalso; have h39 := hi5.1.2.2.1.2.2.1; have h38 := hi5.1.2.2.1.2.1; have p9i := congrArg Int32.toInt (show aZ S 87 9 = mI S 91 5 from rfl); have p4 := congrArg Int32.toInt (show aZ S 87 4 = mI S 91 3 from rfl); omega))
            · skip
              have g45 := i_ne h35
              have b46 := i_bd l1
              exact K (l1) _ hI trivial (show xB S (mR S 70) from by first | (exact xB_x (xC_o (W := 75) hi4).2)) (show aZ S = rCl ab ∧ l1 = aSv ab ∧ qRv (aZ S) from by first | (have hR := hi5.1; have hL := hi5.2; have k := hi6; rw [Of_e (by rw [← hi7]; omega)] at k; have k1 := congrArg Prod.fst k; have k2 := congrArg Prod.snd k; have hl := hL.2.2.2; have p9 : aZ S 87 9 = mI S 91 5 := rfl; have p4 := congrArg Int32.toInt (show aZ S 87 4 = mI S 91 3 from rfl); have h39 := hR.2.2.1.2.2.1; have p9i := congrArg Int32.toInt p9; have p92 : (aZ S 92 (aZ S 87 9).toNatClampNeg).toInt = (mI S 92 (mI S 91 5).toNatClampNeg).toInt := congrArg Int32.toInt (aZ_9 (Or.inl rfl)); exact ⟨(Cl_3 (b := aZ S) (tg := mI S 91 6) k1 k2 (by omega) (by omega)).2, hi8, hR⟩) | (have hR := hi5.1; have hL := hi5.2; have k := hi6; rw [show (93 - l3.toInt).toNat = 0 from by omega] at k; have k1 := congrArg Prod.fst k; have k2 := congrArg Prod.snd k; have hl := hL.2.2.2; have p9 : aZ S 87 9 = mI S 91 5 := rfl; have p4 := congrArg Int32.toInt (show aZ S 87 4 = mI S 91 3 from rfl); have h39 := hR.2.2.1.2.2.1; have p9i := congrArg Int32.toInt p9; have p92 : (aZ S 92 (aZ S 87 9).toNatClampNeg).toInt = (mI S 92 (mI S 91 5).toNatClampNeg).toInt := congrArg Int32.toInt (aZ_9 (Or.inl rfl)); exact ⟨(Cl_3 (b := aZ S) (tg := mI S 91 6) k1 k2 (by omega) (by omega)).2, hi8, hR⟩) | (exfalso; have h39 := hi5.1.2.2.1.2.2.1; have h38 := hi5.1.2.2.1.2.1; have p9i := congrArg Int32.toInt (show aZ S 87 9 = mI S 91 5 from rfl); have p4 := congrArg Int32.toInt (show aZ S 87 4 = mI S 91 3 from rfl); omega))
      · skip
        have g47 := i_ne h7
        have hI48 : zL91 f r C Z N (ma_put S 91 5 (.inl (mI S 91 6))) := zG_sp hI (0) (92) rfl (by decide) (by decide) (by decide) trivial (by omega) (by omega)
        have b49 := i_bd l1
        exact K (l1) _ hI48 trivial (show xB (ma_put S 91 5 (.inl (mI S 91 6))) (mR (ma_put S 91 5 (.inl (mI S 91 6))) 70) from by first | (exact xB_x (xC_n (c := 91) (k := 5) (x := (mI S 91 6)) (xC_o (W := 75) hi4) ⟨by decide, Or.inl ⟨rfl, rfl⟩⟩).2)) (show aZ (ma_put S 91 5 (.inl (mI S 91 6))) = rCl ab ∧ l1 = aSv ab ∧ qRv (aZ (ma_put S 91 5 (.inl (mI S 91 6)))) from by first | (have hR := hi5.1; have hL := hi5.2; have k := hi6; rw [Of_e (by rw [← hi7]; omega)] at k; have k1 := congrArg Prod.fst k; have k2 := congrArg Prod.snd k; have hl := hL.2.2.2; have p9 : aZ S 87 9 = mI S 91 5 := rfl; have p4 := congrArg Int32.toInt (show aZ S 87 4 = mI S 91 3 from rfl); have h39 := hR.2.2.1.2.2.1; have p9i := congrArg Int32.toInt p9; have p92 : (aZ S 92 (aZ S 87 9).toNatClampNeg).toInt = (mI S 92 (mI S 91 5).toNatClampNeg).toInt := congrArg Int32.toInt (aZ_9 (Or.inl rfl)); rw [((Z_p5 (x := (mI S 91 6)) (xC_o (W := 75) hi4).2).trans (congrArg (fun q => ma_u q 87 9 (mI S 91 6)) (show aZ S = aZ S from rfl)))]; exact ⟨Cl_1 k1 k2 (by omega), hi8, Rv_9 hR (by omega) (by omega)⟩) | (have hR := hi5.1; have hL := hi5.2; have k := hi6; rw [show (93 - l3.toInt).toNat = 0 from by omega] at k; have k1 := congrArg Prod.fst k; have k2 := congrArg Prod.snd k; have hl := hL.2.2.2; have p9 : aZ S 87 9 = mI S 91 5 := rfl; have p4 := congrArg Int32.toInt (show aZ S 87 4 = mI S 91 3 from rfl); have h39 := hR.2.2.1.2.2.1; have p9i := congrArg Int32.toInt p9; have p92 : (aZ S 92 (aZ S 87 9).toNatClampNeg).toInt = (mI S 92 (mI S 91 5).toNatClampNeg).toInt := congrArg Int32.toInt (aZ_9 (Or.inl rfl)); rw [((Z_p5 (x := (mI S 91 6)) (xC_o (W := 75) hi4).2).trans (congrArg (fun q => ma_u q 87 9 (mI S 91 6)) (show aZ S = aZ S from rfl)))]; exact ⟨Cl_1 k1 k2 (by omega), hi8, Rv_9 hR (by omega) (by omega)⟩) | (exfalso; have h39 := hi5.1.2.2.1.2.2.1; have h38 := hi5.1.2.2.1.2.1; have p9i := congrArg Int32.toInt (show aZ S 87 9 = mI S 91 5 from rfl); have p4 := congrArg Int32.toInt (show aZ S 87 4 = mI S 91 3 from rfl); omega))
    · skip
      have g50 := i_nle h4
      have b51 := i_bd l2
      have li52 : (-1 : Int32).toInt = -1 := rfl
      refine zd (fun h53 => ?_) (fun h53 => ?_)
      · skip
        have g54 := i_eq h53
        refine zd (fun h55 => ?_) (fun h55 => ?_)
        · skip
          have g56 := i_eq h55
          have f57 := zG_s hI (0) (92) (c := 91) (k := 5) (by decide)
          have li58 : (0 : Int32).toInt = 0 := rfl
          refine zd (fun h59 => ?_) (fun h59 => ?_)
          · skip
            have g60 := i_lt h59
            refine sp_52_91_sz  (by omega) (by omega) hI  (fun v8 S7 eS_S7 hp_v8 rp0_S7 => zi_n ⟨(by rw [eS_S7]; exact zG_T hI), ?_⟩)
            replace eS_S7 := eS_S7.symm; subst eS_S7
            have rp0_S7 : v8.toInt = rLe (aZ S) := rp0_S7
            have b61 := i_bd v8
            refine zd (fun h62 => ?_) (fun h62 => ?_)
            · skip
              have g63 := i_eq h62
              have hI64 : zL91 f r C Z N (ma_put S 91 5 (.inl (mI S 91 5))) := zG_sp hI (0) (92) rfl (by decide) (by decide) (by decide) trivial (by omega) (by omega)
              have b65 := i_bd l1
              exact K (l1) _ hI64 trivial (show xB (ma_put S 91 5 (.inl (mI S 91 5))) (mR (ma_put S 91 5 (.inl (mI S 91 5))) 70) from by first | (exact xB_x (xC_n (c := 91) (k := 5) (x := (mI S 91 5)) (xC_o (W := 75) hi4) ⟨by decide, Or.inl ⟨rfl, rfl⟩⟩).2)) (show aZ (ma_put S 91 5 (.inl (mI S 91 5))) = rCl ab ∧ l1 = aSv ab ∧ qRv (aZ (ma_put S 91 5 (.inl (mI S 91 5)))) from by first | (have hR := hi5.1; have hL := hi5.2; have k := hi6; rw [Of_e (by rw [← hi7]; omega)] at k; have k1 := congrArg Prod.fst k; have k2 := congrArg Prod.snd k; have hl := hL.2.2.2; have p9 : aZ S 87 9 = mI S 91 5 := rfl; have p4 := congrArg Int32.toInt (show aZ S 87 4 = mI S 91 3 from rfl); have h39 := hR.2.2.1.2.2.1; have p9i := congrArg Int32.toInt p9; have p92 : (aZ S 92 (aZ S 87 9).toNatClampNeg).toInt = (mI S 92 (mI S 91 5).toNatClampNeg).toInt := congrArg Int32.toInt (aZ_9 (Or.inl rfl)); have lz := rp0_S7; have ly := Le_y (a := aZ S) (by omega); rw [((Z_p5 (x := (mI S 91 5)) (xC_o (W := 75) hi4).2).trans (congrArg (fun q => ma_u q 87 9 (mI S 91 5)) (show aZ S = aZ S from rfl)))]; exact ⟨Cl_2 k1 k2 (by omega) (by omega) lz (by omega), hi8, Rv_9 hR (by omega) (by omega)⟩) | (have hR := hi5.1; have hL := hi5.2; have k := hi6; rw [Of_e (by rw [← hi7]; omega)] at k; have k1 := congrArg Prod.fst k; have k2 := congrArg Prod.snd k; have hl := hL.2.2.2; have p9 : aZ S 87 9 = mI S 91 5 := rfl; have p4 := congrArg Int32.toInt (show aZ S 87 4 = mI S 91 3 from rfl); have h39 := hR.2.2.1.2.2.1; have p9i := congrArg Int32.toInt p9; have p92 : (aZ S 92 (aZ S 87 9).toNatClampNeg).toInt = (mI S 92 (mI S 91 5).toNatClampNeg).toInt := congrArg Int32.toInt (aZ_9 (Or.inl rfl)); have lz := rp0_S7; rw [((Z_p5 (x := (mI S 91 5)) (xC_o (W := 75) hi4).2).trans (congrArg (fun q => ma_u q 87 9 (mI S 91 5)) (show aZ S = aZ S from rfl)))]; refine ⟨(Cl_3 (b := aZ S) (tg := mI S 91 6) k1 k2 (by omega) (by omega)).1, hi8, Rv_9 hR (by omega) (by omega)⟩) | (have hR := hi5.1; have hL := hi5.2; have k := hi6; rw [show (93 - l3.toInt).toNat = 0 from by omega] at k; have k1 := congrArg Prod.fst k; have k2 := congrArg Prod.snd k; have hl := hL.2.2.2; have p9 : aZ S 87 9 = mI S 91 5 := rfl; have p4 := congrArg Int32.toInt (show aZ S 87 4 = mI S 91 3 from rfl); have h39 := hR.2.2.1.2.2.1; have p9i := congrArg Int32.toInt p9; have p92 : (aZ S 92 (aZ S 87 9).toNatClampNeg).toInt = (mI S 92 (mI S 91 5).toNatClampNeg).toInt := congrArg Int32.toInt (aZ_9 (Or.inl rfl)); have lz := rp0_S7; have ly := Le_y (a := aZ S) (by omega); rw [((Z_p5 (x := (mI S 91 5)) (xC_o (W := 75) hi4).2).trans (congrArg (fun q => ma_u q 87 9 (mI S 91 5)) (show aZ S = aZ S from rfl)))]; exact ⟨Cl_2 k1 k2 (by omega) (by omega) lz (by omega), hi8, Rv_9 hR (by omega) (by omega)⟩) | (have hR := hi5.1; have hL := hi5.2; have k := hi6; rw [show (93 - l3.toInt).toNat = 0 from by omega] at k; have k1 := congrArg Prod.fst k; have k2 := congrArg Prod.snd k; have hl := hL.2.2.2; have p9 : aZ S 87 9 = mI S 91 5 := rfl; have p4 := congrArg Int32.toInt (show aZ S 87 4 = mI S 91 3 from rfl); have h39 := hR.2.2.1.2.2.1; have p9i := congrArg Int32.toInt p9; have p92 : (aZ S 92 (aZ S 87 9).toNatClampNeg).toInt = (mI S 92 (mI S 91 5).toNatClampNeg).toInt := congrArg Int32.toInt (aZ_9 (Or.inl rfl)); have lz := rp0_S7; rw [((Z_p5 (x := (mI S 91 5)) (xC_o (W := 75) hi4).2).trans (congrArg (fun q => ma_u q 87 9 (mI S 91 5)) (show aZ S = aZ S from rfl)))]; refine ⟨(Cl_3 (b := aZ S) (tg := mI S 91 6) k1 k2 (by omega) (by omega)).1, hi8, Rv_9 hR (by omega) (by omega)⟩) | (exfalso; have h39 := hi5.1.2.2.1.2.2.1; have h38 := hi5.1.2.2.1.2.1; have p9i := congrArg Int32.toInt (show aZ S 87 9 = mI S 91 5 from rfl); have p4 := congrArg Int32.toInt (show aZ S 87 4 = mI S 91 3 from rfl); omega))
            · skip
              have g66 := i_ne h62
              have hI67 : zL91 f r C Z N (ma_put S 91 5 (.inl v8)) := zG_sp hI (0) (92) rfl (by decide) (by decide) (by decide) trivial (by omega) (by omega)
              have b68 := i_bd l1
              exact K (l1) _ hI67 trivial (show xB (ma_put S 91 5 (.inl v8)) (mR (ma_put S 91 5 (.inl v8)) 70) from by first | (exact xB_x (xC_n (c := 91) (k := 5) (x := v8) (xC_o (W := 75) hi4) ⟨by decide, Or.inl ⟨rfl, rfl⟩⟩).2)) (show aZ (ma_put S 91 5 (.inl v8)) = rCl ab ∧ l1 = aSv ab ∧ qRv (aZ (ma_put S 91 5 (.inl v8))) from by first | (have hR := hi5.1; have hL := hi5.2; have k := hi6; rw [Of_e (by rw [← hi7]; omega)] at k; have k1 := congrArg Prod.fst k; have k2 := congrArg Prod.snd k; have hl := hL.2.2.2; have p9 : aZ S 87 9 = mI S 91 5 := rfl; have p4 := congrArg Int32.toInt (show aZ S 87 4 = mI S 91 3 from rfl); have h39 := hR.2.2.1.2.2.1; have p9i := congrArg Int32.toInt p9; have p92 : (aZ S 92 (aZ S 87 9).toNatClampNeg).toInt = (mI S 92 (mI S 91 5).toNatClampNeg).toInt := congrArg Int32.toInt (aZ_9 (Or.inl rfl)); have lz := rp0_S7; have ly := Le_y (a := aZ S) (by omega); rw [((Z_p5 (x := v8) (xC_o (W := 75) hi4).2).trans (congrArg (fun q => ma_u q 87 9 v8) (show aZ S = aZ S from rfl)))]; exact ⟨Cl_2 k1 k2 (by omega) (by omega) lz (by omega), hi8, Rv_9 hR (by omega) (by omega)⟩) | (have hR := hi5.1; have hL := hi5.2; have k := hi6; rw [Of_e (by rw [← hi7]; omega)] at k; have k1 := congrArg Prod.fst k; have k2 := congrArg Prod.snd k; have hl := hL.2.2.2; have p9 : aZ S 87 9 = mI S 91 5 := rfl; have p4 := congrArg Int32.toInt (show aZ S 87 4 = mI S 91 3 from rfl); have h39 := hR.2.2.1.2.2.1; have p9i := congrArg Int32.toInt p9; have p92 : (aZ S 92 (aZ S 87 9).toNatClampNeg).toInt = (mI S 92 (mI S 91 5).toNatClampNeg).toInt := congrArg Int32.toInt (aZ_9 (Or.inl rfl)); have lz := rp0_S7; rw [((Z_p5 (x := v8) (xC_o (W := 75) hi4).2).trans (congrArg (fun q => ma_u q 87 9 v8) (show aZ S = aZ S from rfl)))]; refine ⟨(Cl_3 (b := aZ S) (tg := mI S 91 6) k1 k2 (by omega) (by omega)).1, hi8, Rv_9 hR (by omega) (by omega)⟩) | (have hR := hi5.1; have hL := hi5.2; have k := hi6; rw [show (93 - l3.toInt).toNat = 0 from by omega] at k; have k1 := congrArg Prod.fst k; have k2 := congrArg Prod.snd k; have hl := hL.2.2.2; have p9 : aZ S 87 9 = mI S 91 5 := rfl; have p4 := congrArg Int32.toInt (show aZ S 87 4 = mI S 91 3 from rfl); have h39 := hR.2.2.1.2.2.1; have p9i := congrArg Int32.toInt p9; have p92 : (aZ S 92 (aZ S 87 9).toNatClampNeg).toInt = (mI S 92 (mI S 91 5).toNatClampNeg).toInt := congrArg Int32.toInt (aZ_9 (Or.inl rfl)); have lz := rp0_S7; have ly := Le_y (a := aZ S) (by omega); rw [((Z_p5 (x := v8) (xC_o (W := 75) hi4).2).trans (congrArg (fun q => ma_u q 87 9 v8) (show aZ S = aZ S from rfl)))]; exact ⟨Cl_2 k1 k2 (by omega) (by omega) lz (by omega), hi8, Rv_9 hR (by omega) (by omega)⟩) | (have hR := hi5.1; have hL := hi5.2; have k := hi6; rw [show (93 - l3.toInt).toNat = 0 from by omega] at k; have k1 := congrArg Prod.fst k; have k2 := congrArg Prod.snd k; have hl := hL.2.2.2; have p9 : aZ S 87 9 = mI S 91 5 := rfl; have p4 := congrArg Int32.toInt (show aZ S 87 4 = mI S 91 3 from rfl); have h39 := hR.2.2.1.2.2.1; have p9i := congrArg Int32.toInt p9; have p92 : (aZ S 92 (aZ S 87 9).toNatClampNeg).toInt = (mI S 92 (mI S 91 5).toNatClampNeg).toInt := congrArg Int32.toInt (aZ_9 (Or.inl rfl)); have lz := rp0_S7; rw [((Z_p5 (x := v8) (xC_o (W := 75) hi4).2).trans (congrArg (fun q => ma_u q 87 9 v8) (show aZ S = aZ S from rfl)))]; refine ⟨(Cl_3 (b := aZ S) (tg := mI S 91 6) k1 k2 (by omega) (by omega)).1, hi8, Rv_9 hR (by omega) (by omega)⟩) | (exfalso; have h39 := hi5.1.2.2.1.2.2.1; have h38 := hi5.1.2.2.1.2.1; have p9i := congrArg Int32.toInt (show aZ S 87 9 = mI S 91 5 from rfl); have p4 := congrArg Int32.toInt (show aZ S 87 4 = mI S 91 3 from rfl); omega))
          · skip
            have g69 := i_nlt h59
            refine zd (fun h70 => ?_) (fun h70 => ?_)
            · skip
              have g71 := i_le h70
              refine sp_52_91_sz  (by omega) (by omega) hI  (fun v10 S9 eS_S9 hp_v10 rp0_S9 => zi_n ⟨(by rw [eS_S9]; exact zG_T hI), ?_⟩)
              replace eS_S9 := eS_S9.symm; subst eS_S9
              have rp0_S9 : v10.toInt = rLe (aZ S) := rp0_S9
              have b72 := i_bd v10
              refine zd (fun h73 => ?_) (fun h73 => ?_)
              · skip
                have g74 := i_eq h73
                have hI75 : zL91 f r C Z N (ma_put S 91 5 (.inl (mI S 91 5))) := zG_sp hI (0) (92) rfl (by decide) (by decide) (by decide) trivial (by omega) (by omega)
                have b76 := i_bd l1
                exact K (l1) _ hI75 trivial (show xB (ma_put S 91 5 (.inl (mI S 91 5))) (mR (ma_put S 91 5 (.inl (mI S 91 5))) 70) from by first | (exact xB_x (xC_n (c := 91) (k := 5) (x := (mI S 91 5)) (xC_o (W := 75) hi4) ⟨by decide, Or.inl ⟨rfl, rfl⟩⟩).2)) (show aZ (ma_put S 91 5 (.inl (mI S 91 5))) = rCl ab ∧ l1 = aSv ab ∧ qRv (aZ (ma_put S 91 5 (.inl (mI S 91 5)))) from by first | (have hR := hi5.1; have hL := hi5.2; have k := hi6; rw [Of_e (by rw [← hi7]; omega)] at k; have k1 := congrArg Prod.fst k; have k2 := congrArg Prod.snd k; have hl := hL.2.2.2; have p9 : aZ S 87 9 = mI S 91 5 := rfl; have p4 := congrArg Int32.toInt (show aZ S 87 4 = mI S 91 3 from rfl); have h39 := hR.2.2.1.2.2.1; have p9i := congrArg Int32.toInt p9; have p92 : (aZ S 92 (aZ S 87 9).toNatClampNeg).toInt = (mI S 92 (mI S 91 5).toNatClampNeg).toInt := congrArg Int32.toInt (aZ_9 (Or.inl rfl)); have lz := rp0_S9; have ly := Le_y (a := aZ S) (by omega); rw [((Z_p5 (x := (mI S 91 5)) (xC_o (W := 75) hi4).2).trans (congrArg (fun q => ma_u q 87 9 (mI S 91 5)) (show aZ S = aZ S from rfl)))]; exact ⟨Cl_2 k1 k2 (by omega) (by omega) lz (by omega), hi8, Rv_9 hR (by omega) (by omega)⟩) | (have hR := hi5.1; have hL := hi5.2; have k := hi6; rw [Of_e (by rw [← hi7]; omega)] at k; have k1 := congrArg Prod.fst k; have k2 := congrArg Prod.snd k; have hl := hL.2.2.2; have p9 : aZ S 87 9 = mI S 91 5 := rfl; have p4 := congrArg Int32.toInt (show aZ S 87 4 = mI S 91 3 from rfl); have h39 := hR.2.2.1.2.2.1; have p9i := congrArg Int32.toInt p9; have p92 : (aZ S 92 (aZ S 87 9).toNatClampNeg).toInt = (mI S 92 (mI S 91 5).toNatClampNeg).toInt := congrArg Int32.toInt (aZ_9 (Or.inl rfl)); have lz := rp0_S9; rw [((Z_p5 (x := (mI S 91 5)) (xC_o (W := 75) hi4).2).trans (congrArg (fun q => ma_u q 87 9 (mI S 91 5)) (show aZ S = aZ S from rfl)))]; refine ⟨(Cl_3 (b := aZ S) (tg := mI S 91 6) k1 k2 (by omega) (by omega)).1, hi8, Rv_9 hR (by omega) (by omega)⟩) | (have hR := hi5.1; have hL := hi5.2; have k := hi6; rw [show (93 - l3.toInt).toNat = 0 from by omega] at k; have k1 := congrArg Prod.fst k; have k2 := congrArg Prod.snd k; have hl := hL.2.2.2; have p9 : aZ S 87 9 = mI S 91 5 := rfl; have p4 := congrArg Int32.toInt (show aZ S 87 4 = mI S 91 3 from rfl); have h39 := hR.2.2.1.2.2.1; have p9i := congrArg Int32.toInt p9; have p92 : (aZ S 92 (aZ S 87 9).toNatClampNeg).toInt = (mI S 92 (mI S 91 5).toNatClampNeg).toInt := congrArg Int32.toInt (aZ_9 (Or.inl rfl)); have lz := rp0_S9; have ly := Le_y (a := aZ S) (by omega); rw [((Z_p5 (x := (mI S 91 5)) (xC_o (W := 75) hi4).2).trans (congrArg (fun q => ma_u q 87 9 (mI S 91 5)) (show aZ S = aZ S from rfl)))]; exact ⟨Cl_2 k1 k2 (by omega) (by omega) lz (by omega), hi8, Rv_9 hR (by omega) (by omega)⟩) | (have hR := hi5.1; have hL := hi5.2; have k := hi6; rw [show (93 - l3.toInt).toNat = 0 from by omega] at k; have k1 := congrArg Prod.fst k; have k2 := congrArg Prod.snd k; have hl := hL.2.2.2; have p9 : aZ S 87 9 = mI S 91 5 := rfl; have p4 := congrArg Int32.toInt (show aZ S 87 4 = mI S 91 3 from rfl); have h39 := hR.2.2.1.2.2.1; have p9i := congrArg Int32.toInt p9; have p92 : (aZ S 92 (aZ S 87 9).toNatClampNeg).toInt = (mI S 92 (mI S 91 5).toNatClampNeg).toInt := congrArg Int32.toInt (aZ_9 (Or.inl rfl)); have lz := rp0_S9; rw [((Z_p5 (x := (mI S 91 5)) (xC_o (W := 75) hi4).2).trans (congrArg (fun q => ma_u q 87 9 (mI S 91 5)) (show aZ S = aZ S from rfl)))]; refine ⟨(Cl_3 (b := aZ S) (tg := mI S 91 6) k1 k2 (by omega) (by omega)).1, hi8, Rv_9 hR (by omega) (by omega)⟩) | (exfalso; have h39 := hi5.1.2.2.1.2.2.1; have h38 := hi5.1.2.2.1.2.1; have p9i := congrArg Int32.toInt (show aZ S 87 9 = mI S 91 5 from rfl); have p4 := congrArg Int32.toInt (show aZ S 87 4 = mI S 91 3 from rfl); omega))
              · skip
                have g77 := i_ne h73
                have hI78 : zL91 f r C Z N (ma_put S 91 5 (.inl v10)) := zG_sp hI (0) (92) rfl (by decide) (by decide) (by decide) trivial (by omega) (by omega)
                have b79 := i_bd l1
                exact K (l1) _ hI78 trivial (show xB (ma_put S 91 5 (.inl v10)) (mR (ma_put S 91 5 (.inl v10)) 70) from by first | (exact xB_x (xC_n (c := 91) (k := 5) (x := v10) (xC_o (W := 75) hi4) ⟨by decide, Or.inl ⟨rfl, rfl⟩⟩).2)) (show aZ (ma_put S 91 5 (.inl v10)) = rCl ab ∧ l1 = aSv ab ∧ qRv (aZ (ma_put S 91 5 (.inl v10))) from by first | (have hR := hi5.1; have hL := hi5.2; have k := hi6; rw [Of_e (by rw [← hi7]; omega)] at k; have k1 := congrArg Prod.fst k; have k2 := congrArg Prod.snd k; have hl := hL.2.2.2; have p9 : aZ S 87 9 = mI S 91 5 := rfl; have p4 := congrArg Int32.toInt (show aZ S 87 4 = mI S 91 3 from rfl); have h39 := hR.2.2.1.2.2.1; have p9i := congrArg Int32.toInt p9; have p92 : (aZ S 92 (aZ S 87 9).toNatClampNeg).toInt = (mI S 92 (mI S 91 5).toNatClampNeg).toInt := congrArg Int32.toInt (aZ_9 (Or.inl rfl)); have lz := rp0_S9; have ly := Le_y (a := aZ S) (by omega); rw [((Z_p5 (x := v10) (xC_o (W := 75) hi4).2).trans (congrArg (fun q => ma_u q 87 9 v10) (show aZ S = aZ S from rfl)))]; exact ⟨Cl_2 k1 k2 (by omega) (by omega) lz (by omega), hi8, Rv_9 hR (by omega) (by omega)⟩) | (have hR := hi5.1; have hL := hi5.2; have k := hi6; rw [Of_e (by rw [← hi7]; omega)] at k; have k1 := congrArg Prod.fst k; have k2 := congrArg Prod.snd k; have hl := hL.2.2.2; have p9 : aZ S 87 9 = mI S 91 5 := rfl; have p4 := congrArg Int32.toInt (show aZ S 87 4 = mI S 91 3 from rfl); have h39 := hR.2.2.1.2.2.1; have p9i := congrArg Int32.toInt p9; have p92 : (aZ S 92 (aZ S 87 9).toNatClampNeg).toInt = (mI S 92 (mI S 91 5).toNatClampNeg).toInt := congrArg Int32.toInt (aZ_9 (Or.inl rfl)); have lz := rp0_S9; rw [((Z_p5 (x := v10) (xC_o (W := 75) hi4).2).trans (congrArg (fun q => ma_u q 87 9 v10) (show aZ S = aZ S from rfl)))]; refine ⟨(Cl_3 (b := aZ S) (tg := mI S 91 6) k1 k2 (by omega) (by omega)).1, hi8, Rv_9 hR (by omega) (by omega)⟩) | (have hR := hi5.1; have hL := hi5.2; have k := hi6; rw [show (93 - l3.toInt).toNat = 0 from by omega] at k; have k1 := congrArg Prod.fst k; have k2 := congrArg Prod.snd k; have hl := hL.2.2.2; have p9 : aZ S 87 9 = mI S 91 5 := rfl; have p4 := congrArg Int32.toInt (show aZ S 87 4 = mI S 91 3 from rfl); have h39 := hR.2.2.1.2.2.1; have p9i := congrArg Int32.toInt p9; have p92 : (aZ S 92 (aZ S 87 9).toNatClampNeg).toInt = (mI S 92 (mI S 91 5).toNatClampNeg).toInt := congrArg Int32.toInt (aZ_9 (Or.inl rfl)); have lz := rp0_S9; have ly := Le_y (a := aZ S) (by omega); rw [((Z_p5 (x := v10) (xC_o (W := 75) hi4).2).trans (congrArg (fun q => ma_u q 87 9 v10) (show aZ S = aZ S from rfl)))]; exact ⟨Cl_2 k1 k2 (by omega) (by omega) lz (by omega), hi8, Rv_9 hR (by omega) (by omega)⟩) | (have hR := hi5.1; have hL := hi5.2; have k := hi6; rw [show (93 - l3.toInt).toNat = 0 from by omega] at k; have k1 := congrArg Prod.fst k; have k2 := congrArg Prod.snd k; have hl := hL.2.2.2; have p9 : aZ S 87 9 = mI S 91 5 := rfl; have p4 := congrArg Int32.toInt (show aZ S 87 4 = mI S 91 3 from rfl); have h39 := hR.2.2.1.2.2.1; have p9i := congrArg Int32.toInt p9; have p92 : (aZ S 92 (aZ S 87 9).toNatClampNeg).toInt = (mI S 92 (mI S 91 5).toNatClampNeg).toInt := congrArg Int32.toInt (aZ_9 (Or.inl rfl)); have lz := rp0_S9; rw [((Z_p5 (x := v10) (xC_o (W := 75) hi4).2).trans (congrArg (fun q => ma_u q 87 9 v10) (show aZ S = aZ S from rfl)))]; refine ⟨(Cl_3 (b := aZ S) (tg := mI S 91 6) k1 k2 (by omega) (by omega)).1, hi8, Rv_9 hR (by omega) (by omega)⟩) | (exfalso; have h39 := hi5.1.2.2.1.2.2.1; have h38 := hi5.1.2.2.1.2.1; have p9i := congrArg Int32.toInt (show aZ S 87 9 = mI S 91 5 from rfl); have p4 := congrArg Int32.toInt (show aZ S 87 4 = mI S 91 3 from rfl); omega))
            · skip
              have g80 := i_nle h70
              refine ⟨i_ix (by omega) (by omega), ?_⟩
              first | have f81 := zG_a hI 93 (0) (3000) (c := 92) (k := (mI S 91 5).toNatClampNeg) (by decide) (i_ix (n := 93) (by omega) (by omega)).2 | have b82 := i_bd (mI S 92 (mI S 91 5).toNatClampNeg)
              refine zd (fun h83 => ?_) (fun h83 => ?_)
              · skip
                have g84 := i_eq h83
                refine sp_52_91_sz  (by omega) (by omega) hI  (fun v12 S11 eS_S11 hp_v12 rp0_S11 => zi_n ⟨(by rw [eS_S11]; exact zG_T hI), ?_⟩)
                replace eS_S11 := eS_S11.symm; subst eS_S11
                have rp0_S11 : v12.toInt = rLe (aZ S) := rp0_S11
                have b85 := i_bd v12
                refine zd (fun h86 => ?_) (fun h86 => ?_)
                · skip
                  have g87 := i_eq h86
                  have hI88 : zL91 f r C Z N (ma_put S 91 5 (.inl (mI S 91 5))) := zG_sp hI (0) (92) rfl (by decide) (by decide) (by decide) trivial (by omega) (by omega)
                  have b89 := i_bd l1
                  exact K (l1) _ hI88 trivial (show xB (ma_put S 91 5 (.inl (mI S 91 5))) (mR (ma_put S 91 5 (.inl (mI S 91 5))) 70) from by first | (exact xB_x (xC_n (c := 91) (k := 5) (x := (mI S 91 5)) (xC_o (W := 75) hi4) ⟨by decide, Or.inl ⟨rfl, rfl⟩⟩).2)) (show aZ (ma_put S 91 5 (.inl (mI S 91 5))) = rCl ab ∧ l1 = aSv ab ∧ qRv (aZ (ma_put S 91 5 (.inl (mI S 91 5)))) from by first | (have hR := hi5.1; have hL := hi5.2; have k := hi6; rw [Of_e (by rw [← hi7]; omega)] at k; have k1 := congrArg Prod.fst k; have k2 := congrArg Prod.snd k; have hl := hL.2.2.2; have p9 : aZ S 87 9 = mI S 91 5 := rfl; have p4 := congrArg Int32.toInt (show aZ S 87 4 = mI S 91 3 from rfl); have h39 := hR.2.2.1.2.2.1; have p9i := congrArg Int32.toInt p9; have p92 : (aZ S 92 (aZ S 87 9).toNatClampNeg).toInt = (mI S 92 (mI S 91 5).toNatClampNeg).toInt := congrArg Int32.toInt (aZ_9 (Or.inl rfl)); have lz := rp0_S11; have ly := Le_y (a := aZ S) (by omega); rw [((Z_p5 (x := (mI S 91 5)) (xC_o (W := 75) hi4).2).trans (congrArg (fun q => ma_u q 87 9 (mI S 91 5)) (show aZ S = aZ S from rfl)))]; exact ⟨Cl_2 k1 k2 (by omega) (by omega) lz (by omega), hi8, Rv_9 hR (by omega) (by omega)⟩) | (have hR := hi5.1; have hL := hi5.2; have k := hi6; rw [Of_e (by rw [← hi7]; omega)] at k; have k1 := congrArg Prod.fst k; have k2 := congrArg Prod.snd k; have hl := hL.2.2.2; have p9 : aZ S 87 9 = mI S 91 5 := rfl; have p4 := congrArg Int32.toInt (show aZ S 87 4 = mI S 91 3 from rfl); have h39 := hR.2.2.1.2.2.1; have p9i := congrArg Int32.toInt p9; have p92 : (aZ S 92 (aZ S 87 9).toNatClampNeg).toInt = (mI S 92 (mI S 91 5).toNatClampNeg).toInt := congrArg Int32.toInt (aZ_9 (Or.inl rfl)); have lz := rp0_S11; rw [((Z_p5 (x := (mI S 91 5)) (xC_o (W := 75) hi4).2).trans (congrArg (fun q => ma_u q 87 9 (mI S 91 5)) (show aZ S = aZ S from rfl)))]; refine ⟨(Cl_3 (b := aZ S) (tg := mI S 91 6) k1 k2 (by omega) (by omega)).1, hi8, Rv_9 hR (by omega) (by omega)⟩) | (have hR := hi5.1; have hL := hi5.2; have k := hi6; rw [show (93 - l3.toInt).toNat = 0 from by omega] at k; have k1 := congrArg Prod.fst k; have k2 := congrArg Prod.snd k; have hl := hL.2.2.2; have p9 : aZ S 87 9 = mI S 91 5 := rfl; have p4 := congrArg Int32.toInt (show aZ S 87 4 = mI S 91 3 from rfl); have h39 := hR.2.2.1.2.2.1; have p9i := congrArg Int32.toInt p9; have p92 : (aZ S 92 (aZ S 87 9).toNatClampNeg).toInt = (mI S 92 (mI S 91 5).toNatClampNeg).toInt := congrArg Int32.toInt (aZ_9 (Or.inl rfl)); have lz := rp0_S11; have ly := Le_y (a := aZ S) (by omega); rw [((Z_p5 (x := (mI S 91 5)) (xC_o (W := 75) hi4).2).trans (congrArg (fun q => ma_u q 87 9 (mI S 91 5)) (show aZ S = aZ S from rfl)))]; exact ⟨Cl_2 k1 k2 (by omega) (by omega) lz (by omega), hi8, Rv_9 hR (by omega) (by omega)⟩) | (have hR := hi5.1; have hL := hi5.2; have k := hi6; rw [show (93 - l3.toInt).toNat = 0 from by omega] at k; have k1 := congrArg Prod.fst k; have k2 := congrArg Prod.snd k; have hl := hL.2.2.2; have p9 : aZ S 87 9 = mI S 91 5 := rfl; have p4 := congrArg Int32.toInt (show aZ S 87 4 = mI S 91 3 from rfl); have h39 := hR.2.2.1.2.2.1; have p9i := congrArg Int32.toInt p9; have p92 : (aZ S 92 (aZ S 87 9).toNatClampNeg).toInt = (mI S 92 (mI S 91 5).toNatClampNeg).toInt := congrArg Int32.toInt (aZ_9 (Or.inl rfl)); have lz := rp0_S11; rw [((Z_p5 (x := (mI S 91 5)) (xC_o (W := 75) hi4).2).trans (congrArg (fun q => ma_u q 87 9 (mI S 91 5)) (show aZ S = aZ S from rfl)))]; refine ⟨(Cl_3 (b := aZ S) (tg := mI S 91 6) k1 k2 (by omega) (by omega)).1, hi8, Rv_9 hR (by omega) (by omega)⟩) | (exfalso; have h39 := hi5.1.2.2.1.2.2.1; have h38 := hi5.1.2.2.1.2.1; have p9i := congrArg Int32.toInt (show aZ S 87 9 = mI S 91 5 from rfl); have p4 := congrArg Int32.toInt (show aZ S 87 4 = mI S 91 3 from rfl); omega))
                · skip
                  have g90 := i_ne h86
                  have hI91 : zL91 f r C Z N (ma_put S 91 5 (.inl v12)) := zG_sp hI (0) (92) rfl (by decide) (by decide) (by decide) trivial (by omega) (by omega)
                  have b92 := i_bd l1
                  exact K (l1) _ hI91 trivial (show xB (ma_put S 91 5 (.inl v12)) (mR (ma_put S 91 5 (.inl v12)) 70) from by first | (exact xB_x (xC_n (c := 91) (k := 5) (x := v12) (xC_o (W := 75) hi4) ⟨by decide, Or.inl ⟨rfl, rfl⟩⟩).2)) (show aZ (ma_put S 91 5 (.inl v12)) = rCl ab ∧ l1 = aSv ab ∧ qRv (aZ (ma_put S 91 5 (.inl v12))) from by first | (have hR := hi5.1; have hL := hi5.2; have k := hi6; rw [Of_e (by rw [← hi7]; omega)] at k; have k1 := congrArg Prod.fst k; have k2 := congrArg Prod.snd k; have hl := hL.2.2.2; have p9 : aZ S 87 9 = mI S 91 5 := rfl; have p4 := congrArg Int32.toInt (show aZ S 87 4 = mI S 91 3 from rfl); have h39 := hR.2.2.1.2.2.1; have p9i := congrArg Int32.toInt p9; have p92 : (aZ S 92 (aZ S 87 9).toNatClampNeg).toInt = (mI S 92 (mI S 91 5).toNatClampNeg).toInt := congrArg Int32.toInt (aZ_9 (Or.inl rfl)); have lz := rp0_S11; have ly := Le_y (a := aZ S) (by omega); rw [((Z_p5 (x := v12) (xC_o (W := 75) hi4).2).trans (congrArg (fun q => ma_u q 87 9 v12) (show aZ S = aZ S from rfl)))]; exact ⟨Cl_2 k1 k2 (by omega) (by omega) lz (by omega), hi8, Rv_9 hR (by omega) (by omega)⟩) | (have hR := hi5.1; have hL := hi5.2; have k := hi6; rw [Of_e (by rw [← hi7]; omega)] at k; have k1 := congrArg Prod.fst k; have k2 := congrArg Prod.snd k; have hl := hL.2.2.2; have p9 : aZ S 87 9 = mI S 91 5 := rfl; have p4 := congrArg Int32.toInt (show aZ S 87 4 = mI S 91 3 from rfl); have h39 := hR.2.2.1.2.2.1; have p9i := congrArg Int32.toInt p9; have p92 : (aZ S 92 (aZ S 87 9).toNatClampNeg).toInt = (mI S 92 (mI S 91 5).toNatClampNeg).toInt := congrArg Int32.toInt (aZ_9 (Or.inl rfl)); have lz := rp0_S11; rw [((Z_p5 (x := v12) (xC_o (W := 75) hi4).2).trans (congrArg (fun q => ma_u q 87 9 v12) (show aZ S = aZ S from rfl)))]; refine ⟨(Cl_3 (b := aZ S) (tg := mI S 91 6) k1 k2 (by omega) (by omega)).1, hi8, Rv_9 hR (by omega) (by omega)⟩) | (have hR := hi5.1; have hL := hi5.2; have k := hi6; rw [show (93 - l3.toInt).toNat = 0 from by omega] at k; have k1 := congrArg Prod.fst k; have k2 := congrArg Prod.snd k; have hl := hL.2.2.2; have p9 : aZ S 87 9 = mI S 91 5 := rfl; have p4 := congrArg Int32.toInt (show aZ S 87 4 = mI S 91 3 from rfl); have h39 := hR.2.2.1.2.2.1; have p9i := congrArg Int32.toInt p9; have p92 : (aZ S 92 (aZ S 87 9).toNatClampNeg).toInt = (mI S 92 (mI S 91 5).toNatClampNeg).toInt := congrArg Int32.toInt (aZ_9 (Or.inl rfl)); have lz := rp0_S11; have ly := Le_y (a := aZ S) (by omega); rw [((Z_p5 (x := v12) (xC_o (W := 75) hi4).2).trans (congrArg (fun q => ma_u q 87 9 v12) (show aZ S = aZ S from rfl)))]; exact ⟨Cl_2 k1 k2 (by omega) (by omega) lz (by omega), hi8, Rv_9 hR (by omega) (by omega)⟩) | (have hR := hi5.1; have hL := hi5.2; have k := hi6; rw [show (93 - l3.toInt).toNat = 0 from by omega] at k; have k1 := congrArg Prod.fst k; have k2 := congrArg Prod.snd k; have hl := hL.2.2.2; have p9 : aZ S 87 9 = mI S 91 5 := rfl; have p4 := congrArg Int32.toInt (show aZ S 87 4 = mI S 91 3 from rfl); have h39 := hR.2.2.1.2.2.1; have p9i := congrArg Int32.toInt p9; have p92 : (aZ S 92 (aZ S 87 9).toNatClampNeg).toInt = (mI S 92 (mI S 91 5).toNatClampNeg).toInt := congrArg Int32.toInt (aZ_9 (Or.inl rfl)); have lz := rp0_S11; rw [((Z_p5 (x := v12) (xC_o (W := 75) hi4).2).trans (congrArg (fun q => ma_u q 87 9 v12) (show aZ S = aZ S from rfl)))]; refine ⟨(Cl_3 (b := aZ S) (tg := mI S 91 6) k1 k2 (by omega) (by omega)).1, hi8, Rv_9 hR (by omega) (by omega)⟩) | (exfalso; have h39 := hi5.1.2.2.1.2.2.1; have h38 := hi5.1.2.2.1.2.1; have p9i := congrArg Int32.toInt (show aZ S 87 9 = mI S 91 5 from rfl); have p4 := congrArg Int32.toInt (show aZ S 87 4 = mI S 91 3 from rfl); omega))
              · skip
                have g93 := i_ne h83
                have b94 := i_bd l1
                exact K (l1) _ hI trivial (show xB S (mR S 70) from by first | (exact xB_x (xC_o (W := 75) hi4).2)) (show aZ S = rCl ab ∧ l1 = aSv ab ∧ qRv (aZ S) from by first | (have hR := hi5.1; have hL := hi5.2; have k := hi6; rw [Of_e (by rw [← hi7]; omega)] at k; have k1 := congrArg Prod.fst k; have k2 := congrArg Prod.snd k; have hl := hL.2.2.2; have p9 : aZ S 87 9 = mI S 91 5 := rfl; have p4 := congrArg Int32.toInt (show aZ S 87 4 = mI S 91 3 from rfl); have h39 := hR.2.2.1.2.2.1; have p9i := congrArg Int32.toInt p9; have p92 : (aZ S 92 (aZ S 87 9).toNatClampNeg).toInt = (mI S 92 (mI S 91 5).toNatClampNeg).toInt := congrArg Int32.toInt (aZ_9 (Or.inl rfl)); exact ⟨(Cl_3 (b := aZ S) (tg := mI S 91 6) k1 k2 (by omega) (by omega)).2, hi8, hR⟩) | (have hR := hi5.1; have hL := hi5.2; have k := hi6; rw [show (93 - l3.toInt).toNat = 0 from by omega] at k; have k1 := congrArg Prod.fst k; have k2 := congrArg Prod.snd k; have hl := hL.2.2.2; have p9 : aZ S 87 9 = mI S 91 5 := rfl; have p4 := congrArg Int32.toInt (show aZ S 87 4 = mI S 91 3 from rfl); have h39 := hR.2.2.1.2.2.1; have p9i := congrArg Int32.toInt p9; have p92 : (aZ S 92 (aZ S 87 9).toNatClampNeg).toInt = (mI S 92 (mI S 91 5).toNatClampNeg).toInt := congrArg Int32.toInt (aZ_9 (Or.inl rfl)); exact ⟨(Cl_3 (b := aZ S) (tg := mI S 91 6) k1 k2 (by omega) (by omega)).2, hi8, hR⟩) | (exfalso; have h39 := hi5.1.2.2.1.2.2.1; have h38 := hi5.1.2.2.1.2.1; have p9i := congrArg Int32.toInt (show aZ S 87 9 = mI S 91 5 from rfl); have p4 := congrArg Int32.toInt (show aZ S 87 4 = mI S 91 3 from rfl); omega))
        · skip
          have g95 := i_ne h55
          have hI96 : zL91 f r C Z N (ma_put S 91 5 (.inl (mI S 91 6))) := zG_sp hI (0) (92) rfl (by decide) (by decide) (by decide) trivial (by omega) (by omega)
          have b97 := i_bd l1
          exact K (l1) _ hI96 trivial (show xB (ma_put S 91 5 (.inl (mI S 91 6))) (mR (ma_put S 91 5 (.inl (mI S 91 6))) 70) from by first | (exact xB_x (xC_n (c := 91) (k := 5) (x := (mI S 91 6)) (xC_o (W := 75) hi4) ⟨by decide, Or.inl ⟨rfl, rfl⟩⟩).2)) (show aZ (ma_put S 91 5 (.inl (mI S 91 6))) = rCl ab ∧ l1 = aSv ab ∧ qRv (aZ (ma_put S 91 5 (.inl (mI S 91 6)))) from by first | (have hR := hi5.1; have hL := hi5.2; have k := hi6; rw [Of_e (by rw [← hi7]; omega)] at k; have k1 := congrArg Prod.fst k; have k2 := congrArg Prod.snd k; have hl := hL.2.2.2; have p9 : aZ S 87 9 = mI S 91 5 := rfl; have p4 := congrArg Int32.toInt (show aZ S 87 4 = mI S 91 3 from rfl); have h39 := hR.2.2.1.2.2.1; have p9i := congrArg Int32.toInt p9; have p92 : (aZ S 92 (aZ S 87 9).toNatClampNeg).toInt = (mI S 92 (mI S 91 5).toNatClampNeg).toInt := congrArg Int32.toInt (aZ_9 (Or.inl rfl)); rw [((Z_p5 (x := (mI S 91 6)) (xC_o (W := 75) hi4).2).trans (congrArg (fun q => ma_u q 87 9 (mI S 91 6)) (show aZ S = aZ S from rfl)))]; exact ⟨Cl_1 k1 k2 (by omega), hi8, Rv_9 hR (by omega) (by omega)⟩) | (have hR := hi5.1; have hL := hi5.2; have k := hi6; rw [show (93 - l3.toInt).toNat = 0 from by omega] at k; have k1 := congrArg Prod.fst k; have k2 := congrArg Prod.snd k; have hl := hL.2.2.2; have p9 : aZ S 87 9 = mI S 91 5 := rfl; have p4 := congrArg Int32.toInt (show aZ S 87 4 = mI S 91 3 from rfl); have h39 := hR.2.2.1.2.2.1; have p9i := congrArg Int32.toInt p9; have p92 : (aZ S 92 (aZ S 87 9).toNatClampNeg).toInt = (mI S 92 (mI S 91 5).toNatClampNeg).toInt := congrArg Int32.toInt (aZ_9 (Or.inl rfl)); rw [((Z_p5 (x := (mI S 91 6)) (xC_o (W := 75) hi4).2).trans (congrArg (fun q => ma_u q 87 9 (mI S 91 6)) (show aZ S = aZ S from rfl)))]; exact ⟨Cl_1 k1 k2 (by omega), hi8, Rv_9 hR (by omega) (by omega)⟩) | (exfalso; have h39 := hi5.1.2.2.1.2.2.1; have h38 := hi5.1.2.2.1.2.1; have p9i := congrArg Int32.toInt (show aZ S 87 9 = mI S 91 5 from rfl); have p4 := congrArg Int32.toInt (show aZ S 87 4 = mI S 91 3 from rfl); omega))
      · skip
        have g98 := i_ne h53
        refine sp_49_91_sz (ab := (aZ S)) (tg := (mI S 91 6).toInt) (l2) (by omega) (by omega) hI (by omega) (by omega) (show xB S (mR S 70) from by first | (exact xB_x (xC_o (W := 75) hi4).2)) (show aZ S = (aZ S) from by first | (exact rfl)) (show (mI S 91 6).toInt = (mI S 91 6).toInt from by first | (exact rfl)) (show qJr (aZ S) l2.toInt (l2.toInt * ((aZ S) 87 3).toInt) (mI S 91 6).toInt from by first | (exact Lv_J hi5.1 hi5.2 (by omega) (by omega) (by have q := Fw_y (a := aZ S) (by rw [← hi7]; omega); rw [← hi7] at q; exact q.2.2))) (show qLv (aZ S) (mI S 91 6).toInt from by first | (exact hi5.2)) (fun v14 S13 hI_S13 hp_v14 rp0_S13 rp1_S13 => zi_n ⟨zG_T hI_S13, ?_⟩)
        have rp0_S13 : xB S13 (mR S13 70) := rp0_S13
        have f99 := zG_s hI_S13 (-1) (92) (c := 91) (k := 6) (by decide)
        have rp1_S13 : (v14 = 1 ∧ (rM2 (aZ S) l2.toInt (mI S 91 6).toInt).2.2 = true ∧ aZ S13 = ma_u (ma_u (rM2 (aZ S) l2.toInt (mI S 91 6).toInt).1 93 l2.toInt.toNat 0) 92 l2.toInt.toNat 0 ∧ (mI S13 91 6).toInt = (rM2 (aZ S) l2.toInt (mI S 91 6).toInt).2.1 ∧ qRv (aZ S13) ∧ qLv (aZ S13) (mI S13 91 6).toInt) ∨ (v14 = 0 ∧ (rM2 (aZ S) l2.toInt (mI S 91 6).toInt).2.2 = false ∧ aZ S13 = (rM2 (aZ S) l2.toInt (mI S 91 6).toInt).1 ∧ (mI S13 91 6).toInt = (rM2 (aZ S) l2.toInt (mI S 91 6).toInt).2.1 ∧ qRv (aZ S13) ∧ qLv (aZ S13) (mI S13 91 6).toInt) := rp1_S13
        have b100 := i_bd v14
        have li101 : (0 : Int32).toInt = 0 := rfl
        refine zd (fun h102 => ?_) (fun h102 => ?_)
        · skip
          have g103 := i_eq h102
          refine zd (fun h104 => ?_) (fun h104 => ?_)
          · skip
            have g105 := i_eq h104
            have f106 := zG_s hI_S13 (0) (92) (c := 91) (k := 5) (by decide)
            refine zd (fun h107 => ?_) (fun h107 => ?_)
            · skip
              have g108 := i_lt h107
              refine sp_52_91_sz  (by omega) (by omega) hI_S13  (fun v16 S15 eS_S15 hp_v16 rp0_S15 => zi_n ⟨(by rw [eS_S15]; exact zG_T hI_S13), ?_⟩)
              replace eS_S15 := eS_S15.symm; subst eS_S15
              have rp0_S15 : v16.toInt = rLe (aZ S13) := rp0_S15
              have b109 := i_bd v16
              refine zd (fun h110 => ?_) (fun h110 => ?_)
              · skip
                have g111 := i_eq h110
                have hI112 : zL91 f r C Z N (ma_put S13 91 5 (.inl (mI S13 91 5))) := zG_sp hI_S13 (0) (92) rfl (by decide) (by decide) (by decide) trivial (by omega) (by omega)
                have b113 := i_bd l1
                exact K (l1) _ hI112 trivial (show xB (ma_put S13 91 5 (.inl (mI S13 91 5))) (mR (ma_put S13 91 5 (.inl (mI S13 91 5))) 70) from by first | (exact xB_x (xC_n (c := 91) (k := 5) (x := (mI S13 91 5)) (xC_o (W := 75) rp0_S13) ⟨by decide, Or.inl ⟨rfl, rfl⟩⟩).2)) (show aZ (ma_put S13 91 5 (.inl (mI S13 91 5))) = rCl ab ∧ l1 = aSv ab ∧ qRv (aZ (ma_put S13 91 5 (.inl (mI S13 91 5)))) from by first | (rcases rp1_S13 with w | w; (exfalso; first | exact absurd w.1 (by decide) | (have w1 := congrArg Int32.toInt w.1; have o1 : (1 : Int32).toInt = 1 := rfl; have o0 : (0 : Int32).toInt = 0 := rfl; omega)); have k := hi6; rw [show (93 - l3.toInt).toNat = (92 - l3.toInt).toNat + 1 from by omega, Of_n hi7.symm (by omega) w.2.1, ← w.2.2.1, ← w.2.2.2.1] at k; have hR := w.2.2.2.2.1; have hL := w.2.2.2.2.2; have k1 := congrArg Prod.fst k; have k2 := congrArg Prod.snd k; have hl := hL.2.2.2; have p9 : aZ S13 87 9 = mI S13 91 5 := rfl; have p4 := congrArg Int32.toInt (show aZ S13 87 4 = mI S13 91 3 from rfl); have h39 := hR.2.2.1.2.2.1; have p9i := congrArg Int32.toInt p9; have p92 : (aZ S13 92 (aZ S13 87 9).toNatClampNeg).toInt = (mI S13 92 (mI S13 91 5).toNatClampNeg).toInt := congrArg Int32.toInt (aZ_9 (Or.inl rfl)); have lz := rp0_S15; have ly := Le_y (a := aZ S13) (by omega); rw [((Z_p5 (x := (mI S13 91 5)) (xC_o (W := 75) rp0_S13).2).trans (congrArg (fun q => ma_u q 87 9 (mI S13 91 5)) (show aZ S13 = aZ S13 from rfl)))]; exact ⟨Cl_2 k1 k2 (by omega) (by omega) lz (by omega), hi8, Rv_9 hR (by omega) (by omega)⟩) | (rcases rp1_S13 with w | w; (exfalso; first | exact absurd w.1 (by decide) | (have w1 := congrArg Int32.toInt w.1; have o1 : (1 : Int32).toInt = 1 := rfl; have o0 : (0 : Int32).toInt = 0 := rfl; omega)); have k := hi6; rw [show (93 - l3.toInt).toNat = (92 - l3.toInt).toNat + 1 from by omega, Of_n hi7.symm (by omega) w.2.1, ← w.2.2.1, ← w.2.2.2.1] at k; have hR := w.2.2.2.2.1; have hL := w.2.2.2.2.2; have k1 := congrArg Prod.fst k; have k2 := congrArg Prod.snd k; have hl := hL.2.2.2; have p9 : aZ S13 87 9 = mI S13 91 5 := rfl; have p4 := congrArg Int32.toInt (show aZ S13 87 4 = mI S13 91 3 from rfl); have h39 := hR.2.2.1.2.2.1; have p9i := congrArg Int32.toInt p9; have p92 : (aZ S13 92 (aZ S13 87 9).toNatClampNeg).toInt = (mI S13 92 (mI S13 91 5).toNatClampNeg).toInt := congrArg Int32.toInt (aZ_9 (Or.inl rfl)); have lz := rp0_S15; rw [((Z_p5 (x := (mI S13 91 5)) (xC_o (W := 75) rp0_S13).2).trans (congrArg (fun q => ma_u q 87 9 (mI S13 91 5)) (show aZ S13 = aZ S13 from rfl)))]; refine ⟨(Cl_3 (b := aZ S13) (tg := mI S13 91 6) k1 k2 (by omega) (by omega)).1, hi8, Rv_9 hR (by omega) (by omega)⟩) | (exfalso; have h39 := hi5.1.2.2.1.2.2.1; have h38 := hi5.1.2.2.1.2.1; have p9i := congrArg Int32.toInt (show aZ S 87 9 = mI S 91 5 from rfl); have p4 := congrArg Int32.toInt (show aZ S 87 4 = mI S 91 3 from rfl); omega) | (rcases rp1_S13 with w | w; (exfalso; first | exact absurd w.1 (by decide) | (have w1 := congrArg Int32.toInt w.1; have o1 : (1 : Int32).toInt = 1 := rfl; have o0 : (0 : Int32).toInt = 0 := rfl; omega)); have k := hi6; rw [show (93 - l3.toInt).toNat = (92 - l3.toInt).toNat + 1 from by omega, Of_n hi7.symm (by omega) w.2.1, ← w.2.2.1, ← w.2.2.2.1] at k; have hR := w.2.2.2.2.1; have hL := w.2.2.2.2.2; have k1 := congrArg Prod.fst k; have k2 := congrArg Prod.snd k; have hl := hL.2.2.2; have p9 : aZ S13 87 9 = mI S13 91 5 := rfl; have p4 := congrArg Int32.toInt (show aZ S13 87 4 = mI S13 91 3 from rfl); have h39 := hR.2.2.1.2.2.1; have p9i := congrArg Int32.toInt p9; have p92 : (aZ S13 92 (aZ S13 87 9).toNatClampNeg).toInt = (mI S13 92 (mI S13 91 5).toNatClampNeg).toInt := congrArg Int32.toInt (aZ_9 (Or.inl rfl)); exfalso; have h38 := hR.2.2.1.2.1; omega))
              · skip
                have g114 := i_ne h110
                have hI115 : zL91 f r C Z N (ma_put S13 91 5 (.inl v16)) := zG_sp hI_S13 (0) (92) rfl (by decide) (by decide) (by decide) trivial (by omega) (by omega)
                have b116 := i_bd l1
                exact K (l1) _ hI115 trivial (show xB (ma_put S13 91 5 (.inl v16)) (mR (ma_put S13 91 5 (.inl v16)) 70) from by first | (exact xB_x (xC_n (c := 91) (k := 5) (x := v16) (xC_o (W := 75) rp0_S13) ⟨by decide, Or.inl ⟨rfl, rfl⟩⟩).2)) (show aZ (ma_put S13 91 5 (.inl v16)) = rCl ab ∧ l1 = aSv ab ∧ qRv (aZ (ma_put S13 91 5 (.inl v16))) from by first | (rcases rp1_S13 with w | w; (exfalso; first | exact absurd w.1 (by decide) | (have w1 := congrArg Int32.toInt w.1; have o1 : (1 : Int32).toInt = 1 := rfl; have o0 : (0 : Int32).toInt = 0 := rfl; omega)); have k := hi6; rw [show (93 - l3.toInt).toNat = (92 - l3.toInt).toNat + 1 from by omega, Of_n hi7.symm (by omega) w.2.1, ← w.2.2.1, ← w.2.2.2.1] at k; have hR := w.2.2.2.2.1; have hL := w.2.2.2.2.2; have k1 := congrArg Prod.fst k; have k2 := congrArg Prod.snd k; have hl := hL.2.2.2; have p9 : aZ S13 87 9 = mI S13 91 5 := rfl; have p4 := congrArg Int32.toInt (show aZ S13 87 4 = mI S13 91 3 from rfl); have h39 := hR.2.2.1.2.2.1; have p9i := congrArg Int32.toInt p9; have p92 : (aZ S13 92 (aZ S13 87 9).toNatClampNeg).toInt = (mI S13 92 (mI S13 91 5).toNatClampNeg).toInt := congrArg Int32.toInt (aZ_9 (Or.inl rfl)); have lz := rp0_S15; have ly := Le_y (a := aZ S13) (by omega); rw [((Z_p5 (x := v16) (xC_o (W := 75) rp0_S13).2).trans (congrArg (fun q => ma_u q 87 9 v16) (show aZ S13 = aZ S13 from rfl)))]; exact ⟨Cl_2 k1 k2 (by omega) (by omega) lz (by omega), hi8, Rv_9 hR (by omega) (by omega)⟩) | (rcases rp1_S13 with w | w; (exfalso; first | exact absurd w.1 (by decide) | (have w1 := congrArg Int32.toInt w.1; have o1 : (1 : Int32).toInt = 1 := rfl; have o0 : (0 : Int32).toInt = 0 := rfl; omega)); have k := hi6; rw [show (93 - l3.toInt).toNat = (92 - l3.toInt).toNat + 1 from by omega, Of_n hi7.symm (by omega) w.2.1, ← w.2.2.1, ← w.2.2.2.1] at k; have hR := w.2.2.2.2.1; have hL := w.2.2.2.2.2; have k1 := congrArg Prod.fst k; have k2 := congrArg Prod.snd k; have hl := hL.2.2.2; have p9 : aZ S13 87 9 = mI S13 91 5 := rfl; have p4 := congrArg Int32.toInt (show aZ S13 87 4 = mI S13 91 3 from rfl); have h39 := hR.2.2.1.2.2.1; have p9i := congrArg Int32.toInt p9; have p92 : (aZ S13 92 (aZ S13 87 9).toNatClampNeg).toInt = (mI S13 92 (mI S13 91 5).toNatClampNeg).toInt := congrArg Int32.toInt (aZ_9 (Or.inl rfl)); have lz := rp0_S15; rw [((Z_p5 (x := v16) (xC_o (W := 75) rp0_S13).2).trans (congrArg (fun q => ma_u q 87 9 v16) (show aZ S13 = aZ S13 from rfl)))]; refine ⟨(Cl_3 (b := aZ S13) (tg := mI S13 91 6) k1 k2 (by omega) (by omega)).1, hi8, Rv_9 hR (by omega) (by omega)⟩) | (exfalso; have h39 := hi5.1.2.2.1.2.2.1; have h38 := hi5.1.2.2.1.2.1; have p9i := congrArg Int32.toInt (show aZ S 87 9 = mI S 91 5 from rfl); have p4 := congrArg Int32.toInt (show aZ S 87 4 = mI S 91 3 from rfl); omega) | (rcases rp1_S13 with w | w; (exfalso; first | exact absurd w.1 (by decide) | (have w1 := congrArg Int32.toInt w.1; have o1 : (1 : Int32).toInt = 1 := rfl; have o0 : (0 : Int32).toInt = 0 := rfl; omega)); have k := hi6; rw [show (93 - l3.toInt).toNat = (92 - l3.toInt).toNat + 1 from by omega, Of_n hi7.symm (by omega) w.2.1, ← w.2.2.1, ← w.2.2.2.1] at k; have hR := w.2.2.2.2.1; have hL := w.2.2.2.2.2; have k1 := congrArg Prod.fst k; have k2 := congrArg Prod.snd k; have hl := hL.2.2.2; have p9 : aZ S13 87 9 = mI S13 91 5 := rfl; have p4 := congrArg Int32.toInt (show aZ S13 87 4 = mI S13 91 3 from rfl); have h39 := hR.2.2.1.2.2.1; have p9i := congrArg Int32.toInt p9; have p92 : (aZ S13 92 (aZ S13 87 9).toNatClampNeg).toInt = (mI S13 92 (mI S13 91 5).toNatClampNeg).toInt := congrArg Int32.toInt (aZ_9 (Or.inl rfl)); exfalso; have h38 := hR.2.2.1.2.1; omega))
            · skip
              have g117 := i_nlt h107
              refine zd (fun h118 => ?_) (fun h118 => ?_)
              · skip
                have g119 := i_le h118
                refine sp_52_91_sz  (by omega) (by omega) hI_S13  (fun v18 S17 eS_S17 hp_v18 rp0_S17 => zi_n ⟨(by rw [eS_S17]; exact zG_T hI_S13), ?_⟩)
                replace eS_S17 := eS_S17.symm; subst eS_S17
                have rp0_S17 : v18.toInt = rLe (aZ S13) := rp0_S17
                have b120 := i_bd v18
                refine zd (fun h121 => ?_) (fun h121 => ?_)
                · skip
                  have g122 := i_eq h121
                  have hI123 : zL91 f r C Z N (ma_put S13 91 5 (.inl (mI S13 91 5))) := zG_sp hI_S13 (0) (92) rfl (by decide) (by decide) (by decide) trivial (by omega) (by omega)
                  have b124 := i_bd l1
                  exact K (l1) _ hI123 trivial (show xB (ma_put S13 91 5 (.inl (mI S13 91 5))) (mR (ma_put S13 91 5 (.inl (mI S13 91 5))) 70) from by first | (exact xB_x (xC_n (c := 91) (k := 5) (x := (mI S13 91 5)) (xC_o (W := 75) rp0_S13) ⟨by decide, Or.inl ⟨rfl, rfl⟩⟩).2)) (show aZ (ma_put S13 91 5 (.inl (mI S13 91 5))) = rCl ab ∧ l1 = aSv ab ∧ qRv (aZ (ma_put S13 91 5 (.inl (mI S13 91 5)))) from by first | (rcases rp1_S13 with w | w; (exfalso; first | exact absurd w.1 (by decide) | (have w1 := congrArg Int32.toInt w.1; have o1 : (1 : Int32).toInt = 1 := rfl; have o0 : (0 : Int32).toInt = 0 := rfl; omega)); have k := hi6; rw [show (93 - l3.toInt).toNat = (92 - l3.toInt).toNat + 1 from by omega, Of_n hi7.symm (by omega) w.2.1, ← w.2.2.1, ← w.2.2.2.1] at k; have hR := w.2.2.2.2.1; have hL := w.2.2.2.2.2; have k1 := congrArg Prod.fst k; have k2 := congrArg Prod.snd k; have hl := hL.2.2.2; have p9 : aZ S13 87 9 = mI S13 91 5 := rfl; have p4 := congrArg Int32.toInt (show aZ S13 87 4 = mI S13 91 3 from rfl); have h39 := hR.2.2.1.2.2.1; have p9i := congrArg Int32.toInt p9; have p92 : (aZ S13 92 (aZ S13 87 9).toNatClampNeg).toInt = (mI S13 92 (mI S13 91 5).toNatClampNeg).toInt := congrArg Int32.toInt (aZ_9 (Or.inl rfl)); have lz := rp0_S17; have ly := Le_y (a := aZ S13) (by omega); rw [((Z_p5 (x := (mI S13 91 5)) (xC_o (W := 75) rp0_S13).2).trans (congrArg (fun q => ma_u q 87 9 (mI S13 91 5)) (show aZ S13 = aZ S13 from rfl)))]; exact ⟨Cl_2 k1 k2 (by omega) (by omega) lz (by omega), hi8, Rv_9 hR (by omega) (by omega)⟩) | (rcases rp1_S13 with w | w; (exfalso; first | exact absurd w.1 (by decide) | (have w1 := congrArg Int32.toInt w.1; have o1 : (1 : Int32).toInt = 1 := rfl; have o0 : (0 : Int32).toInt = 0 := rfl; omega)); have k := hi6; rw [show (93 - l3.toInt).toNat = (92 - l3.toInt).toNat + 1 from by omega, Of_n hi7.symm (by omega) w.2.1, ← w.2.2.1, ← w.2.2.2.1] at k; have hR := w.2.2.2.2.1; have hL := w.2.2.2.2.2; have k1 := congrArg Prod.fst k; have k2 := congrArg Prod.snd k; have hl := hL.2.2.2; have p9 : aZ S13 87 9 = mI S13 91 5 := rfl; have p4 := congrArg Int32.toInt (show aZ S13 87 4 = mI S13 91 3 from rfl); have h39 := hR.2.2.1.2.2.1; have p9i := congrArg Int32.toInt p9; have p92 : (aZ S13 92 (aZ S13 87 9).toNatClampNeg).toInt = (mI S13 92 (mI S13 91 5).toNatClampNeg).toInt := congrArg Int32.toInt (aZ_9 (Or.inl rfl)); have lz := rp0_S17; rw [((Z_p5 (x := (mI S13 91 5)) (xC_o (W := 75) rp0_S13).2).trans (congrArg (fun q => ma_u q 87 9 (mI S13 91 5)) (show aZ S13 = aZ S13 from rfl)))]; refine ⟨(Cl_3 (b := aZ S13) (tg := mI S13 91 6) k1 k2 (by omega) (by omega)).1, hi8, Rv_9 hR (by omega) (by omega)⟩) | (exfalso; have h39 := hi5.1.2.2.1.2.2.1; have h38 := hi5.1.2.2.1.2.1; have p9i := congrArg Int32.toInt (show aZ S 87 9 = mI S 91 5 from rfl); have p4 := congrArg Int32.toInt (show aZ S 87 4 = mI S 91 3 from rfl); omega) | (rcases rp1_S13 with w | w; (exfalso; first | exact absurd w.1 (by decide) | (have w1 := congrArg Int32.toInt w.1; have o1 : (1 : Int32).toInt = 1 := rfl; have o0 : (0 : Int32).toInt = 0 := rfl; omega)); have k := hi6; rw [show (93 - l3.toInt).toNat = (92 - l3.toInt).toNat + 1 from by omega, Of_n hi7.symm (by omega) w.2.1, ← w.2.2.1, ← w.2.2.2.1] at k; have hR := w.2.2.2.2.1; have hL := w.2.2.2.2.2; have k1 := congrArg Prod.fst k; have k2 := congrArg Prod.snd k; have hl := hL.2.2.2; have p9 : aZ S13 87 9 = mI S13 91 5 := rfl; have p4 := congrArg Int32.toInt (show aZ S13 87 4 = mI S13 91 3 from rfl); have h39 := hR.2.2.1.2.2.1; have p9i := congrArg Int32.toInt p9; have p92 : (aZ S13 92 (aZ S13 87 9).toNatClampNeg).toInt = (mI S13 92 (mI S13 91 5).toNatClampNeg).toInt := congrArg Int32.toInt (aZ_9 (Or.inl rfl)); exfalso; have h38 := hR.2.2.1.2.1; omega))
                · skip
                  have g125 := i_ne h121
                  have hI126 : zL91 f r C Z N (ma_put S13 91 5 (.inl v18)) := zG_sp hI_S13 (0) (92) rfl (by decide) (by decide) (by decide) trivial (by omega) (by omega)
                  have b127 := i_bd l1
                  exact K (l1) _ hI126 trivial (show xB (ma_put S13 91 5 (.inl v18)) (mR (ma_put S13 91 5 (.inl v18)) 70) from by first | (exact xB_x (xC_n (c := 91) (k := 5) (x := v18) (xC_o (W := 75) rp0_S13) ⟨by decide, Or.inl ⟨rfl, rfl⟩⟩).2)) (show aZ (ma_put S13 91 5 (.inl v18)) = rCl ab ∧ l1 = aSv ab ∧ qRv (aZ (ma_put S13 91 5 (.inl v18))) from by first | (rcases rp1_S13 with w | w; (exfalso; first | exact absurd w.1 (by decide) | (have w1 := congrArg Int32.toInt w.1; have o1 : (1 : Int32).toInt = 1 := rfl; have o0 : (0 : Int32).toInt = 0 := rfl; omega)); have k := hi6; rw [show (93 - l3.toInt).toNat = (92 - l3.toInt).toNat + 1 from by omega, Of_n hi7.symm (by omega) w.2.1, ← w.2.2.1, ← w.2.2.2.1] at k; have hR := w.2.2.2.2.1; have hL := w.2.2.2.2.2; have k1 := congrArg Prod.fst k; have k2 := congrArg Prod.snd k; have hl := hL.2.2.2; have p9 : aZ S13 87 9 = mI S13 91 5 := rfl; have p4 := congrArg Int32.toInt (show aZ S13 87 4 = mI S13 91 3 from rfl); have h39 := hR.2.2.1.2.2.1; have p9i := congrArg Int32.toInt p9; have p92 : (aZ S13 92 (aZ S13 87 9).toNatClampNeg).toInt = (mI S13 92 (mI S13 91 5).toNatClampNeg).toInt := congrArg Int32.toInt (aZ_9 (Or.inl rfl)); have lz := rp0_S17; have ly := Le_y (a := aZ S13) (by omega); rw [((Z_p5 (x := v18) (xC_o (W := 75) rp0_S13).2).trans (congrArg (fun q => ma_u q 87 9 v18) (show aZ S13 = aZ S13 from rfl)))]; exact ⟨Cl_2 k1 k2 (by omega) (by omega) lz (by omega), hi8, Rv_9 hR (by omega) (by omega)⟩) | (rcases rp1_S13 with w | w; (exfalso; first | exact absurd w.1 (by decide) | (have w1 := congrArg Int32.toInt w.1; have o1 : (1 : Int32).toInt = 1 := rfl; have o0 : (0 : Int32).toInt = 0 := rfl; omega)); have k := hi6; rw [show (93 - l3.toInt).toNat = (92 - l3.toInt).toNat + 1 from by omega, Of_n hi7.symm (by omega) w.2.1, ← w.2.2.1, ← w.2.2.2.1] at k; have hR := w.2.2.2.2.1; have hL := w.2.2.2.2.2; have k1 := congrArg Prod.fst k; have k2 := congrArg Prod.snd k; have hl := hL.2.2.2; have p9 : aZ S13 87 9 = mI S13 91 5 := rfl; have p4 := congrArg Int32.toInt (show aZ S13 87 4 = mI S13 91 3 from rfl); have h39 := hR.2.2.1.2.2.1; have p9i := congrArg Int32.toInt p9; have p92 : (aZ S13 92 (aZ S13 87 9).toNatClampNeg).toInt = (mI S13 92 (mI S13 91 5).toNatClampNeg).toInt := congrArg Int32.toInt (aZ_9 (Or.inl rfl)); have lz := rp0_S17; rw [((Z_p5 (x := v18) (xC_o (W := 75) rp0_S13).2).trans (congrArg (fun q => ma_u q 87 9 v18) (show aZ S13 = aZ S13 from rfl)))]; refine ⟨(Cl_3 (b := aZ S13) (tg := mI S13 91 6) k1 k2 (by omega) (by omega)).1, hi8, Rv_9 hR (by omega) (by omega)⟩) | (exfalso; have h39 := hi5.1.2.2.1.2.2.1; have h38 := hi5.1.2.2.1.2.1; have p9i := congrArg Int32.toInt (show aZ S 87 9 = mI S 91 5 from rfl); have p4 := congrArg Int32.toInt (show aZ S 87 4 = mI S 91 3 from rfl); omega) | (rcases rp1_S13 with w | w; (exfalso; first | exact absurd w.1 (by decide) | (have w1 := congrArg Int32.toInt w.1; have o1 : (1 : Int32).toInt = 1 := rfl; have o0 : (0 : Int32).toInt = 0 := rfl; omega)); have k := hi6; rw [show (93 - l3.toInt).toNat = (92 - l3.toInt).toNat + 1 from by omega, Of_n hi7.symm (by omega) w.2.1, ← w.2.2.1, ← w.2.2.2.1] at k; have hR := w.2.2.2.2.1; have hL := w.2.2.2.2.2; have k1 := congrArg Prod.fst k; have k2 := congrArg Prod.snd k; have hl := hL.2.2.2; have p9 : aZ S13 87 9 = mI S13 91 5 := rfl; have p4 := congrArg Int32.toInt (show aZ S13 87 4 = mI S13 91 3 from rfl); have h39 := hR.2.2.1.2.2.1; have p9i := congrArg Int32.toInt p9; have p92 : (aZ S13 92 (aZ S13 87 9).toNatClampNeg).toInt = (mI S13 92 (mI S13 91 5).toNatClampNeg).toInt := congrArg Int32.toInt (aZ_9 (Or.inl rfl)); exfalso; have h38 := hR.2.2.1.2.1; omega))
              · skip
                have g128 := i_nle h118
                refine ⟨i_ix (by omega) (by omega), ?_⟩
                first | have f129 := zG_a hI_S13 93 (0) (3000) (c := 92) (k := (mI S13 91 5).toNatClampNeg) (by decide) (i_ix (n := 93) (by omega) (by omega)).2 | have b130 := i_bd (mI S13 92 (mI S13 91 5).toNatClampNeg)
                refine zd (fun h131 => ?_) (fun h131 => ?_)
                · skip
                  have g132 := i_eq h131
                  refine sp_52_91_sz  (by omega) (by omega) hI_S13  (fun v20 S19 eS_S19 hp_v20 rp0_S19 => zi_n ⟨(by rw [eS_S19]; exact zG_T hI_S13), ?_⟩)
                  replace eS_S19 := eS_S19.symm; subst eS_S19
                  have rp0_S19 : v20.toInt = rLe (aZ S13) := rp0_S19
                  have b133 := i_bd v20
                  refine zd (fun h134 => ?_) (fun h134 => ?_)
                  · skip
                    have g135 := i_eq h134
                    have hI136 : zL91 f r C Z N (ma_put S13 91 5 (.inl (mI S13 91 5))) := zG_sp hI_S13 (0) (92) rfl (by decide) (by decide) (by decide) trivial (by omega) (by omega)
                    have b137 := i_bd l1
                    exact K (l1) _ hI136 trivial (show xB (ma_put S13 91 5 (.inl (mI S13 91 5))) (mR (ma_put S13 91 5 (.inl (mI S13 91 5))) 70) from by first | (exact xB_x (xC_n (c := 91) (k := 5) (x := (mI S13 91 5)) (xC_o (W := 75) rp0_S13) ⟨by decide, Or.inl ⟨rfl, rfl⟩⟩).2)) (show aZ (ma_put S13 91 5 (.inl (mI S13 91 5))) = rCl ab ∧ l1 = aSv ab ∧ qRv (aZ (ma_put S13 91 5 (.inl (mI S13 91 5)))) from by first | (rcases rp1_S13 with w | w; (exfalso; first | exact absurd w.1 (by decide) | (have w1 := congrArg Int32.toInt w.1; have o1 : (1 : Int32).toInt = 1 := rfl; have o0 : (0 : Int32).toInt = 0 := rfl; omega)); have k := hi6; rw [show (93 - l3.toInt).toNat = (92 - l3.toInt).toNat + 1 from by omega, Of_n hi7.symm (by omega) w.2.1, ← w.2.2.1, ← w.2.2.2.1] at k; have hR := w.2.2.2.2.1; have hL := w.2.2.2.2.2; have k1 := congrArg Prod.fst k; have k2 := congrArg Prod.snd k; have hl := hL.2.2.2; have p9 : aZ S13 87 9 = mI S13 91 5 := rfl; have p4 := congrArg Int32.toInt (show aZ S13 87 4 = mI S13 91 3 from rfl); have h39 := hR.2.2.1.2.2.1; have p9i := congrArg Int32.toInt p9; have p92 : (aZ S13 92 (aZ S13 87 9).toNatClampNeg).toInt = (mI S13 92 (mI S13 91 5).toNatClampNeg).toInt := congrArg Int32.toInt (aZ_9 (Or.inl rfl)); have lz := rp0_S19; have ly := Le_y (a := aZ S13) (by omega); rw [((Z_p5 (x := (mI S13 91 5)) (xC_o (W := 75) rp0_S13).2).trans (congrArg (fun q => ma_u q 87 9 (mI S13 91 5)) (show aZ S13 = aZ S13 from rfl)))]; exact ⟨Cl_2 k1 k2 (by omega) (by omega) lz (by omega), hi8, Rv_9 hR (by omega) (by omega)⟩) | (rcases rp1_S13 with w | w; (exfalso; first | exact absurd w.1 (by decide) | (have w1 := congrArg Int32.toInt w.1; have o1 : (1 : Int32).toInt = 1 := rfl; have o0 : (0 : Int32).toInt = 0 := rfl; omega)); have k := hi6; rw [show (93 - l3.toInt).toNat = (92 - l3.toInt).toNat + 1 from by omega, Of_n hi7.symm (by omega) w.2.1, ← w.2.2.1, ← w.2.2.2.1] at k; have hR := w.2.2.2.2.1; have hL := w.2.2.2.2.2; have k1 := congrArg Prod.fst k; have k2 := congrArg Prod.snd k; have hl := hL.2.2.2; have p9 : aZ S13 87 9 = mI S13 91 5 := rfl; have p4 := congrArg Int32.toInt (show aZ S13 87 4 = mI S13 91 3 from rfl); have h39 := hR.2.2.1.2.2.1; have p9i := congrArg Int32.toInt p9; have p92 : (aZ S13 92 (aZ S13 87 9).toNatClampNeg).toInt = (mI S13 92 (mI S13 91 5).toNatClampNeg).toInt := congrArg Int32.toInt (aZ_9 (Or.inl rfl)); have lz := rp0_S19; rw [((Z_p5 (x := (mI S13 91 5)) (xC_o (W := 75) rp0_S13).2).trans (congrArg (fun q => ma_u q 87 9 (mI S13 91 5)) (show aZ S13 = aZ S13 from rfl)))]; refine ⟨(Cl_3 (b := aZ S13) (tg := mI S13 91 6) k1 k2 (by omega) (by omega)).1, hi8, Rv_9 hR (by omega) (by omega)⟩) | (exfalso; have h39 := hi5.1.2.2.1.2.2.1; have h38 := hi5.1.2.2.1.2.1; have p9i := congrArg Int32.toInt (show aZ S 87 9 = mI S 91 5 from rfl); have p4 := congrArg Int32.toInt (show aZ S 87 4 = mI S 91 3 from rfl); omega) | (rcases rp1_S13 with w | w; (exfalso; first | exact absurd w.1 (by decide) | (have w1 := congrArg Int32.toInt w.1; have o1 : (1 : Int32).toInt = 1 := rfl; have o0 : (0 : Int32).toInt = 0 := rfl; omega)); have k := hi6; rw [show (93 - l3.toInt).toNat = (92 - l3.toInt).toNat + 1 from by omega, Of_n hi7.symm (by omega) w.2.1, ← w.2.2.1, ← w.2.2.2.1] at k; have hR := w.2.2.2.2.1; have hL := w.2.2.2.2.2; have k1 := congrArg Prod.fst k; have k2 := congrArg Prod.snd k; have hl := hL.2.2.2; have p9 : aZ S13 87 9 = mI S13 91 5 := rfl; have p4 := congrArg Int32.toInt (show aZ S13 87 4 = mI S13 91 3 from rfl); have h39 := hR.2.2.1.2.2.1; have p9i := congrArg Int32.toInt p9; have p92 : (aZ S13 92 (aZ S13 87 9).toNatClampNeg).toInt = (mI S13 92 (mI S13 91 5).toNatClampNeg).toInt := congrArg Int32.toInt (aZ_9 (Or.inl rfl)); exfalso; have h38 := hR.2.2.1.2.1; omega))
                  · skip
                    have g138 := i_ne h134
                    have hI139 : zL91 f r C Z N (ma_put S13 91 5 (.inl v20)) := zG_sp hI_S13 (0) (92) rfl (by decide) (by decide) (by decide) trivial (by omega) (by omega)
                    have b140 := i_bd l1
                    exact K (l1) _ hI139 trivial (show xB (ma_put S13 91 5 (.inl v20)) (mR (ma_put S13 91 5 (.inl v20)) 70) from by first | (exact xB_x (xC_n (c := 91) (k := 5) (x := v20) (xC_o (W := 75) rp0_S13) ⟨by decide, Or.inl ⟨rfl, rfl⟩⟩).2)) (show aZ (ma_put S13 91 5 (.inl v20)) = rCl ab ∧ l1 = aSv ab ∧ qRv (aZ (ma_put S13 91 5 (.inl v20))) from by first | (rcases rp1_S13 with w | w; (exfalso; first | exact absurd w.1 (by decide) | (have w1 := congrArg Int32.toInt w.1; have o1 : (1 : Int32).toInt = 1 := rfl; have o0 : (0 : Int32).toInt = 0 := rfl; omega)); have k := hi6; rw [show (93 - l3.toInt).toNat = (92 - l3.toInt).toNat + 1 from by omega, Of_n hi7.symm (by omega) w.2.1, ← w.2.2.1, ← w.2.2.2.1] at k; have hR := w.2.2.2.2.1; have hL := w.2.2.2.2.2; have k1 := congrArg Prod.fst k; have k2 := congrArg Prod.snd k; have hl := hL.2.2.2; have p9 : aZ S13 87 9 = mI S13 91 5 := rfl; have p4 := congrArg Int32.toInt (show aZ S13 87 4 = mI S13 91 3 from rfl); have h39 := hR.2.2.1.2.2.1; have p9i := congrArg Int32.toInt p9; have p92 : (aZ S13 92 (aZ S13 87 9).toNatClampNeg).toInt = (mI S13 92 (mI S13 91 5).toNatClampNeg).toInt := congrArg Int32.toInt (aZ_9 (Or.inl rfl)); have lz := rp0_S19; have ly := Le_y (a := aZ S13) (by omega); rw [((Z_p5 (x := v20) (xC_o (W := 75) rp0_S13).2).trans (congrArg (fun q => ma_u q 87 9 v20) (show aZ S13 = aZ S13 from rfl)))]; exact ⟨Cl_2 k1 k2 (by omega) (by omega) lz (by omega), hi8, Rv_9 hR (by omega) (by omega)⟩) | (rcases rp1_S13 with w | w; (exfalso; first | exact absurd w.1 (by decide) | (have w1 := congrArg Int32.toInt w.1; have o1 : (1 : Int32).toInt = 1 := rfl; have o0 : (0 : Int32).toInt = 0 := rfl; omega)); have k := hi6; rw [show (93 - l3.toInt).toNat = (92 - l3.toInt).toNat + 1 from by omega, Of_n hi7.symm (by omega) w.2.1, ← w.2.2.1, ← w.2.2.2.1] at k; have hR := w.2.2.2.2.1; have hL := w.2.2.2.2.2; have k1 := congrArg Prod.fst k; have k2 := congrArg Prod.snd k; have hl := hL.2.2.2; have p9 : aZ S13 87 9 = mI S13 91 5 := rfl; have p4 := congrArg Int32.toInt (show aZ S13 87 4 = mI S13 91 3 from rfl); have h39 := hR.2.2.1.2.2.1; have p9i := congrArg Int32.toInt p9; have p92 : (aZ S13 92 (aZ S13 87 9).toNatClampNeg).toInt = (mI S13 92 (mI S13 91 5).toNatClampNeg).toInt := congrArg Int32.toInt (aZ_9 (Or.inl rfl)); have lz := rp0_S19; rw [((Z_p5 (x := v20) (xC_o (W := 75) rp0_S13).2).trans (congrArg (fun q => ma_u q 87 9 v20) (show aZ S13 = aZ S13 from rfl)))]; refine ⟨(Cl_3 (b := aZ S13) (tg := mI S13 91 6) k1 k2 (by omega) (by omega)).1, hi8, Rv_9 hR (by omega) (by omega)⟩) | (exfalso; have h39 := hi5.1.2.2.1.2.2.1; have h38 := hi5.1.2.2.1.2.1; have p9i := congrArg Int32.toInt (show aZ S 87 9 = mI S 91 5 from rfl); have p4 := congrArg Int32.toInt (show aZ S 87 4 = mI S 91 3 from rfl); omega) | (rcases rp1_S13 with w | w; (exfalso; first | exact absurd w.1 (by decide) | (have w1 := congrArg Int32.toInt w.1; have o1 : (1 : Int32).toInt = 1 := rfl; have o0 : (0 : Int32).toInt = 0 := rfl; omega)); have k := hi6; rw [show (93 - l3.toInt).toNat = (92 - l3.toInt).toNat + 1 from by omega, Of_n hi7.symm (by omega) w.2.1, ← w.2.2.1, ← w.2.2.2.1] at k; have hR := w.2.2.2.2.1; have hL := w.2.2.2.2.2; have k1 := congrArg Prod.fst k; have k2 := congrArg Prod.snd k; have hl := hL.2.2.2; have p9 : aZ S13 87 9 = mI S13 91 5 := rfl; have p4 := congrArg Int32.toInt (show aZ S13 87 4 = mI S13 91 3 from rfl); have h39 := hR.2.2.1.2.2.1; have p9i := congrArg Int32.toInt p9; have p92 : (aZ S13 92 (aZ S13 87 9).toNatClampNeg).toInt = (mI S13 92 (mI S13 91 5).toNatClampNeg).toInt := congrArg Int32.toInt (aZ_9 (Or.inl rfl)); exfalso; have h38 := hR.2.2.1.2.1; omega))
                · skip
                  have g141 := i_ne h131
                  have b142 := i_bd l1
                  exact K (l1) _ hI_S13 trivial (show xB S13 (mR S13 70) from by first | (exact xB_x (xC_o (W := 75) rp0_S13).2)) (show aZ S13 = rCl ab ∧ l1 = aSv ab ∧ qRv (aZ S13) from by first | (rcases rp1_S13 with w | w; (exfalso; first | exact absurd w.1 (by decide) | (have w1 := congrArg Int32.toInt w.1; have o1 : (1 : Int32).toInt = 1 := rfl; have o0 : (0 : Int32).toInt = 0 := rfl; omega)); have k := hi6; rw [show (93 - l3.toInt).toNat = (92 - l3.toInt).toNat + 1 from by omega, Of_n hi7.symm (by omega) w.2.1, ← w.2.2.1, ← w.2.2.2.1] at k; have hR := w.2.2.2.2.1; have hL := w.2.2.2.2.2; have k1 := congrArg Prod.fst k; have k2 := congrArg Prod.snd k; have hl := hL.2.2.2; have p9 : aZ S13 87 9 = mI S13 91 5 := rfl; have p4 := congrArg Int32.toInt (show aZ S13 87 4 = mI S13 91 3 from rfl); have h39 := hR.2.2.1.2.2.1; have p9i := congrArg Int32.toInt p9; have p92 : (aZ S13 92 (aZ S13 87 9).toNatClampNeg).toInt = (mI S13 92 (mI S13 91 5).toNatClampNeg).toInt := congrArg Int32.toInt (aZ_9 (Or.inl rfl)); exact ⟨(Cl_3 (b := aZ S13) (tg := mI S13 91 6) k1 k2 (by omega) (by omega)).2, hi8, hR⟩) | (exfalso; have h39 := hi5.1.2.2.1.2.2.1; have h38 := hi5.1.2.2.1.2.1; have p9i := congrArg Int32.toInt (show aZ S 87 9 = mI S 91 5 from rfl); have p4 := congrArg Int32.toInt (show aZ S 87 4 = mI S 91 3 from rfl); omega) | (rcases rp1_S13 with w | w; (exfalso; first | exact absurd w.1 (by decide) | (have w1 := congrArg Int32.toInt w.1; have o1 : (1 : Int32).toInt = 1 := rfl; have o0 : (0 : Int32).toInt = 0 := rfl; omega)); have k := hi6; rw [show (93 - l3.toInt).toNat = (92 - l3.toInt).toNat + 1 from by omega, Of_n hi7.symm (by omega) w.2.1, ← w.2.2.1, ← w.2.2.2.1] at k; have hR := w.2.2.2.2.1; have hL := w.2.2.2.2.2; have k1 := congrArg Prod.fst k; have k2 := congrArg Prod.snd k; have hl := hL.2.2.2; have p9 : aZ S13 87 9 = mI S13 91 5 := rfl; have p4 := congrArg Int32.toInt (show aZ S13 87 4 = mI S13 91 3 from rfl); have h39 := hR.2.2.1.2.2.1; have p9i := congrArg Int32.toInt p9; have p92 : (aZ S13 92 (aZ S13 87 9).toNatClampNeg).toInt = (mI S13 92 (mI S13 91 5).toNatClampNeg).toInt := congrArg Int32.toInt (aZ_9 (Or.inl rfl)); exfalso; have h38 := hR.2.2.1.2.1; omega))
          · skip
            have g143 := i_ne h104
            have hI144 : zL91 f r C Z N (ma_put S13 91 5 (.inl (mI S13 91 6))) := zG_sp hI_S13 (0) (92) rfl (by decide) (by decide) (by decide) trivial (by omega) (by omega)
            have b145 := i_bd l1
            exact K (l1) _ hI144 trivial (show xB (ma_put S13 91 5 (.inl (mI S13 91 6))) (mR (ma_put S13 91 5 (.inl (mI S13 91 6))) 70) from by first | (exact xB_x (xC_n (c := 91) (k := 5) (x := (mI S13 91 6)) (xC_o (W := 75) rp0_S13) ⟨by decide, Or.inl ⟨rfl, rfl⟩⟩).2)) (show aZ (ma_put S13 91 5 (.inl (mI S13 91 6))) = rCl ab ∧ l1 = aSv ab ∧ qRv (aZ (ma_put S13 91 5 (.inl (mI S13 91 6)))) from by first | (rcases rp1_S13 with w | w; (exfalso; first | exact absurd w.1 (by decide) | (have w1 := congrArg Int32.toInt w.1; have o1 : (1 : Int32).toInt = 1 := rfl; have o0 : (0 : Int32).toInt = 0 := rfl; omega)); have k := hi6; rw [show (93 - l3.toInt).toNat = (92 - l3.toInt).toNat + 1 from by omega, Of_n hi7.symm (by omega) w.2.1, ← w.2.2.1, ← w.2.2.2.1] at k; have hR := w.2.2.2.2.1; have hL := w.2.2.2.2.2; have k1 := congrArg Prod.fst k; have k2 := congrArg Prod.snd k; have hl := hL.2.2.2; have p9 : aZ S13 87 9 = mI S13 91 5 := rfl; have p4 := congrArg Int32.toInt (show aZ S13 87 4 = mI S13 91 3 from rfl); have h39 := hR.2.2.1.2.2.1; have p9i := congrArg Int32.toInt p9; have p92 : (aZ S13 92 (aZ S13 87 9).toNatClampNeg).toInt = (mI S13 92 (mI S13 91 5).toNatClampNeg).toInt := congrArg Int32.toInt (aZ_9 (Or.inl rfl)); rw [((Z_p5 (x := (mI S13 91 6)) (xC_o (W := 75) rp0_S13).2).trans (congrArg (fun q => ma_u q 87 9 (mI S13 91 6)) (show aZ S13 = aZ S13 from rfl)))]; exact ⟨Cl_1 k1 k2 (by omega), hi8, Rv_9 hR (by omega) (by omega)⟩) | (exfalso; have h39 := hi5.1.2.2.1.2.2.1; have h38 := hi5.1.2.2.1.2.1; have p9i := congrArg Int32.toInt (show aZ S 87 9 = mI S 91 5 from rfl); have p4 := congrArg Int32.toInt (show aZ S 87 4 = mI S 91 3 from rfl); omega) | (rcases rp1_S13 with w | w; (exfalso; first | exact absurd w.1 (by decide) | (have w1 := congrArg Int32.toInt w.1; have o1 : (1 : Int32).toInt = 1 := rfl; have o0 : (0 : Int32).toInt = 0 := rfl; omega)); have k := hi6; rw [show (93 - l3.toInt).toNat = (92 - l3.toInt).toNat + 1 from by omega, Of_n hi7.symm (by omega) w.2.1, ← w.2.2.1, ← w.2.2.2.1] at k; have hR := w.2.2.2.2.1; have hL := w.2.2.2.2.2; have k1 := congrArg Prod.fst k; have k2 := congrArg Prod.snd k; have hl := hL.2.2.2; have p9 : aZ S13 87 9 = mI S13 91 5 := rfl; have p4 := congrArg Int32.toInt (show aZ S13 87 4 = mI S13 91 3 from rfl); have h39 := hR.2.2.1.2.2.1; have p9i := congrArg Int32.toInt p9; have p92 : (aZ S13 92 (aZ S13 87 9).toNatClampNeg).toInt = (mI S13 92 (mI S13 91 5).toNatClampNeg).toInt := congrArg Int32.toInt (aZ_9 (Or.inl rfl)); exfalso; have h38 := hR.2.2.1.2.1; omega))
        · skip
          have g146 := i_ne h102
          refine sp_48_91_sz  (by omega) (by omega) hI_S13  (fun v22 S21 eS_S21 hp_v22 rp0_S21 => zi_n ⟨(by rw [eS_S21]; exact zG_T hI_S13), ?_⟩)
          replace eS_S21 := eS_S21.symm; subst eS_S21
          have rp0_S21 : v22.toInt = rFw (aZ S13) := rp0_S21
          have b147 := i_bd l1
          have b148 := i_bd v22
          first | have e149 : (l3 + (1 : Int32)).toInt = l3.toInt + (1) := i_addk rfl (by omega) (by omega) | have b150 := i_bd (l3 + (1 : Int32))
          exact IH _ (by omega) _ (l1) (v22) ((l3 + (1 : Int32))) rfl hI_S13 (by omega) (by omega) (by omega) (by omega) (show xB S13 (mR S13 70) from by first | (exact xB_x (xC_o (W := 75) rp0_S13).2)) (show qRv (aZ S13) ∧ qLv (aZ S13) (mI S13 91 6).toInt from by first | (rcases rp1_S13 with w | w; (exact w.2.2.2.2); (exfalso; first | exact absurd w.1 (by decide) | (have w1 := congrArg Int32.toInt w.1; have o1 : (1 : Int32).toInt = 1 := rfl; have o0 : (0 : Int32).toInt = 0 := rfl; omega)))) (show rOf (93 - ((l3 + (1 : Int32))).toInt).toNat (aZ S13) (mI S13 91 6).toInt = rC0 ab from by first | (rcases rp1_S13 with w | w; (have k := hi6; rw [show (93 - l3.toInt).toNat = (93 - (l3 + (1 : Int32)).toInt).toNat + 1 from by omega, Of_y hi7.symm (by omega) w.2.1, ← w.2.2.1, ← w.2.2.2.1] at k; exact k); (exfalso; first | exact absurd w.1 (by decide) | (have w1 := congrArg Int32.toInt w.1; have o1 : (1 : Int32).toInt = 1 := rfl; have o0 : (0 : Int32).toInt = 0 := rfl; omega)))) (show (v22).toInt = rFw (aZ S13) from by first | (exact rp0_S21)) (show (l1) = aSv ab from by first | (exact hi8))
theorem sp_43_91_sz {X : Nat × (Nat → Int32)} {d w : Nat} {f : Nat → Nat → Int32} {r : Nat → Nat → Option Nat} {C Z N : Nat} {Q : Option ma_V ⊕ Nat → ma_S → Prop} {ab : Nat→Nat→Int32} {S : ma_S}  (hd : 4 ≤ d) (hw : 160 ≤ w) (hI : zL91 f r C Z N S) (hpre0 : xB S (mR S 70)) (hpre1 : aZ S = ab) (hpre2 : qRv ab) (K : ∀ v S₉, zL91 f r C Z N S₉ → (True) → (xB S₉ (mR S₉ 70)) → (aZ S₉ = rCl ab ∧ v = aSv ab ∧ qRv (aZ S₉)) → Q (.inl (some (.inl v))) S₉) : ma_wp X d w 43 0 [(0, .inr (.inr (some 91)))] [] S Q := by
  refine g_43_91_sz_0  (by omega) (by omega) (zG_T hI) ?_
  refine sp_264_91_s (ab := (aS 75 S)) (by omega) (by omega) (zL91_dn hI) (show xB S (mR S 70) from by first | (exact xB_x (xC_o (W := 75) hpre0).2)) (show aS 75 S = (aS 75 S) from by first | (exact rfl)) (fun v2 S1 hL_S1 hp_v2 rp0_S1 rp1_S1 => zi_n ⟨zG_T hL_S1, ?_⟩)
  have hI_S1 := zL91_up hI hL_S1
  have rp0_S1 : xB S1 (mR S1 70) := by
    have z := rp0_S1
    (try rw [show mI S 65 = f 65 from funext (fun k => zG_z hI rfl)] at z)
    (try rw [show mI S 64 1 = f 64 1 from zG_z hI rfl] at z)
    exact z
  have rp1_S1 : aS 75 S1 = aSw (aS 75 S) ∧ v2 = aSv (aS 75 S) := by
    have z := rp1_S1
    (try rw [show mI S 65 = f 65 from funext (fun k => zG_z hI rfl)] at z)
    (try rw [show mI S 64 1 = f 64 1 from zG_z hI rfl] at z)
    exact z
  refine sp_44_91_sz (ab := (aZ S1)) (by omega) (by omega) hI_S1 (show xB S1 (mR S1 70) from by first | (exact xB_x (xC_o (W := 75) rp0_S1).2)) (show aZ S1 = (aZ S1) from by first | (exact rfl)) (show qRv (aZ S1) from by first | (rw [(show aZ S1 = aSw ab from (Z_sw (S := S) rp1_S1.1 (show mI S1 91 = mI S 91 from funext (fun _ => zG_z hL_S1 rfl)) (show mI S1 92 = mI S 92 from funext (fun _ => zG_z hL_S1 rfl)) (show mI S1 93 = mI S 93 from funext (fun _ => zG_z hL_S1 rfl))).trans (congrArg aSw hpre1))]; exact Rv_sw hpre2)) (fun S3 hI_S3 rp0_S3 rp1_S3 => zv_n ⟨zG_T hI_S3, ?_⟩)
  have rp0_S3 : xB S3 (mR S3 70) := rp0_S3
  have rp1_S3 : aZ S3 = rSk (aZ S1) 512 := rp1_S3
  refine sp_46_91_sz (ab := (aZ S3)) (by omega) (by omega) hI_S3 (show xB S3 (mR S3 70) from by first | (exact xB_x (xC_o (W := 75) rp0_S3).2)) (show aZ S3 = (aZ S3) from by first | (exact rfl)) (fun S5 hI_S5 rp0_S5 rp1_S5 => zv_n ⟨zG_T hI_S5, ?_⟩)
  have rp0_S5 : xB S5 (mR S5 70) := rp0_S5
  have rp1_S5 : aZ S5 = rEm (aZ S3) 93 := rp1_S5
  refine sp_47_91_sz (ab := (aZ S5)) (by omega) (by omega) hI_S5 (show xB S5 (mR S5 70) from by first | (exact xB_x (xC_o (W := 75) rp0_S5).2)) (show aZ S5 = (aZ S5) from by first | (exact rfl)) (show qLb (aZ S5) from by first | (rw [rp1_S5, rp1_S3, (show aZ S1 = aSw ab from (Z_sw (S := S) rp1_S1.1 (show mI S1 91 = mI S 91 from funext (fun _ => zG_z hL_S1 rfl)) (show mI S1 92 = mI S 92 from funext (fun _ => zG_z hL_S1 rfl)) (show mI S1 93 = mI S 93 from funext (fun _ => zG_z hL_S1 rfl))).trans (congrArg aSw hpre1))]; exact Lb_em (Lb_sk (I_sw hpre2.1)))) (show (0 ≤ ((aZ S5) 87 5).toInt ∧ ((aZ S5) 87 5).toInt ≤ 100) ∧ (1 ≤ ((aZ S5) 87 3).toInt ∧ ((aZ S5) 87 3).toInt ≤ 256) ∧ (∀ n, xAl (aZ S5) n → ((aZ S5) 130 n).toInt / ((aZ S5) 87 3).toInt < 93) ∧ qI (aZ S5) from by first | (rw [rp1_S5, rp1_S3, (show aZ S1 = aSw ab from (Z_sw (S := S) rp1_S1.1 (show mI S1 91 = mI S 91 from funext (fun _ => zG_z hL_S1 rfl)) (show mI S1 92 = mI S 92 from funext (fun _ => zG_z hL_S1 rfl)) (show mI S1 93 = mI S 93 from funext (fun _ => zG_z hL_S1 rfl))).trans (congrArg aSw hpre1))]; exact HS_t0 (Rv_sw hpre2))) (fun S7 hI_S7 rp0_S7 rp1_S7 => zv_n ⟨zG_T hI_S7, ?_⟩)
  have rp0_S7 : xB S7 (mR S7 70) := rp0_S7
  have rp1_S7 : aZ S7 = rCb (rCa (aZ S5) 93) 512 := rp1_S7
  have li2 : (-1 : Int32).toInt = -1 := rfl
  have hI1 : zL91 f r C Z N (ma_put S7 91 6 (.inl (-1 : Int32))) := zG_sp hI_S7 (-1) (92) rfl (by decide) (by decide) (by decide) trivial (by omega) (by omega)
  refine sp_48_91_sz  (by omega) (by omega) hI1  (fun v10 S9 eS_S9 hp_v10 rp0_S9 => zi_n ⟨(by rw [eS_S9]; exact zG_T hI1), ?_⟩)
  replace eS_S9 := eS_S9.symm; subst eS_S9
  have rp0_S9 : v10.toInt = rFw (aZ (ma_put S7 91 6 (.inl (-1 : Int32)))) := rp0_S9
  have b3 := i_bd v2
  have b4 := i_bd v10
  have li5 : (0 : Int32).toInt = 0 := rfl
  exact lp_43_91_sz_29 (by omega) (by omega) K _ _ (v2) (v10) ((0 : Int32)) rfl hI1 (by omega) (by omega) (by omega) (by omega) (show xB (ma_put S7 91 6 (.inl (-1 : Int32))) (mR (ma_put S7 91 6 (.inl (-1 : Int32))) 70) from by first | (exact xB_x (xC_n (c := 91) (k := 6) (x := (-1 : Int32)) (xC_o (W := 75) rp0_S7) ⟨by decide, Or.inl ⟨rfl, rfl⟩⟩).2)) (show qRv (aZ (ma_put S7 91 6 (.inl (-1 : Int32)))) ∧ qLv (aZ (ma_put S7 91 6 (.inl (-1 : Int32)))) (-1 : Int32).toInt from by first | (rw [((Z_p6 (x := (-1 : Int32)) (xC_o (W := 75) rp0_S7).2).trans (show aZ S7 = aZ S7 from rfl)), (B0_e (show aZ S1 = aSw ab from (Z_sw (S := S) rp1_S1.1 (show mI S1 91 = mI S 91 from funext (fun _ => zG_z hL_S1 rfl)) (show mI S1 92 = mI S 92 from funext (fun _ => zG_z hL_S1 rfl)) (show mI S1 93 = mI S 93 from funext (fun _ => zG_z hL_S1 rfl))).trans (congrArg aSw hpre1)) rp1_S3 rp1_S5 rp1_S7)]; exact Rv_b0 hpre2)) (show rOf (93 - ((0 : Int32)).toInt).toNat (aZ (ma_put S7 91 6 (.inl (-1 : Int32)))) (-1 : Int32).toInt = rC0 ab from by first | (rw [((Z_p6 (x := (-1 : Int32)) (xC_o (W := 75) rp0_S7).2).trans (show aZ S7 = aZ S7 from rfl)), (B0_e (show aZ S1 = aSw ab from (Z_sw (S := S) rp1_S1.1 (show mI S1 91 = mI S 91 from funext (fun _ => zG_z hL_S1 rfl)) (show mI S1 92 = mI S 92 from funext (fun _ => zG_z hL_S1 rfl)) (show mI S1 93 = mI S 93 from funext (fun _ => zG_z hL_S1 rfl))).trans (congrArg aSw hpre1)) rp1_S3 rp1_S5 rp1_S7)]; rfl)) (show (v10).toInt = rFw (aZ (ma_put S7 91 6 (.inl (-1 : Int32)))) from by first | (exact rp0_S9)) (show (v2) = aSv ab from by first | (exact rp1_S1.2.trans (Z_sv.trans (congrArg aSv hpre1))))

