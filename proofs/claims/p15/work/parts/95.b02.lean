/-! regions (written by wip/tools/gen95a.py) -/
theorem g_51_91_0 {X : Nat × (Nat → Int32)} {d w : Nat} {S : ma_S} {Q : Option ma_V ⊕ Nat → ma_S → Prop} (t : Nat) (hd : 2 ≤ d) (hw : 114 ≤ w) (hS : zT S) (h : (126 ≤ t ∧ t < mN S) ∧ (if (mI S 91 6) < 0 then (ma_wp X (d - 1) (w - 21) 52 0 [(0, .inr (.inr (some 91)))] [] S (zi (fun v2 S1 => zT S1 ∧ (if v2 = (-1 : Int32) then (Q (.inl (some (.inl (0 : Int32)))) S1) else (if v2 < 0 then (ma_wp X (d - 1) (w - 24) 90 0 [(0, .inr (.inr (some 69))), (1, .inr (.inr (some t))), (2, .inl ((v2 * (mI S1 91 2)) + (0 : Int32)))] [] (ma_put S1 91 6 (.inl v2)) (zv (fun S3 => zT S3 ∧ ((126 ≤ t ∧ t < mN S3) ∧ (if v2 < 0 then (Q (.inl (some (.inl (1 : Int32)))) S3) else (if (93 : Int32) ≤ v2 then (Q (.inl (some (.inl (1 : Int32)))) S3) else ((0 ≤ v2 ∧ v2.toNatClampNeg < 93) ∧ ((0 ≤ v2 ∧ v2.toNatClampNeg < 93) ∧ (Q (.inl (some (.inl (1 : Int32)))) (ma_put S3 92 v2.toNatClampNeg (.inl ((mI S3 92 v2.toNatClampNeg) + (mI S3 t 2))))))))))) (fun x S9 => Q (.inr x) S9))) else (if (93 : Int32) ≤ v2 then (ma_wp X (d - 1) (w - 24) 90 0 [(0, .inr (.inr (some 69))), (1, .inr (.inr (some t))), (2, .inl ((v2 * (mI S1 91 2)) + (0 : Int32)))] [] (ma_put S1 91 6 (.inl v2)) (zv (fun S5 => zT S5 ∧ ((126 ≤ t ∧ t < mN S5) ∧ (if v2 < 0 then (Q (.inl (some (.inl (1 : Int32)))) S5) else (if (93 : Int32) ≤ v2 then (Q (.inl (some (.inl (1 : Int32)))) S5) else ((0 ≤ v2 ∧ v2.toNatClampNeg < 93) ∧ ((0 ≤ v2 ∧ v2.toNatClampNeg < 93) ∧ (Q (.inl (some (.inl (1 : Int32)))) (ma_put S5 92 v2.toNatClampNeg (.inl ((mI S5 92 v2.toNatClampNeg) + (mI S5 t 2))))))))))) (fun x S9 => Q (.inr x) S9))) else ((0 ≤ v2 ∧ v2.toNatClampNeg < 93) ∧ (ma_wp X (d - 1) (w - 24) 90 0 [(0, .inr (.inr (some 69))), (1, .inr (.inr (some t))), (2, .inl ((v2 * (mI S1 91 2)) + (mI S1 92 v2.toNatClampNeg)))] [] (ma_put S1 91 6 (.inl v2)) (zv (fun S7 => zT S7 ∧ ((126 ≤ t ∧ t < mN S7) ∧ (if v2 < 0 then (Q (.inl (some (.inl (1 : Int32)))) S7) else (if (93 : Int32) ≤ v2 then (Q (.inl (some (.inl (1 : Int32)))) S7) else ((0 ≤ v2 ∧ v2.toNatClampNeg < 93) ∧ ((0 ≤ v2 ∧ v2.toNatClampNeg < 93) ∧ (Q (.inl (some (.inl (1 : Int32)))) (ma_put S7 92 v2.toNatClampNeg (.inl ((mI S7 92 v2.toNatClampNeg) + (mI S7 t 2))))))))))) (fun x S9 => Q (.inr x) S9)))))))) (fun x S9 => Q (.inr x) S9))) else (if (93 : Int32) ≤ (mI S 91 6) then (ma_wp X (d - 1) (w - 21) 52 0 [(0, .inr (.inr (some 91)))] [] S (zi (fun v10 S9 => zT S9 ∧ (if v10 = (-1 : Int32) then (Q (.inl (some (.inl (0 : Int32)))) S9) else (if v10 < 0 then (ma_wp X (d - 1) (w - 24) 90 0 [(0, .inr (.inr (some 69))), (1, .inr (.inr (some t))), (2, .inl ((v10 * (mI S9 91 2)) + (0 : Int32)))] [] (ma_put S9 91 6 (.inl v10)) (zv (fun S11 => zT S11 ∧ ((126 ≤ t ∧ t < mN S11) ∧ (if v10 < 0 then (Q (.inl (some (.inl (1 : Int32)))) S11) else (if (93 : Int32) ≤ v10 then (Q (.inl (some (.inl (1 : Int32)))) S11) else ((0 ≤ v10 ∧ v10.toNatClampNeg < 93) ∧ ((0 ≤ v10 ∧ v10.toNatClampNeg < 93) ∧ (Q (.inl (some (.inl (1 : Int32)))) (ma_put S11 92 v10.toNatClampNeg (.inl ((mI S11 92 v10.toNatClampNeg) + (mI S11 t 2))))))))))) (fun x S9 => Q (.inr x) S9))) else (if (93 : Int32) ≤ v10 then (ma_wp X (d - 1) (w - 24) 90 0 [(0, .inr (.inr (some 69))), (1, .inr (.inr (some t))), (2, .inl ((v10 * (mI S9 91 2)) + (0 : Int32)))] [] (ma_put S9 91 6 (.inl v10)) (zv (fun S13 => zT S13 ∧ ((126 ≤ t ∧ t < mN S13) ∧ (if v10 < 0 then (Q (.inl (some (.inl (1 : Int32)))) S13) else (if (93 : Int32) ≤ v10 then (Q (.inl (some (.inl (1 : Int32)))) S13) else ((0 ≤ v10 ∧ v10.toNatClampNeg < 93) ∧ ((0 ≤ v10 ∧ v10.toNatClampNeg < 93) ∧ (Q (.inl (some (.inl (1 : Int32)))) (ma_put S13 92 v10.toNatClampNeg (.inl ((mI S13 92 v10.toNatClampNeg) + (mI S13 t 2))))))))))) (fun x S9 => Q (.inr x) S9))) else ((0 ≤ v10 ∧ v10.toNatClampNeg < 93) ∧ (ma_wp X (d - 1) (w - 24) 90 0 [(0, .inr (.inr (some 69))), (1, .inr (.inr (some t))), (2, .inl ((v10 * (mI S9 91 2)) + (mI S9 92 v10.toNatClampNeg)))] [] (ma_put S9 91 6 (.inl v10)) (zv (fun S15 => zT S15 ∧ ((126 ≤ t ∧ t < mN S15) ∧ (if v10 < 0 then (Q (.inl (some (.inl (1 : Int32)))) S15) else (if (93 : Int32) ≤ v10 then (Q (.inl (some (.inl (1 : Int32)))) S15) else ((0 ≤ v10 ∧ v10.toNatClampNeg < 93) ∧ ((0 ≤ v10 ∧ v10.toNatClampNeg < 93) ∧ (Q (.inl (some (.inl (1 : Int32)))) (ma_put S15 92 v10.toNatClampNeg (.inl ((mI S15 92 v10.toNatClampNeg) + (mI S15 t 2))))))))))) (fun x S9 => Q (.inr x) S9)))))))) (fun x S9 => Q (.inr x) S9))) else ((0 ≤ (mI S 91 6) ∧ (mI S 91 6).toNatClampNeg < 93) ∧ (if (mI S 91 2) < ((mI S 92 (mI S 91 6).toNatClampNeg) + (mI S t 2)) then (ma_wp X (d - 1) (w - 21) 52 0 [(0, .inr (.inr (some 91)))] [] S (zi (fun v18 S17 => zT S17 ∧ (if v18 = (-1 : Int32) then (Q (.inl (some (.inl (0 : Int32)))) S17) else (if v18 < 0 then (ma_wp X (d - 1) (w - 24) 90 0 [(0, .inr (.inr (some 69))), (1, .inr (.inr (some t))), (2, .inl ((v18 * (mI S17 91 2)) + (0 : Int32)))] [] (ma_put S17 91 6 (.inl v18)) (zv (fun S19 => zT S19 ∧ ((126 ≤ t ∧ t < mN S19) ∧ (if v18 < 0 then (Q (.inl (some (.inl (1 : Int32)))) S19) else (if (93 : Int32) ≤ v18 then (Q (.inl (some (.inl (1 : Int32)))) S19) else ((0 ≤ v18 ∧ v18.toNatClampNeg < 93) ∧ ((0 ≤ v18 ∧ v18.toNatClampNeg < 93) ∧ (Q (.inl (some (.inl (1 : Int32)))) (ma_put S19 92 v18.toNatClampNeg (.inl ((mI S19 92 v18.toNatClampNeg) + (mI S19 t 2))))))))))) (fun x S9 => Q (.inr x) S9))) else (if (93 : Int32) ≤ v18 then (ma_wp X (d - 1) (w - 24) 90 0 [(0, .inr (.inr (some 69))), (1, .inr (.inr (some t))), (2, .inl ((v18 * (mI S17 91 2)) + (0 : Int32)))] [] (ma_put S17 91 6 (.inl v18)) (zv (fun S21 => zT S21 ∧ ((126 ≤ t ∧ t < mN S21) ∧ (if v18 < 0 then (Q (.inl (some (.inl (1 : Int32)))) S21) else (if (93 : Int32) ≤ v18 then (Q (.inl (some (.inl (1 : Int32)))) S21) else ((0 ≤ v18 ∧ v18.toNatClampNeg < 93) ∧ ((0 ≤ v18 ∧ v18.toNatClampNeg < 93) ∧ (Q (.inl (some (.inl (1 : Int32)))) (ma_put S21 92 v18.toNatClampNeg (.inl ((mI S21 92 v18.toNatClampNeg) + (mI S21 t 2))))))))))) (fun x S9 => Q (.inr x) S9))) else ((0 ≤ v18 ∧ v18.toNatClampNeg < 93) ∧ (ma_wp X (d - 1) (w - 24) 90 0 [(0, .inr (.inr (some 69))), (1, .inr (.inr (some t))), (2, .inl ((v18 * (mI S17 91 2)) + (mI S17 92 v18.toNatClampNeg)))] [] (ma_put S17 91 6 (.inl v18)) (zv (fun S23 => zT S23 ∧ ((126 ≤ t ∧ t < mN S23) ∧ (if v18 < 0 then (Q (.inl (some (.inl (1 : Int32)))) S23) else (if (93 : Int32) ≤ v18 then (Q (.inl (some (.inl (1 : Int32)))) S23) else ((0 ≤ v18 ∧ v18.toNatClampNeg < 93) ∧ ((0 ≤ v18 ∧ v18.toNatClampNeg < 93) ∧ (Q (.inl (some (.inl (1 : Int32)))) (ma_put S23 92 v18.toNatClampNeg (.inl ((mI S23 92 v18.toNatClampNeg) + (mI S23 t 2))))))))))) (fun x S9 => Q (.inr x) S9)))))))) (fun x S9 => Q (.inr x) S9))) else (if (mI S 91 6) = (-1 : Int32) then (Q (.inl (some (.inl (0 : Int32)))) S) else (if (mI S 91 6) < 0 then (ma_wp X (d - 1) (w - 24) 90 0 [(0, .inr (.inr (some 69))), (1, .inr (.inr (some t))), (2, .inl (((mI S 91 6) * (mI S 91 2)) + (0 : Int32)))] [] (ma_put S 91 6 (.inl (mI S 91 6))) (zv (fun S25 => zT S25 ∧ ((126 ≤ t ∧ t < mN S25) ∧ (if (mI S 91 6) < 0 then (Q (.inl (some (.inl (1 : Int32)))) S25) else (if (93 : Int32) ≤ (mI S 91 6) then (Q (.inl (some (.inl (1 : Int32)))) S25) else ((0 ≤ (mI S 91 6) ∧ (mI S 91 6).toNatClampNeg < 93) ∧ ((0 ≤ (mI S 91 6) ∧ (mI S 91 6).toNatClampNeg < 93) ∧ (Q (.inl (some (.inl (1 : Int32)))) (ma_put S25 92 (mI S 91 6).toNatClampNeg (.inl ((mI S25 92 (mI S 91 6).toNatClampNeg) + (mI S25 t 2))))))))))) (fun x S9 => Q (.inr x) S9))) else (if (93 : Int32) ≤ (mI S 91 6) then (ma_wp X (d - 1) (w - 24) 90 0 [(0, .inr (.inr (some 69))), (1, .inr (.inr (some t))), (2, .inl (((mI S 91 6) * (mI S 91 2)) + (0 : Int32)))] [] (ma_put S 91 6 (.inl (mI S 91 6))) (zv (fun S27 => zT S27 ∧ ((126 ≤ t ∧ t < mN S27) ∧ (if (mI S 91 6) < 0 then (Q (.inl (some (.inl (1 : Int32)))) S27) else (if (93 : Int32) ≤ (mI S 91 6) then (Q (.inl (some (.inl (1 : Int32)))) S27) else ((0 ≤ (mI S 91 6) ∧ (mI S 91 6).toNatClampNeg < 93) ∧ ((0 ≤ (mI S 91 6) ∧ (mI S 91 6).toNatClampNeg < 93) ∧ (Q (.inl (some (.inl (1 : Int32)))) (ma_put S27 92 (mI S 91 6).toNatClampNeg (.inl ((mI S27 92 (mI S 91 6).toNatClampNeg) + (mI S27 t 2))))))))))) (fun x S9 => Q (.inr x) S9))) else ((0 ≤ (mI S 91 6) ∧ (mI S 91 6).toNatClampNeg < 93) ∧ (ma_wp X (d - 1) (w - 24) 90 0 [(0, .inr (.inr (some 69))), (1, .inr (.inr (some t))), (2, .inl (((mI S 91 6) * (mI S 91 2)) + (mI S 92 (mI S 91 6).toNatClampNeg)))] [] (ma_put S 91 6 (.inl (mI S 91 6))) (zv (fun S29 => zT S29 ∧ ((126 ≤ t ∧ t < mN S29) ∧ (if (mI S 91 6) < 0 then (Q (.inl (some (.inl (1 : Int32)))) S29) else (if (93 : Int32) ≤ (mI S 91 6) then (Q (.inl (some (.inl (1 : Int32)))) S29) else ((0 ≤ (mI S 91 6) ∧ (mI S 91 6).toNatClampNeg < 93) ∧ ((0 ≤ (mI S 91 6) ∧ (mI S 91 6).toNatClampNeg < 93) ∧ (Q (.inl (some (.inl (1 : Int32)))) (ma_put S29 92 (mI S 91 6).toNatClampNeg (.inl ((mI S29 92 (mI S 91 6).toNatClampNeg) + (mI S29 t 2))))))))))) (fun x S9 => Q (.inr x) S9)))))))))))) : ma_wp X d w 51 0 [(0, .inr (.inr (some 91))), (1, .inr (.inr (some t)))] [] S Q := by
  refine zw_push hm_51 dX4_moveOut_0 (v := .inr (.inr (some 91))) rfl ?_
  refine zw_push hm_51 dX4_moveOut_1 (v := .inr (.inr (some 91))) rfl ?_
  refine zw_gf hm_51 dX4_moveOut_2 (v := .inl (mI S 91 6)) (zT_is hS s_91) (zT_t hS s_91) rfl f_4_83_4 rfl ?_
  refine zw_push hm_51 dX4_moveOut_5 (v := .inr (.inr (some t))) rfl ?_
  obtain ⟨hg, h⟩ := h
  refine zw_gf hm_51 dX4_moveOut_6 (v := .inl (mI S t 2)) (zT_tis hS hg) (zT_tt hS hg) rfl f_4_63_9 rfl ?_
  refine zw_cv hm_51 dX4_moveOut_9 v_4_43_4 hm_41 [.inl (mI S t 2), .inl (mI S 91 6)] [] rfl (zT_rt hS s_91 rfl) ⟨by omega, by omega⟩ rfl ?_
  show ma_wp X (d - 1) (w - 22) 41 0 [(0, .inr (.inr (some 91))), (1, .inl (mI S 91 6)), (2, .inl (mI S t 2))] [] S _
  refine zw_push hm_41 dX4_fits_0 (v := .inl (mI S 91 6)) rfl ?_
  refine zw_if0 hm_41 dX4_fits_1 (t := 29) rfl zc0_lt ?_ ?_
  · intro hc
    rw [if_pos hc] at h
    refine zw_push hm_41 dX4_fits_29 (v := .inl (0 : Int32)) rfl ?_
    refine zw_bret hm_41 dX4_fits_30 (by decide) ?_
    show ma_wp X d w 51 12 [(0, .inr (.inr (some 91))), (1, .inr (.inr (some t)))] [.inl (0 : Int32)] S _
    refine zw_if0 hm_51 dX4_moveOut_12 (t := 22) rfl zc0_eq (fun _ => ?_) (fun hc => absurd (by decide) hc)
    refine zw_push hm_51 dX4_moveOut_22 (v := .inr (.inr (some 91))) rfl ?_
    refine zw_cv hm_51 dX4_moveOut_23 v_4_54_4 hm_52 [] [] rfl (zT_rt hS s_91 rfl) ⟨by omega, by omega⟩ rfl (zw_mono h (zi_go ?_ ?_))
    · intro v2 S1 hv
      obtain ⟨hS1, h⟩ := hv
      refine zw_sto hm_51 dX4_moveOut_26 [(2, .inl v2), (0, .inr (.inr (some 91))), (1, .inr (.inr (some t)))] rfl rfl rfl ?_
      refine zw_push hm_51 dX4_moveOut_27 (v := .inl v2) rfl ?_
      refine zw_push hm_51 dX4_moveOut_28 (v := .inl (-1 : Int32)) rfl ?_
      refine zw_if2 hm_51 dX4_moveOut_29 (t := 34) rfl zc2_ne ?_ ?_
      · intro hc
        rw [if_neg hc] at h
        refine zw_push hm_51 dX4_moveOut_34 (v := .inr (.inr (some 91))) rfl ?_
        refine zw_push hm_51 dX4_moveOut_35 (v := .inl v2) rfl ?_
        refine zw_pf hm_51 dX4_moveOut_36 (zT_is hS1 s_91) (zT_t hS1 s_91) p_4_83_4 zk_int ?_
        refine zw_push hm_51 dX4_moveOut_39 (v := .inr (.inr (some 91))) rfl ?_
        refine zw_gf hm_51 dX4_moveOut_40 (v := .inr (.inr (some 69))) (zT_is (zT_pi hS1) s_91) (zT_t (zT_pi hS1) s_91) rfl f_4_100_4 (zT_f (zT_pi hS1) r_91_0) ?_
        refine zw_push hm_51 dX4_moveOut_43 (v := .inr (.inr (some t))) rfl ?_
        refine zw_push hm_51 dX4_moveOut_44 (v := .inl v2) rfl ?_
        refine zw_push hm_51 dX4_moveOut_45 (v := .inr (.inr (some 91))) rfl ?_
        refine zw_gf hm_51 dX4_moveOut_46 (v := .inl (mI S1 91 2)) (zT_is (zT_pi hS1) s_91) (zT_t (zT_pi hS1) s_91) rfl f_4_18_4 rfl ?_
        refine zw_stk hm_51 dX4_moveOut_49 (st' := [.inl (v2 * (mI S1 91 2)), .inr (.inr (some t)), .inr (.inr (some 69))]) rfl rfl ?_
        refine zw_push hm_51 dX4_moveOut_50 (v := .inr (.inr (some 91))) rfl ?_
        refine zw_push hm_51 dX4_moveOut_51 (v := .inl v2) rfl ?_
        refine zw_cv hm_51 dX4_moveOut_52 v_4_93_4 hm_50 [.inl v2] [.inl (v2 * (mI S1 91 2)), .inr (.inr (some t)), .inr (.inr (some 69))] rfl (zT_rt (zT_pi hS1) s_91 rfl) ⟨by omega, by omega⟩ rfl ?_
        show ma_wp X (d - 1) (w - 21) 50 0 [(0, .inr (.inr (some 91))), (1, .inl v2)] [] (ma_put S1 91 6 (.inl v2)) _
        refine zw_push hm_50 dX4_topOf_0 (v := .inl v2) rfl ?_
        refine zw_if0 hm_50 dX4_topOf_1 (t := 19) rfl zc0_lt ?_ ?_
        · intro hc
          rw [if_pos hc] at h
          refine zw_push hm_50 dX4_topOf_19 (v := .inl (0 : Int32)) rfl ?_
          refine zw_iret hm_50 dX4_topOf_20 ?_
          show ma_wp X d w 51 55 [(2, .inl v2), (0, .inr (.inr (some 91))), (1, .inr (.inr (some t)))] [.inl (0 : Int32), .inl (v2 * (mI S1 91 2)), .inr (.inr (some t)), .inr (.inr (some 69))] (ma_put S1 91 6 (.inl v2)) _
          refine zw_stk hm_51 dX4_moveOut_55 (st' := [.inl ((v2 * (mI S1 91 2)) + (0 : Int32)), .inr (.inr (some t)), .inr (.inr (some 69))]) rfl rfl ?_
          refine zw_cv hm_51 dX4_moveOut_56 v_4_127_7 hm_90 [.inl ((v2 * (mI S1 91 2)) + (0 : Int32)), .inr (.inr (some t))] [] rfl (zT_rt (zT_pi hS1) s_69 rfl) ⟨by omega, by omega⟩ rfl (zw_mono h (zv_go ?_ ?_))
          · intro S3 hv
            obtain ⟨hS3, h⟩ := hv
            refine zw_push hm_51 dX4_moveOut_59 (v := .inr (.inr (some 91))) rfl ?_
            refine zw_push hm_51 dX4_moveOut_60 (v := .inl v2) rfl ?_
            refine zw_push hm_51 dX4_moveOut_61 (v := .inr (.inr (some t))) rfl ?_
            obtain ⟨hg, h⟩ := h
            refine zw_gf hm_51 dX4_moveOut_62 (v := .inl (mI S3 t 2)) (zT_tis hS3 hg) (zT_tt hS3 hg) rfl f_4_63_9 rfl ?_
            refine zw_cv hm_51 dX4_moveOut_65 v_4_66_4 hm_53 [.inl (mI S3 t 2), .inl v2] [] rfl (zT_rt hS3 s_91 rfl) ⟨by omega, by omega⟩ rfl ?_
            show ma_wp X (d - 1) (w - 22) 53 0 [(0, .inr (.inr (some 91))), (1, .inl v2), (2, .inl (mI S3 t 2))] [] S3 _
            refine zw_push hm_53 dX4_raiseTop_0 (v := .inl v2) rfl ?_
            refine zw_if0 hm_53 dX4_raiseTop_1 (t := 20) rfl zc0_lt ?_ ?_
            · intro hc
              rw [if_pos hc] at h
              refine zw_vret hm_53 dX4_raiseTop_20 ?_
              show ma_wp X d w 51 68 [(2, .inl v2), (0, .inr (.inr (some 91))), (1, .inr (.inr (some t)))] [] S3 _
              refine zw_push hm_51 dX4_moveOut_68 (v := .inl (1 : Int32)) rfl ?_
              exact zw_bret hm_51 dX4_moveOut_69 (by decide) h
            · intro hc
              rw [if_neg hc] at h
              refine zw_push hm_53 dX4_raiseTop_4 (v := .inl v2) rfl ?_
              refine zw_push hm_53 dX4_raiseTop_5 (v := .inl (93 : Int32)) rfl ?_
              refine zw_if2 hm_53 dX4_raiseTop_7 (t := 20) rfl zc2_ge ?_ ?_
              · intro hc
                rw [if_pos hc] at h
                refine zw_vret hm_53 dX4_raiseTop_20 ?_
                show ma_wp X d w 51 68 [(2, .inl v2), (0, .inr (.inr (some 91))), (1, .inr (.inr (some t)))] [] S3 _
                refine zw_push hm_51 dX4_moveOut_68 (v := .inl (1 : Int32)) rfl ?_
                exact zw_bret hm_51 dX4_moveOut_69 (by decide) h
              · intro hc
                rw [if_neg hc] at h
                refine zw_push hm_53 dX4_raiseTop_10 (v := .inr (.inr (some 91))) rfl ?_
                refine zw_gf hm_53 dX4_raiseTop_11 (v := .inr (.inr (some 92))) (zT_is hS3 s_91) (zT_t hS3 s_91) rfl f_4_9_4 (zT_f hS3 r_91_7) ?_
                refine zw_push hm_53 dX4_raiseTop_14 (v := .inl v2) rfl ?_
                refine zw_stk hm_53 dX4_raiseTop_15 (st' := [.inl v2, .inr (.inr (some 92)), .inl v2, .inr (.inr (some 92))]) rfl rfl ?_
                obtain ⟨hg, h⟩ := h
                refine zw_ia hm_53 dX4_raiseTop_16 (zT_is hS3 s_92) (zT_h hS3 s_92) rfl hg ?_
                show ma_wp X (d - 1) (w - 22) 53 17 [(0, .inr (.inr (some 91))), (1, .inl v2), (2, .inl (mI S3 t 2))] [.inl (mI S3 92 v2.toNatClampNeg), .inl v2, .inr (.inr (some 92))] S3 _
                refine zw_push hm_53 dX4_raiseTop_17 (v := .inl (mI S3 t 2)) rfl ?_
                refine zw_stk hm_53 dX4_raiseTop_18 (st' := [.inl ((mI S3 92 v2.toNatClampNeg) + (mI S3 t 2)), .inl v2, .inr (.inr (some 92))]) rfl rfl ?_
                obtain ⟨hg, h⟩ := h
                refine zw_ias hm_53 dX4_raiseTop_19 (zT_is hS3 s_92) (zT_h hS3 s_92) rfl hg ?_
                refine zw_vret hm_53 dX4_raiseTop_20 ?_
                show ma_wp X d w 51 68 [(2, .inl v2), (0, .inr (.inr (some 91))), (1, .inr (.inr (some t)))] [] (ma_put S3 92 v2.toNatClampNeg (.inl ((mI S3 92 v2.toNatClampNeg) + (mI S3 t 2)))) _
                refine zw_push hm_51 dX4_moveOut_68 (v := .inl (1 : Int32)) rfl ?_
                exact zw_bret hm_51 dX4_moveOut_69 (by decide) h
          · intro x S9 hx
            exact ⟨by decide, hx⟩
        · intro hc
          rw [if_neg hc] at h
          refine zw_push hm_50 dX4_topOf_4 (v := .inl v2) rfl ?_
          refine zw_push hm_50 dX4_topOf_5 (v := .inl (93 : Int32)) rfl ?_
          refine zw_if2 hm_50 dX4_topOf_7 (t := 19) rfl zc2_ge ?_ ?_
          · intro hc
            rw [if_pos hc] at h
            refine zw_push hm_50 dX4_topOf_19 (v := .inl (0 : Int32)) rfl ?_
            refine zw_iret hm_50 dX4_topOf_20 ?_
            show ma_wp X d w 51 55 [(2, .inl v2), (0, .inr (.inr (some 91))), (1, .inr (.inr (some t)))] [.inl (0 : Int32), .inl (v2 * (mI S1 91 2)), .inr (.inr (some t)), .inr (.inr (some 69))] (ma_put S1 91 6 (.inl v2)) _
            refine zw_stk hm_51 dX4_moveOut_55 (st' := [.inl ((v2 * (mI S1 91 2)) + (0 : Int32)), .inr (.inr (some t)), .inr (.inr (some 69))]) rfl rfl ?_
            refine zw_cv hm_51 dX4_moveOut_56 v_4_127_7 hm_90 [.inl ((v2 * (mI S1 91 2)) + (0 : Int32)), .inr (.inr (some t))] [] rfl (zT_rt (zT_pi hS1) s_69 rfl) ⟨by omega, by omega⟩ rfl (zw_mono h (zv_go ?_ ?_))
            · intro S5 hv
              obtain ⟨hS5, h⟩ := hv
              refine zw_push hm_51 dX4_moveOut_59 (v := .inr (.inr (some 91))) rfl ?_
              refine zw_push hm_51 dX4_moveOut_60 (v := .inl v2) rfl ?_
              refine zw_push hm_51 dX4_moveOut_61 (v := .inr (.inr (some t))) rfl ?_
              obtain ⟨hg, h⟩ := h
              refine zw_gf hm_51 dX4_moveOut_62 (v := .inl (mI S5 t 2)) (zT_tis hS5 hg) (zT_tt hS5 hg) rfl f_4_63_9 rfl ?_
              refine zw_cv hm_51 dX4_moveOut_65 v_4_66_4 hm_53 [.inl (mI S5 t 2), .inl v2] [] rfl (zT_rt hS5 s_91 rfl) ⟨by omega, by omega⟩ rfl ?_
              show ma_wp X (d - 1) (w - 22) 53 0 [(0, .inr (.inr (some 91))), (1, .inl v2), (2, .inl (mI S5 t 2))] [] S5 _
              refine zw_push hm_53 dX4_raiseTop_0 (v := .inl v2) rfl ?_
              refine zw_if0 hm_53 dX4_raiseTop_1 (t := 20) rfl zc0_lt ?_ ?_
              · intro hc
                rw [if_pos hc] at h
                refine zw_vret hm_53 dX4_raiseTop_20 ?_
                show ma_wp X d w 51 68 [(2, .inl v2), (0, .inr (.inr (some 91))), (1, .inr (.inr (some t)))] [] S5 _
                refine zw_push hm_51 dX4_moveOut_68 (v := .inl (1 : Int32)) rfl ?_
                exact zw_bret hm_51 dX4_moveOut_69 (by decide) h
              · intro hc
                rw [if_neg hc] at h
                refine zw_push hm_53 dX4_raiseTop_4 (v := .inl v2) rfl ?_
                refine zw_push hm_53 dX4_raiseTop_5 (v := .inl (93 : Int32)) rfl ?_
                refine zw_if2 hm_53 dX4_raiseTop_7 (t := 20) rfl zc2_ge ?_ ?_
                · intro hc
                  rw [if_pos hc] at h
                  refine zw_vret hm_53 dX4_raiseTop_20 ?_
                  show ma_wp X d w 51 68 [(2, .inl v2), (0, .inr (.inr (some 91))), (1, .inr (.inr (some t)))] [] S5 _
                  refine zw_push hm_51 dX4_moveOut_68 (v := .inl (1 : Int32)) rfl ?_
                  exact zw_bret hm_51 dX4_moveOut_69 (by decide) h
                · intro hc
                  rw [if_neg hc] at h
                  refine zw_push hm_53 dX4_raiseTop_10 (v := .inr (.inr (some 91))) rfl ?_
                  refine zw_gf hm_53 dX4_raiseTop_11 (v := .inr (.inr (some 92))) (zT_is hS5 s_91) (zT_t hS5 s_91) rfl f_4_9_4 (zT_f hS5 r_91_7) ?_
                  refine zw_push hm_53 dX4_raiseTop_14 (v := .inl v2) rfl ?_
                  refine zw_stk hm_53 dX4_raiseTop_15 (st' := [.inl v2, .inr (.inr (some 92)), .inl v2, .inr (.inr (some 92))]) rfl rfl ?_
                  obtain ⟨hg, h⟩ := h
                  refine zw_ia hm_53 dX4_raiseTop_16 (zT_is hS5 s_92) (zT_h hS5 s_92) rfl hg ?_
                  show ma_wp X (d - 1) (w - 22) 53 17 [(0, .inr (.inr (some 91))), (1, .inl v2), (2, .inl (mI S5 t 2))] [.inl (mI S5 92 v2.toNatClampNeg), .inl v2, .inr (.inr (some 92))] S5 _
                  refine zw_push hm_53 dX4_raiseTop_17 (v := .inl (mI S5 t 2)) rfl ?_
                  refine zw_stk hm_53 dX4_raiseTop_18 (st' := [.inl ((mI S5 92 v2.toNatClampNeg) + (mI S5 t 2)), .inl v2, .inr (.inr (some 92))]) rfl rfl ?_
                  obtain ⟨hg, h⟩ := h
                  refine zw_ias hm_53 dX4_raiseTop_19 (zT_is hS5 s_92) (zT_h hS5 s_92) rfl hg ?_
                  refine zw_vret hm_53 dX4_raiseTop_20 ?_
                  show ma_wp X d w 51 68 [(2, .inl v2), (0, .inr (.inr (some 91))), (1, .inr (.inr (some t)))] [] (ma_put S5 92 v2.toNatClampNeg (.inl ((mI S5 92 v2.toNatClampNeg) + (mI S5 t 2)))) _
                  refine zw_push hm_51 dX4_moveOut_68 (v := .inl (1 : Int32)) rfl ?_
                  exact zw_bret hm_51 dX4_moveOut_69 (by decide) h
            · intro x S9 hx
              exact ⟨by decide, hx⟩
          · intro hc
            rw [if_neg hc] at h
            refine zw_push hm_50 dX4_topOf_10 (v := .inr (.inr (some 91))) rfl ?_
            refine zw_gf hm_50 dX4_topOf_11 (v := .inr (.inr (some 92))) (zT_is (zT_pi hS1) s_91) (zT_t (zT_pi hS1) s_91) rfl f_4_9_4 (zT_f (zT_pi hS1) r_91_7) ?_
            refine zw_push hm_50 dX4_topOf_14 (v := .inl v2) rfl ?_
            obtain ⟨hg, h⟩ := h
            refine zw_ia hm_50 dX4_topOf_15 (zT_is (zT_pi hS1) s_92) (zT_h (zT_pi hS1) s_92) rfl hg ?_
            show ma_wp X (d - 1) (w - 21) 50 16 [(0, .inr (.inr (some 91))), (1, .inl v2)] [.inl (mI S1 92 v2.toNatClampNeg)] (ma_put S1 91 6 (.inl v2)) _
            refine zw_goto hm_50 dX4_topOf_16 (t := 20) rfl ?_
            refine zw_iret hm_50 dX4_topOf_20 ?_
            show ma_wp X d w 51 55 [(2, .inl v2), (0, .inr (.inr (some 91))), (1, .inr (.inr (some t)))] [.inl (mI S1 92 v2.toNatClampNeg), .inl (v2 * (mI S1 91 2)), .inr (.inr (some t)), .inr (.inr (some 69))] (ma_put S1 91 6 (.inl v2)) _
            refine zw_stk hm_51 dX4_moveOut_55 (st' := [.inl ((v2 * (mI S1 91 2)) + (mI S1 92 v2.toNatClampNeg)), .inr (.inr (some t)), .inr (.inr (some 69))]) rfl rfl ?_
            refine zw_cv hm_51 dX4_moveOut_56 v_4_127_7 hm_90 [.inl ((v2 * (mI S1 91 2)) + (mI S1 92 v2.toNatClampNeg)), .inr (.inr (some t))] [] rfl (zT_rt (zT_pi hS1) s_69 rfl) ⟨by omega, by omega⟩ rfl (zw_mono h (zv_go ?_ ?_))
            · intro S7 hv
              obtain ⟨hS7, h⟩ := hv
              refine zw_push hm_51 dX4_moveOut_59 (v := .inr (.inr (some 91))) rfl ?_
              refine zw_push hm_51 dX4_moveOut_60 (v := .inl v2) rfl ?_
              refine zw_push hm_51 dX4_moveOut_61 (v := .inr (.inr (some t))) rfl ?_
              obtain ⟨hg, h⟩ := h
              refine zw_gf hm_51 dX4_moveOut_62 (v := .inl (mI S7 t 2)) (zT_tis hS7 hg) (zT_tt hS7 hg) rfl f_4_63_9 rfl ?_
              refine zw_cv hm_51 dX4_moveOut_65 v_4_66_4 hm_53 [.inl (mI S7 t 2), .inl v2] [] rfl (zT_rt hS7 s_91 rfl) ⟨by omega, by omega⟩ rfl ?_
              show ma_wp X (d - 1) (w - 22) 53 0 [(0, .inr (.inr (some 91))), (1, .inl v2), (2, .inl (mI S7 t 2))] [] S7 _
              refine zw_push hm_53 dX4_raiseTop_0 (v := .inl v2) rfl ?_
              refine zw_if0 hm_53 dX4_raiseTop_1 (t := 20) rfl zc0_lt ?_ ?_
              · intro hc
                rw [if_pos hc] at h
                refine zw_vret hm_53 dX4_raiseTop_20 ?_
                show ma_wp X d w 51 68 [(2, .inl v2), (0, .inr (.inr (some 91))), (1, .inr (.inr (some t)))] [] S7 _
                refine zw_push hm_51 dX4_moveOut_68 (v := .inl (1 : Int32)) rfl ?_
                exact zw_bret hm_51 dX4_moveOut_69 (by decide) h
              · intro hc
                rw [if_neg hc] at h
                refine zw_push hm_53 dX4_raiseTop_4 (v := .inl v2) rfl ?_
                refine zw_push hm_53 dX4_raiseTop_5 (v := .inl (93 : Int32)) rfl ?_
                refine zw_if2 hm_53 dX4_raiseTop_7 (t := 20) rfl zc2_ge ?_ ?_
                · intro hc
                  rw [if_pos hc] at h
                  refine zw_vret hm_53 dX4_raiseTop_20 ?_
                  show ma_wp X d w 51 68 [(2, .inl v2), (0, .inr (.inr (some 91))), (1, .inr (.inr (some t)))] [] S7 _
                  refine zw_push hm_51 dX4_moveOut_68 (v := .inl (1 : Int32)) rfl ?_
                  exact zw_bret hm_51 dX4_moveOut_69 (by decide) h
                · intro hc
                  rw [if_neg hc] at h
                  refine zw_push hm_53 dX4_raiseTop_10 (v := .inr (.inr (some 91))) rfl ?_
                  refine zw_gf hm_53 dX4_raiseTop_11 (v := .inr (.inr (some 92))) (zT_is hS7 s_91) (zT_t hS7 s_91) rfl f_4_9_4 (zT_f hS7 r_91_7) ?_
                  refine zw_push hm_53 dX4_raiseTop_14 (v := .inl v2) rfl ?_
                  refine zw_stk hm_53 dX4_raiseTop_15 (st' := [.inl v2, .inr (.inr (some 92)), .inl v2, .inr (.inr (some 92))]) rfl rfl ?_
                  obtain ⟨hg, h⟩ := h
                  refine zw_ia hm_53 dX4_raiseTop_16 (zT_is hS7 s_92) (zT_h hS7 s_92) rfl hg ?_
                  show ma_wp X (d - 1) (w - 22) 53 17 [(0, .inr (.inr (some 91))), (1, .inl v2), (2, .inl (mI S7 t 2))] [.inl (mI S7 92 v2.toNatClampNeg), .inl v2, .inr (.inr (some 92))] S7 _
                  refine zw_push hm_53 dX4_raiseTop_17 (v := .inl (mI S7 t 2)) rfl ?_
                  refine zw_stk hm_53 dX4_raiseTop_18 (st' := [.inl ((mI S7 92 v2.toNatClampNeg) + (mI S7 t 2)), .inl v2, .inr (.inr (some 92))]) rfl rfl ?_
                  obtain ⟨hg, h⟩ := h
                  refine zw_ias hm_53 dX4_raiseTop_19 (zT_is hS7 s_92) (zT_h hS7 s_92) rfl hg ?_
                  refine zw_vret hm_53 dX4_raiseTop_20 ?_
                  show ma_wp X d w 51 68 [(2, .inl v2), (0, .inr (.inr (some 91))), (1, .inr (.inr (some t)))] [] (ma_put S7 92 v2.toNatClampNeg (.inl ((mI S7 92 v2.toNatClampNeg) + (mI S7 t 2)))) _
                  refine zw_push hm_51 dX4_moveOut_68 (v := .inl (1 : Int32)) rfl ?_
                  exact zw_bret hm_51 dX4_moveOut_69 (by decide) h
            · intro x S9 hx
              exact ⟨by decide, hx⟩
      · intro hc
        rw [if_pos (Classical.not_not.mp hc)] at h
        refine zw_push hm_51 dX4_moveOut_32 (v := .inl (0 : Int32)) rfl ?_
        exact zw_bret hm_51 dX4_moveOut_33 (by decide) h
    · intro x S9 hx
      exact ⟨by decide, hx⟩
  · intro hc
    rw [if_neg hc] at h
    refine zw_push hm_41 dX4_fits_4 (v := .inl (mI S 91 6)) rfl ?_
    refine zw_push hm_41 dX4_fits_5 (v := .inl (93 : Int32)) rfl ?_
    refine zw_if2 hm_41 dX4_fits_7 (t := 29) rfl zc2_ge ?_ ?_
    · intro hc
      rw [if_pos hc] at h
      refine zw_push hm_41 dX4_fits_29 (v := .inl (0 : Int32)) rfl ?_
      refine zw_bret hm_41 dX4_fits_30 (by decide) ?_
      show ma_wp X d w 51 12 [(0, .inr (.inr (some 91))), (1, .inr (.inr (some t)))] [.inl (0 : Int32)] S _
      refine zw_if0 hm_51 dX4_moveOut_12 (t := 22) rfl zc0_eq (fun _ => ?_) (fun hc => absurd (by decide) hc)
      refine zw_push hm_51 dX4_moveOut_22 (v := .inr (.inr (some 91))) rfl ?_
      refine zw_cv hm_51 dX4_moveOut_23 v_4_54_4 hm_52 [] [] rfl (zT_rt hS s_91 rfl) ⟨by omega, by omega⟩ rfl (zw_mono h (zi_go ?_ ?_))
      · intro v10 S9 hv
        obtain ⟨hS9, h⟩ := hv
        refine zw_sto hm_51 dX4_moveOut_26 [(2, .inl v10), (0, .inr (.inr (some 91))), (1, .inr (.inr (some t)))] rfl rfl rfl ?_
        refine zw_push hm_51 dX4_moveOut_27 (v := .inl v10) rfl ?_
        refine zw_push hm_51 dX4_moveOut_28 (v := .inl (-1 : Int32)) rfl ?_
        refine zw_if2 hm_51 dX4_moveOut_29 (t := 34) rfl zc2_ne ?_ ?_
        · intro hc
          rw [if_neg hc] at h
          refine zw_push hm_51 dX4_moveOut_34 (v := .inr (.inr (some 91))) rfl ?_
          refine zw_push hm_51 dX4_moveOut_35 (v := .inl v10) rfl ?_
          refine zw_pf hm_51 dX4_moveOut_36 (zT_is hS9 s_91) (zT_t hS9 s_91) p_4_83_4 zk_int ?_
          refine zw_push hm_51 dX4_moveOut_39 (v := .inr (.inr (some 91))) rfl ?_
          refine zw_gf hm_51 dX4_moveOut_40 (v := .inr (.inr (some 69))) (zT_is (zT_pi hS9) s_91) (zT_t (zT_pi hS9) s_91) rfl f_4_100_4 (zT_f (zT_pi hS9) r_91_0) ?_
          refine zw_push hm_51 dX4_moveOut_43 (v := .inr (.inr (some t))) rfl ?_
          refine zw_push hm_51 dX4_moveOut_44 (v := .inl v10) rfl ?_
          refine zw_push hm_51 dX4_moveOut_45 (v := .inr (.inr (some 91))) rfl ?_
          refine zw_gf hm_51 dX4_moveOut_46 (v := .inl (mI S9 91 2)) (zT_is (zT_pi hS9) s_91) (zT_t (zT_pi hS9) s_91) rfl f_4_18_4 rfl ?_
          refine zw_stk hm_51 dX4_moveOut_49 (st' := [.inl (v10 * (mI S9 91 2)), .inr (.inr (some t)), .inr (.inr (some 69))]) rfl rfl ?_
          refine zw_push hm_51 dX4_moveOut_50 (v := .inr (.inr (some 91))) rfl ?_
          refine zw_push hm_51 dX4_moveOut_51 (v := .inl v10) rfl ?_
          refine zw_cv hm_51 dX4_moveOut_52 v_4_93_4 hm_50 [.inl v10] [.inl (v10 * (mI S9 91 2)), .inr (.inr (some t)), .inr (.inr (some 69))] rfl (zT_rt (zT_pi hS9) s_91 rfl) ⟨by omega, by omega⟩ rfl ?_
          show ma_wp X (d - 1) (w - 21) 50 0 [(0, .inr (.inr (some 91))), (1, .inl v10)] [] (ma_put S9 91 6 (.inl v10)) _
          refine zw_push hm_50 dX4_topOf_0 (v := .inl v10) rfl ?_
          refine zw_if0 hm_50 dX4_topOf_1 (t := 19) rfl zc0_lt ?_ ?_
          · intro hc
            rw [if_pos hc] at h
            refine zw_push hm_50 dX4_topOf_19 (v := .inl (0 : Int32)) rfl ?_
            refine zw_iret hm_50 dX4_topOf_20 ?_
            show ma_wp X d w 51 55 [(2, .inl v10), (0, .inr (.inr (some 91))), (1, .inr (.inr (some t)))] [.inl (0 : Int32), .inl (v10 * (mI S9 91 2)), .inr (.inr (some t)), .inr (.inr (some 69))] (ma_put S9 91 6 (.inl v10)) _
            refine zw_stk hm_51 dX4_moveOut_55 (st' := [.inl ((v10 * (mI S9 91 2)) + (0 : Int32)), .inr (.inr (some t)), .inr (.inr (some 69))]) rfl rfl ?_
            refine zw_cv hm_51 dX4_moveOut_56 v_4_127_7 hm_90 [.inl ((v10 * (mI S9 91 2)) + (0 : Int32)), .inr (.inr (some t))] [] rfl (zT_rt (zT_pi hS9) s_69 rfl) ⟨by omega, by omega⟩ rfl (zw_mono h (zv_go ?_ ?_))
            · intro S11 hv
              obtain ⟨hS11, h⟩ := hv
              refine zw_push hm_51 dX4_moveOut_59 (v := .inr (.inr (some 91))) rfl ?_
              refine zw_push hm_51 dX4_moveOut_60 (v := .inl v10) rfl ?_
              refine zw_push hm_51 dX4_moveOut_61 (v := .inr (.inr (some t))) rfl ?_
              obtain ⟨hg, h⟩ := h
              refine zw_gf hm_51 dX4_moveOut_62 (v := .inl (mI S11 t 2)) (zT_tis hS11 hg) (zT_tt hS11 hg) rfl f_4_63_9 rfl ?_
              refine zw_cv hm_51 dX4_moveOut_65 v_4_66_4 hm_53 [.inl (mI S11 t 2), .inl v10] [] rfl (zT_rt hS11 s_91 rfl) ⟨by omega, by omega⟩ rfl ?_
              show ma_wp X (d - 1) (w - 22) 53 0 [(0, .inr (.inr (some 91))), (1, .inl v10), (2, .inl (mI S11 t 2))] [] S11 _
              refine zw_push hm_53 dX4_raiseTop_0 (v := .inl v10) rfl ?_
              refine zw_if0 hm_53 dX4_raiseTop_1 (t := 20) rfl zc0_lt ?_ ?_
              · intro hc
                rw [if_pos hc] at h
                refine zw_vret hm_53 dX4_raiseTop_20 ?_
                show ma_wp X d w 51 68 [(2, .inl v10), (0, .inr (.inr (some 91))), (1, .inr (.inr (some t)))] [] S11 _
                refine zw_push hm_51 dX4_moveOut_68 (v := .inl (1 : Int32)) rfl ?_
                exact zw_bret hm_51 dX4_moveOut_69 (by decide) h
              · intro hc
                rw [if_neg hc] at h
                refine zw_push hm_53 dX4_raiseTop_4 (v := .inl v10) rfl ?_
                refine zw_push hm_53 dX4_raiseTop_5 (v := .inl (93 : Int32)) rfl ?_
                refine zw_if2 hm_53 dX4_raiseTop_7 (t := 20) rfl zc2_ge ?_ ?_
                · intro hc
                  rw [if_pos hc] at h
                  refine zw_vret hm_53 dX4_raiseTop_20 ?_
                  show ma_wp X d w 51 68 [(2, .inl v10), (0, .inr (.inr (some 91))), (1, .inr (.inr (some t)))] [] S11 _
                  refine zw_push hm_51 dX4_moveOut_68 (v := .inl (1 : Int32)) rfl ?_
                  exact zw_bret hm_51 dX4_moveOut_69 (by decide) h
                · intro hc
                  rw [if_neg hc] at h
                  refine zw_push hm_53 dX4_raiseTop_10 (v := .inr (.inr (some 91))) rfl ?_
                  refine zw_gf hm_53 dX4_raiseTop_11 (v := .inr (.inr (some 92))) (zT_is hS11 s_91) (zT_t hS11 s_91) rfl f_4_9_4 (zT_f hS11 r_91_7) ?_
                  refine zw_push hm_53 dX4_raiseTop_14 (v := .inl v10) rfl ?_
                  refine zw_stk hm_53 dX4_raiseTop_15 (st' := [.inl v10, .inr (.inr (some 92)), .inl v10, .inr (.inr (some 92))]) rfl rfl ?_
                  obtain ⟨hg, h⟩ := h
                  refine zw_ia hm_53 dX4_raiseTop_16 (zT_is hS11 s_92) (zT_h hS11 s_92) rfl hg ?_
                  show ma_wp X (d - 1) (w - 22) 53 17 [(0, .inr (.inr (some 91))), (1, .inl v10), (2, .inl (mI S11 t 2))] [.inl (mI S11 92 v10.toNatClampNeg), .inl v10, .inr (.inr (some 92))] S11 _
                  refine zw_push hm_53 dX4_raiseTop_17 (v := .inl (mI S11 t 2)) rfl ?_
                  refine zw_stk hm_53 dX4_raiseTop_18 (st' := [.inl ((mI S11 92 v10.toNatClampNeg) + (mI S11 t 2)), .inl v10, .inr (.inr (some 92))]) rfl rfl ?_
                  obtain ⟨hg, h⟩ := h
                  refine zw_ias hm_53 dX4_raiseTop_19 (zT_is hS11 s_92) (zT_h hS11 s_92) rfl hg ?_
                  refine zw_vret hm_53 dX4_raiseTop_20 ?_
                  show ma_wp X d w 51 68 [(2, .inl v10), (0, .inr (.inr (some 91))), (1, .inr (.inr (some t)))] [] (ma_put S11 92 v10.toNatClampNeg (.inl ((mI S11 92 v10.toNatClampNeg) + (mI S11 t 2)))) _
                  refine zw_push hm_51 dX4_moveOut_68 (v := .inl (1 : Int32)) rfl ?_
                  exact zw_bret hm_51 dX4_moveOut_69 (by decide) h
            · intro x S9 hx
              exact ⟨by decide, hx⟩
          · intro hc
            rw [if_neg hc] at h
            refine zw_push hm_50 dX4_topOf_4 (v := .inl v10) rfl ?_
            refine zw_push hm_50 dX4_topOf_5 (v := .inl (93 : Int32)) rfl ?_
            refine zw_if2 hm_50 dX4_topOf_7 (t := 19) rfl zc2_ge ?_ ?_
            · intro hc
              rw [if_pos hc] at h
              refine zw_push hm_50 dX4_topOf_19 (v := .inl (0 : Int32)) rfl ?_
              refine zw_iret hm_50 dX4_topOf_20 ?_
              show ma_wp X d w 51 55 [(2, .inl v10), (0, .inr (.inr (some 91))), (1, .inr (.inr (some t)))] [.inl (0 : Int32), .inl (v10 * (mI S9 91 2)), .inr (.inr (some t)), .inr (.inr (some 69))] (ma_put S9 91 6 (.inl v10)) _
              refine zw_stk hm_51 dX4_moveOut_55 (st' := [.inl ((v10 * (mI S9 91 2)) + (0 : Int32)), .inr (.inr (some t)), .inr (.inr (some 69))]) rfl rfl ?_
              refine zw_cv hm_51 dX4_moveOut_56 v_4_127_7 hm_90 [.inl ((v10 * (mI S9 91 2)) + (0 : Int32)), .inr (.inr (some t))] [] rfl (zT_rt (zT_pi hS9) s_69 rfl) ⟨by omega, by omega⟩ rfl (zw_mono h (zv_go ?_ ?_))
              · intro S13 hv
                obtain ⟨hS13, h⟩ := hv
                refine zw_push hm_51 dX4_moveOut_59 (v := .inr (.inr (some 91))) rfl ?_
                refine zw_push hm_51 dX4_moveOut_60 (v := .inl v10) rfl ?_
                refine zw_push hm_51 dX4_moveOut_61 (v := .inr (.inr (some t))) rfl ?_
                obtain ⟨hg, h⟩ := h
                refine zw_gf hm_51 dX4_moveOut_62 (v := .inl (mI S13 t 2)) (zT_tis hS13 hg) (zT_tt hS13 hg) rfl f_4_63_9 rfl ?_
                refine zw_cv hm_51 dX4_moveOut_65 v_4_66_4 hm_53 [.inl (mI S13 t 2), .inl v10] [] rfl (zT_rt hS13 s_91 rfl) ⟨by omega, by omega⟩ rfl ?_
                show ma_wp X (d - 1) (w - 22) 53 0 [(0, .inr (.inr (some 91))), (1, .inl v10), (2, .inl (mI S13 t 2))] [] S13 _
                refine zw_push hm_53 dX4_raiseTop_0 (v := .inl v10) rfl ?_
                refine zw_if0 hm_53 dX4_raiseTop_1 (t := 20) rfl zc0_lt ?_ ?_
                · intro hc
                  rw [if_pos hc] at h
                  refine zw_vret hm_53 dX4_raiseTop_20 ?_
                  show ma_wp X d w 51 68 [(2, .inl v10), (0, .inr (.inr (some 91))), (1, .inr (.inr (some t)))] [] S13 _
                  refine zw_push hm_51 dX4_moveOut_68 (v := .inl (1 : Int32)) rfl ?_
                  exact zw_bret hm_51 dX4_moveOut_69 (by decide) h
                · intro hc
                  rw [if_neg hc] at h
                  refine zw_push hm_53 dX4_raiseTop_4 (v := .inl v10) rfl ?_
                  refine zw_push hm_53 dX4_raiseTop_5 (v := .inl (93 : Int32)) rfl ?_
                  refine zw_if2 hm_53 dX4_raiseTop_7 (t := 20) rfl zc2_ge ?_ ?_
                  · intro hc
                    rw [if_pos hc] at h
                    refine zw_vret hm_53 dX4_raiseTop_20 ?_
                    show ma_wp X d w 51 68 [(2, .inl v10), (0, .inr (.inr (some 91))), (1, .inr (.inr (some t)))] [] S13 _
                    refine zw_push hm_51 dX4_moveOut_68 (v := .inl (1 : Int32)) rfl ?_
                    exact zw_bret hm_51 dX4_moveOut_69 (by decide) h
                  · intro hc
                    rw [if_neg hc] at h
                    refine zw_push hm_53 dX4_raiseTop_10 (v := .inr (.inr (some 91))) rfl ?_
                    refine zw_gf hm_53 dX4_raiseTop_11 (v := .inr (.inr (some 92))) (zT_is hS13 s_91) (zT_t hS13 s_91) rfl f_4_9_4 (zT_f hS13 r_91_7) ?_
                    refine zw_push hm_53 dX4_raiseTop_14 (v := .inl v10) rfl ?_
                    refine zw_stk hm_53 dX4_raiseTop_15 (st' := [.inl v10, .inr (.inr (some 92)), .inl v10, .inr (.inr (some 92))]) rfl rfl ?_
                    obtain ⟨hg, h⟩ := h
                    refine zw_ia hm_53 dX4_raiseTop_16 (zT_is hS13 s_92) (zT_h hS13 s_92) rfl hg ?_
                    show ma_wp X (d - 1) (w - 22) 53 17 [(0, .inr (.inr (some 91))), (1, .inl v10), (2, .inl (mI S13 t 2))] [.inl (mI S13 92 v10.toNatClampNeg), .inl v10, .inr (.inr (some 92))] S13 _
                    refine zw_push hm_53 dX4_raiseTop_17 (v := .inl (mI S13 t 2)) rfl ?_
                    refine zw_stk hm_53 dX4_raiseTop_18 (st' := [.inl ((mI S13 92 v10.toNatClampNeg) + (mI S13 t 2)), .inl v10, .inr (.inr (some 92))]) rfl rfl ?_
                    obtain ⟨hg, h⟩ := h
                    refine zw_ias hm_53 dX4_raiseTop_19 (zT_is hS13 s_92) (zT_h hS13 s_92) rfl hg ?_
                    refine zw_vret hm_53 dX4_raiseTop_20 ?_
                    show ma_wp X d w 51 68 [(2, .inl v10), (0, .inr (.inr (some 91))), (1, .inr (.inr (some t)))] [] (ma_put S13 92 v10.toNatClampNeg (.inl ((mI S13 92 v10.toNatClampNeg) + (mI S13 t 2)))) _
                    refine zw_push hm_51 dX4_moveOut_68 (v := .inl (1 : Int32)) rfl ?_
                    exact zw_bret hm_51 dX4_moveOut_69 (by decide) h
              · intro x S9 hx
                exact ⟨by decide, hx⟩
            · intro hc
              rw [if_neg hc] at h
              refine zw_push hm_50 dX4_topOf_10 (v := .inr (.inr (some 91))) rfl ?_
              refine zw_gf hm_50 dX4_topOf_11 (v := .inr (.inr (some 92))) (zT_is (zT_pi hS9) s_91) (zT_t (zT_pi hS9) s_91) rfl f_4_9_4 (zT_f (zT_pi hS9) r_91_7) ?_
              refine zw_push hm_50 dX4_topOf_14 (v := .inl v10) rfl ?_
              obtain ⟨hg, h⟩ := h
              refine zw_ia hm_50 dX4_topOf_15 (zT_is (zT_pi hS9) s_92) (zT_h (zT_pi hS9) s_92) rfl hg ?_
              show ma_wp X (d - 1) (w - 21) 50 16 [(0, .inr (.inr (some 91))), (1, .inl v10)] [.inl (mI S9 92 v10.toNatClampNeg)] (ma_put S9 91 6 (.inl v10)) _
              refine zw_goto hm_50 dX4_topOf_16 (t := 20) rfl ?_
              refine zw_iret hm_50 dX4_topOf_20 ?_
              show ma_wp X d w 51 55 [(2, .inl v10), (0, .inr (.inr (some 91))), (1, .inr (.inr (some t)))] [.inl (mI S9 92 v10.toNatClampNeg), .inl (v10 * (mI S9 91 2)), .inr (.inr (some t)), .inr (.inr (some 69))] (ma_put S9 91 6 (.inl v10)) _
              refine zw_stk hm_51 dX4_moveOut_55 (st' := [.inl ((v10 * (mI S9 91 2)) + (mI S9 92 v10.toNatClampNeg)), .inr (.inr (some t)), .inr (.inr (some 69))]) rfl rfl ?_
              refine zw_cv hm_51 dX4_moveOut_56 v_4_127_7 hm_90 [.inl ((v10 * (mI S9 91 2)) + (mI S9 92 v10.toNatClampNeg)), .inr (.inr (some t))] [] rfl (zT_rt (zT_pi hS9) s_69 rfl) ⟨by omega, by omega⟩ rfl (zw_mono h (zv_go ?_ ?_))
              · intro S15 hv
                obtain ⟨hS15, h⟩ := hv
                refine zw_push hm_51 dX4_moveOut_59 (v := .inr (.inr (some 91))) rfl ?_
                refine zw_push hm_51 dX4_moveOut_60 (v := .inl v10) rfl ?_
                refine zw_push hm_51 dX4_moveOut_61 (v := .inr (.inr (some t))) rfl ?_
                obtain ⟨hg, h⟩ := h
                refine zw_gf hm_51 dX4_moveOut_62 (v := .inl (mI S15 t 2)) (zT_tis hS15 hg) (zT_tt hS15 hg) rfl f_4_63_9 rfl ?_
                refine zw_cv hm_51 dX4_moveOut_65 v_4_66_4 hm_53 [.inl (mI S15 t 2), .inl v10] [] rfl (zT_rt hS15 s_91 rfl) ⟨by omega, by omega⟩ rfl ?_
                show ma_wp X (d - 1) (w - 22) 53 0 [(0, .inr (.inr (some 91))), (1, .inl v10), (2, .inl (mI S15 t 2))] [] S15 _
                refine zw_push hm_53 dX4_raiseTop_0 (v := .inl v10) rfl ?_
                refine zw_if0 hm_53 dX4_raiseTop_1 (t := 20) rfl zc0_lt ?_ ?_
                · intro hc
                  rw [if_pos hc] at h
                  refine zw_vret hm_53 dX4_raiseTop_20 ?_
                  show ma_wp X d w 51 68 [(2, .inl v10), (0, .inr (.inr (some 91))), (1, .inr (.inr (some t)))] [] S15 _
                  refine zw_push hm_51 dX4_moveOut_68 (v := .inl (1 : Int32)) rfl ?_
                  exact zw_bret hm_51 dX4_moveOut_69 (by decide) h
                · intro hc
                  rw [if_neg hc] at h
                  refine zw_push hm_53 dX4_raiseTop_4 (v := .inl v10) rfl ?_
                  refine zw_push hm_53 dX4_raiseTop_5 (v := .inl (93 : Int32)) rfl ?_
                  refine zw_if2 hm_53 dX4_raiseTop_7 (t := 20) rfl zc2_ge ?_ ?_
                  · intro hc
                    rw [if_pos hc] at h
                    refine zw_vret hm_53 dX4_raiseTop_20 ?_
                    show ma_wp X d w 51 68 [(2, .inl v10), (0, .inr (.inr (some 91))), (1, .inr (.inr (some t)))] [] S15 _
                    refine zw_push hm_51 dX4_moveOut_68 (v := .inl (1 : Int32)) rfl ?_
                    exact zw_bret hm_51 dX4_moveOut_69 (by decide) h
                  · intro hc
                    rw [if_neg hc] at h
                    refine zw_push hm_53 dX4_raiseTop_10 (v := .inr (.inr (some 91))) rfl ?_
                    refine zw_gf hm_53 dX4_raiseTop_11 (v := .inr (.inr (some 92))) (zT_is hS15 s_91) (zT_t hS15 s_91) rfl f_4_9_4 (zT_f hS15 r_91_7) ?_
                    refine zw_push hm_53 dX4_raiseTop_14 (v := .inl v10) rfl ?_
                    refine zw_stk hm_53 dX4_raiseTop_15 (st' := [.inl v10, .inr (.inr (some 92)), .inl v10, .inr (.inr (some 92))]) rfl rfl ?_
                    obtain ⟨hg, h⟩ := h
                    refine zw_ia hm_53 dX4_raiseTop_16 (zT_is hS15 s_92) (zT_h hS15 s_92) rfl hg ?_
                    show ma_wp X (d - 1) (w - 22) 53 17 [(0, .inr (.inr (some 91))), (1, .inl v10), (2, .inl (mI S15 t 2))] [.inl (mI S15 92 v10.toNatClampNeg), .inl v10, .inr (.inr (some 92))] S15 _
                    refine zw_push hm_53 dX4_raiseTop_17 (v := .inl (mI S15 t 2)) rfl ?_
                    refine zw_stk hm_53 dX4_raiseTop_18 (st' := [.inl ((mI S15 92 v10.toNatClampNeg) + (mI S15 t 2)), .inl v10, .inr (.inr (some 92))]) rfl rfl ?_
                    obtain ⟨hg, h⟩ := h
                    refine zw_ias hm_53 dX4_raiseTop_19 (zT_is hS15 s_92) (zT_h hS15 s_92) rfl hg ?_
                    refine zw_vret hm_53 dX4_raiseTop_20 ?_
                    show ma_wp X d w 51 68 [(2, .inl v10), (0, .inr (.inr (some 91))), (1, .inr (.inr (some t)))] [] (ma_put S15 92 v10.toNatClampNeg (.inl ((mI S15 92 v10.toNatClampNeg) + (mI S15 t 2)))) _
                    refine zw_push hm_51 dX4_moveOut_68 (v := .inl (1 : Int32)) rfl ?_
                    exact zw_bret hm_51 dX4_moveOut_69 (by decide) h
              · intro x S9 hx
                exact ⟨by decide, hx⟩
        · intro hc
          rw [if_pos (Classical.not_not.mp hc)] at h
          refine zw_push hm_51 dX4_moveOut_32 (v := .inl (0 : Int32)) rfl ?_
          exact zw_bret hm_51 dX4_moveOut_33 (by decide) h
      · intro x S9 hx
        exact ⟨by decide, hx⟩
    · intro hc
      rw [if_neg hc] at h
      refine zw_push hm_41 dX4_fits_10 (v := .inr (.inr (some 91))) rfl ?_
      refine zw_gf hm_41 dX4_fits_11 (v := .inr (.inr (some 92))) (zT_is hS s_91) (zT_t hS s_91) rfl f_4_9_4 (zT_f hS r_91_7) ?_
      refine zw_push hm_41 dX4_fits_14 (v := .inl (mI S 91 6)) rfl ?_
      obtain ⟨hg, h⟩ := h
      refine zw_ia hm_41 dX4_fits_15 (zT_is hS s_92) (zT_h hS s_92) rfl hg ?_
      show ma_wp X (d - 1) (w - 22) 41 16 [(0, .inr (.inr (some 91))), (1, .inl (mI S 91 6)), (2, .inl (mI S t 2))] [.inl (mI S 92 (mI S 91 6).toNatClampNeg)] S _
      refine zw_push hm_41 dX4_fits_16 (v := .inl (mI S t 2)) rfl ?_
      refine zw_stk hm_41 dX4_fits_17 (st' := [.inl ((mI S 92 (mI S 91 6).toNatClampNeg) + (mI S t 2))]) rfl rfl ?_
      refine zw_push hm_41 dX4_fits_18 (v := .inr (.inr (some 91))) rfl ?_
      refine zw_gf hm_41 dX4_fits_19 (v := .inl (mI S 91 2)) (zT_is hS s_91) (zT_t hS s_91) rfl f_4_18_4 rfl ?_
      refine zw_if2 hm_41 dX4_fits_22 (t := 29) rfl zc2_gt ?_ ?_
      · intro hc
        rw [if_pos hc] at h
        refine zw_push hm_41 dX4_fits_29 (v := .inl (0 : Int32)) rfl ?_
        refine zw_bret hm_41 dX4_fits_30 (by decide) ?_
        show ma_wp X d w 51 12 [(0, .inr (.inr (some 91))), (1, .inr (.inr (some t)))] [.inl (0 : Int32)] S _
        refine zw_if0 hm_51 dX4_moveOut_12 (t := 22) rfl zc0_eq (fun _ => ?_) (fun hc => absurd (by decide) hc)
        refine zw_push hm_51 dX4_moveOut_22 (v := .inr (.inr (some 91))) rfl ?_
        refine zw_cv hm_51 dX4_moveOut_23 v_4_54_4 hm_52 [] [] rfl (zT_rt hS s_91 rfl) ⟨by omega, by omega⟩ rfl (zw_mono h (zi_go ?_ ?_))
        · intro v18 S17 hv
          obtain ⟨hS17, h⟩ := hv
          refine zw_sto hm_51 dX4_moveOut_26 [(2, .inl v18), (0, .inr (.inr (some 91))), (1, .inr (.inr (some t)))] rfl rfl rfl ?_
          refine zw_push hm_51 dX4_moveOut_27 (v := .inl v18) rfl ?_
          refine zw_push hm_51 dX4_moveOut_28 (v := .inl (-1 : Int32)) rfl ?_
          refine zw_if2 hm_51 dX4_moveOut_29 (t := 34) rfl zc2_ne ?_ ?_
          · intro hc
            rw [if_neg hc] at h
            refine zw_push hm_51 dX4_moveOut_34 (v := .inr (.inr (some 91))) rfl ?_
            refine zw_push hm_51 dX4_moveOut_35 (v := .inl v18) rfl ?_
            refine zw_pf hm_51 dX4_moveOut_36 (zT_is hS17 s_91) (zT_t hS17 s_91) p_4_83_4 zk_int ?_
            refine zw_push hm_51 dX4_moveOut_39 (v := .inr (.inr (some 91))) rfl ?_
            refine zw_gf hm_51 dX4_moveOut_40 (v := .inr (.inr (some 69))) (zT_is (zT_pi hS17) s_91) (zT_t (zT_pi hS17) s_91) rfl f_4_100_4 (zT_f (zT_pi hS17) r_91_0) ?_
            refine zw_push hm_51 dX4_moveOut_43 (v := .inr (.inr (some t))) rfl ?_
            refine zw_push hm_51 dX4_moveOut_44 (v := .inl v18) rfl ?_
            refine zw_push hm_51 dX4_moveOut_45 (v := .inr (.inr (some 91))) rfl ?_
            refine zw_gf hm_51 dX4_moveOut_46 (v := .inl (mI S17 91 2)) (zT_is (zT_pi hS17) s_91) (zT_t (zT_pi hS17) s_91) rfl f_4_18_4 rfl ?_
            refine zw_stk hm_51 dX4_moveOut_49 (st' := [.inl (v18 * (mI S17 91 2)), .inr (.inr (some t)), .inr (.inr (some 69))]) rfl rfl ?_
            refine zw_push hm_51 dX4_moveOut_50 (v := .inr (.inr (some 91))) rfl ?_
            refine zw_push hm_51 dX4_moveOut_51 (v := .inl v18) rfl ?_
            refine zw_cv hm_51 dX4_moveOut_52 v_4_93_4 hm_50 [.inl v18] [.inl (v18 * (mI S17 91 2)), .inr (.inr (some t)), .inr (.inr (some 69))] rfl (zT_rt (zT_pi hS17) s_91 rfl) ⟨by omega, by omega⟩ rfl ?_
            show ma_wp X (d - 1) (w - 21) 50 0 [(0, .inr (.inr (some 91))), (1, .inl v18)] [] (ma_put S17 91 6 (.inl v18)) _
            refine zw_push hm_50 dX4_topOf_0 (v := .inl v18) rfl ?_
            refine zw_if0 hm_50 dX4_topOf_1 (t := 19) rfl zc0_lt ?_ ?_
            · intro hc
              rw [if_pos hc] at h
              refine zw_push hm_50 dX4_topOf_19 (v := .inl (0 : Int32)) rfl ?_
              refine zw_iret hm_50 dX4_topOf_20 ?_
              show ma_wp X d w 51 55 [(2, .inl v18), (0, .inr (.inr (some 91))), (1, .inr (.inr (some t)))] [.inl (0 : Int32), .inl (v18 * (mI S17 91 2)), .inr (.inr (some t)), .inr (.inr (some 69))] (ma_put S17 91 6 (.inl v18)) _
              refine zw_stk hm_51 dX4_moveOut_55 (st' := [.inl ((v18 * (mI S17 91 2)) + (0 : Int32)), .inr (.inr (some t)), .inr (.inr (some 69))]) rfl rfl ?_
              refine zw_cv hm_51 dX4_moveOut_56 v_4_127_7 hm_90 [.inl ((v18 * (mI S17 91 2)) + (0 : Int32)), .inr (.inr (some t))] [] rfl (zT_rt (zT_pi hS17) s_69 rfl) ⟨by omega, by omega⟩ rfl (zw_mono h (zv_go ?_ ?_))
              · intro S19 hv
                obtain ⟨hS19, h⟩ := hv
                refine zw_push hm_51 dX4_moveOut_59 (v := .inr (.inr (some 91))) rfl ?_
                refine zw_push hm_51 dX4_moveOut_60 (v := .inl v18) rfl ?_
                refine zw_push hm_51 dX4_moveOut_61 (v := .inr (.inr (some t))) rfl ?_
                obtain ⟨hg, h⟩ := h
                refine zw_gf hm_51 dX4_moveOut_62 (v := .inl (mI S19 t 2)) (zT_tis hS19 hg) (zT_tt hS19 hg) rfl f_4_63_9 rfl ?_
                refine zw_cv hm_51 dX4_moveOut_65 v_4_66_4 hm_53 [.inl (mI S19 t 2), .inl v18] [] rfl (zT_rt hS19 s_91 rfl) ⟨by omega, by omega⟩ rfl ?_
                show ma_wp X (d - 1) (w - 22) 53 0 [(0, .inr (.inr (some 91))), (1, .inl v18), (2, .inl (mI S19 t 2))] [] S19 _
                refine zw_push hm_53 dX4_raiseTop_0 (v := .inl v18) rfl ?_
                refine zw_if0 hm_53 dX4_raiseTop_1 (t := 20) rfl zc0_lt ?_ ?_
                · intro hc
                  rw [if_pos hc] at h
                  refine zw_vret hm_53 dX4_raiseTop_20 ?_
                  show ma_wp X d w 51 68 [(2, .inl v18), (0, .inr (.inr (some 91))), (1, .inr (.inr (some t)))] [] S19 _
                  refine zw_push hm_51 dX4_moveOut_68 (v := .inl (1 : Int32)) rfl ?_
                  exact zw_bret hm_51 dX4_moveOut_69 (by decide) h
                · intro hc
                  rw [if_neg hc] at h
                  refine zw_push hm_53 dX4_raiseTop_4 (v := .inl v18) rfl ?_
                  refine zw_push hm_53 dX4_raiseTop_5 (v := .inl (93 : Int32)) rfl ?_
                  refine zw_if2 hm_53 dX4_raiseTop_7 (t := 20) rfl zc2_ge ?_ ?_
                  · intro hc
                    rw [if_pos hc] at h
                    refine zw_vret hm_53 dX4_raiseTop_20 ?_
                    show ma_wp X d w 51 68 [(2, .inl v18), (0, .inr (.inr (some 91))), (1, .inr (.inr (some t)))] [] S19 _
                    refine zw_push hm_51 dX4_moveOut_68 (v := .inl (1 : Int32)) rfl ?_
                    exact zw_bret hm_51 dX4_moveOut_69 (by decide) h
                  · intro hc
                    rw [if_neg hc] at h
                    refine zw_push hm_53 dX4_raiseTop_10 (v := .inr (.inr (some 91))) rfl ?_
                    refine zw_gf hm_53 dX4_raiseTop_11 (v := .inr (.inr (some 92))) (zT_is hS19 s_91) (zT_t hS19 s_91) rfl f_4_9_4 (zT_f hS19 r_91_7) ?_
                    refine zw_push hm_53 dX4_raiseTop_14 (v := .inl v18) rfl ?_
                    refine zw_stk hm_53 dX4_raiseTop_15 (st' := [.inl v18, .inr (.inr (some 92)), .inl v18, .inr (.inr (some 92))]) rfl rfl ?_
                    obtain ⟨hg, h⟩ := h
                    refine zw_ia hm_53 dX4_raiseTop_16 (zT_is hS19 s_92) (zT_h hS19 s_92) rfl hg ?_
                    show ma_wp X (d - 1) (w - 22) 53 17 [(0, .inr (.inr (some 91))), (1, .inl v18), (2, .inl (mI S19 t 2))] [.inl (mI S19 92 v18.toNatClampNeg), .inl v18, .inr (.inr (some 92))] S19 _
                    refine zw_push hm_53 dX4_raiseTop_17 (v := .inl (mI S19 t 2)) rfl ?_
                    refine zw_stk hm_53 dX4_raiseTop_18 (st' := [.inl ((mI S19 92 v18.toNatClampNeg) + (mI S19 t 2)), .inl v18, .inr (.inr (some 92))]) rfl rfl ?_
                    obtain ⟨hg, h⟩ := h
                    refine zw_ias hm_53 dX4_raiseTop_19 (zT_is hS19 s_92) (zT_h hS19 s_92) rfl hg ?_
                    refine zw_vret hm_53 dX4_raiseTop_20 ?_
                    show ma_wp X d w 51 68 [(2, .inl v18), (0, .inr (.inr (some 91))), (1, .inr (.inr (some t)))] [] (ma_put S19 92 v18.toNatClampNeg (.inl ((mI S19 92 v18.toNatClampNeg) + (mI S19 t 2)))) _
                    refine zw_push hm_51 dX4_moveOut_68 (v := .inl (1 : Int32)) rfl ?_
                    exact zw_bret hm_51 dX4_moveOut_69 (by decide) h
              · intro x S9 hx
                exact ⟨by decide, hx⟩
            · intro hc
              rw [if_neg hc] at h
              refine zw_push hm_50 dX4_topOf_4 (v := .inl v18) rfl ?_
              refine zw_push hm_50 dX4_topOf_5 (v := .inl (93 : Int32)) rfl ?_
              refine zw_if2 hm_50 dX4_topOf_7 (t := 19) rfl zc2_ge ?_ ?_
              · intro hc
                rw [if_pos hc] at h
                refine zw_push hm_50 dX4_topOf_19 (v := .inl (0 : Int32)) rfl ?_
                refine zw_iret hm_50 dX4_topOf_20 ?_
                show ma_wp X d w 51 55 [(2, .inl v18), (0, .inr (.inr (some 91))), (1, .inr (.inr (some t)))] [.inl (0 : Int32), .inl (v18 * (mI S17 91 2)), .inr (.inr (some t)), .inr (.inr (some 69))] (ma_put S17 91 6 (.inl v18)) _
                refine zw_stk hm_51 dX4_moveOut_55 (st' := [.inl ((v18 * (mI S17 91 2)) + (0 : Int32)), .inr (.inr (some t)), .inr (.inr (some 69))]) rfl rfl ?_
                refine zw_cv hm_51 dX4_moveOut_56 v_4_127_7 hm_90 [.inl ((v18 * (mI S17 91 2)) + (0 : Int32)), .inr (.inr (some t))] [] rfl (zT_rt (zT_pi hS17) s_69 rfl) ⟨by omega, by omega⟩ rfl (zw_mono h (zv_go ?_ ?_))
                · intro S21 hv
                  obtain ⟨hS21, h⟩ := hv
                  refine zw_push hm_51 dX4_moveOut_59 (v := .inr (.inr (some 91))) rfl ?_
                  refine zw_push hm_51 dX4_moveOut_60 (v := .inl v18) rfl ?_
                  refine zw_push hm_51 dX4_moveOut_61 (v := .inr (.inr (some t))) rfl ?_
                  obtain ⟨hg, h⟩ := h
                  refine zw_gf hm_51 dX4_moveOut_62 (v := .inl (mI S21 t 2)) (zT_tis hS21 hg) (zT_tt hS21 hg) rfl f_4_63_9 rfl ?_
                  refine zw_cv hm_51 dX4_moveOut_65 v_4_66_4 hm_53 [.inl (mI S21 t 2), .inl v18] [] rfl (zT_rt hS21 s_91 rfl) ⟨by omega, by omega⟩ rfl ?_
                  show ma_wp X (d - 1) (w - 22) 53 0 [(0, .inr (.inr (some 91))), (1, .inl v18), (2, .inl (mI S21 t 2))] [] S21 _
                  refine zw_push hm_53 dX4_raiseTop_0 (v := .inl v18) rfl ?_
                  refine zw_if0 hm_53 dX4_raiseTop_1 (t := 20) rfl zc0_lt ?_ ?_
                  · intro hc
                    rw [if_pos hc] at h
                    refine zw_vret hm_53 dX4_raiseTop_20 ?_
                    show ma_wp X d w 51 68 [(2, .inl v18), (0, .inr (.inr (some 91))), (1, .inr (.inr (some t)))] [] S21 _
                    refine zw_push hm_51 dX4_moveOut_68 (v := .inl (1 : Int32)) rfl ?_
                    exact zw_bret hm_51 dX4_moveOut_69 (by decide) h
                  · intro hc
                    rw [if_neg hc] at h
                    refine zw_push hm_53 dX4_raiseTop_4 (v := .inl v18) rfl ?_
                    refine zw_push hm_53 dX4_raiseTop_5 (v := .inl (93 : Int32)) rfl ?_
                    refine zw_if2 hm_53 dX4_raiseTop_7 (t := 20) rfl zc2_ge ?_ ?_
                    · intro hc
                      rw [if_pos hc] at h
                      refine zw_vret hm_53 dX4_raiseTop_20 ?_
                      show ma_wp X d w 51 68 [(2, .inl v18), (0, .inr (.inr (some 91))), (1, .inr (.inr (some t)))] [] S21 _
                      refine zw_push hm_51 dX4_moveOut_68 (v := .inl (1 : Int32)) rfl ?_
                      exact zw_bret hm_51 dX4_moveOut_69 (by decide) h
                    · intro hc
                      rw [if_neg hc] at h
                      refine zw_push hm_53 dX4_raiseTop_10 (v := .inr (.inr (some 91))) rfl ?_
                      refine zw_gf hm_53 dX4_raiseTop_11 (v := .inr (.inr (some 92))) (zT_is hS21 s_91) (zT_t hS21 s_91) rfl f_4_9_4 (zT_f hS21 r_91_7) ?_
                      refine zw_push hm_53 dX4_raiseTop_14 (v := .inl v18) rfl ?_
                      refine zw_stk hm_53 dX4_raiseTop_15 (st' := [.inl v18, .inr (.inr (some 92)), .inl v18, .inr (.inr (some 92))]) rfl rfl ?_
                      obtain ⟨hg, h⟩ := h
                      refine zw_ia hm_53 dX4_raiseTop_16 (zT_is hS21 s_92) (zT_h hS21 s_92) rfl hg ?_
                      show ma_wp X (d - 1) (w - 22) 53 17 [(0, .inr (.inr (some 91))), (1, .inl v18), (2, .inl (mI S21 t 2))] [.inl (mI S21 92 v18.toNatClampNeg), .inl v18, .inr (.inr (some 92))] S21 _
                      refine zw_push hm_53 dX4_raiseTop_17 (v := .inl (mI S21 t 2)) rfl ?_
                      refine zw_stk hm_53 dX4_raiseTop_18 (st' := [.inl ((mI S21 92 v18.toNatClampNeg) + (mI S21 t 2)), .inl v18, .inr (.inr (some 92))]) rfl rfl ?_
                      obtain ⟨hg, h⟩ := h
                      refine zw_ias hm_53 dX4_raiseTop_19 (zT_is hS21 s_92) (zT_h hS21 s_92) rfl hg ?_
                      refine zw_vret hm_53 dX4_raiseTop_20 ?_
                      show ma_wp X d w 51 68 [(2, .inl v18), (0, .inr (.inr (some 91))), (1, .inr (.inr (some t)))] [] (ma_put S21 92 v18.toNatClampNeg (.inl ((mI S21 92 v18.toNatClampNeg) + (mI S21 t 2)))) _
                      refine zw_push hm_51 dX4_moveOut_68 (v := .inl (1 : Int32)) rfl ?_
                      exact zw_bret hm_51 dX4_moveOut_69 (by decide) h
                · intro x S9 hx
                  exact ⟨by decide, hx⟩
              · intro hc
                rw [if_neg hc] at h
                refine zw_push hm_50 dX4_topOf_10 (v := .inr (.inr (some 91))) rfl ?_
                refine zw_gf hm_50 dX4_topOf_11 (v := .inr (.inr (some 92))) (zT_is (zT_pi hS17) s_91) (zT_t (zT_pi hS17) s_91) rfl f_4_9_4 (zT_f (zT_pi hS17) r_91_7) ?_
                refine zw_push hm_50 dX4_topOf_14 (v := .inl v18) rfl ?_
                obtain ⟨hg, h⟩ := h
                refine zw_ia hm_50 dX4_topOf_15 (zT_is (zT_pi hS17) s_92) (zT_h (zT_pi hS17) s_92) rfl hg ?_
                show ma_wp X (d - 1) (w - 21) 50 16 [(0, .inr (.inr (some 91))), (1, .inl v18)] [.inl (mI S17 92 v18.toNatClampNeg)] (ma_put S17 91 6 (.inl v18)) _
                refine zw_goto hm_50 dX4_topOf_16 (t := 20) rfl ?_
                refine zw_iret hm_50 dX4_topOf_20 ?_
                show ma_wp X d w 51 55 [(2, .inl v18), (0, .inr (.inr (some 91))), (1, .inr (.inr (some t)))] [.inl (mI S17 92 v18.toNatClampNeg), .inl (v18 * (mI S17 91 2)), .inr (.inr (some t)), .inr (.inr (some 69))] (ma_put S17 91 6 (.inl v18)) _
                refine zw_stk hm_51 dX4_moveOut_55 (st' := [.inl ((v18 * (mI S17 91 2)) + (mI S17 92 v18.toNatClampNeg)), .inr (.inr (some t)), .inr (.inr (some 69))]) rfl rfl ?_
                refine zw_cv hm_51 dX4_moveOut_56 v_4_127_7 hm_90 [.inl ((v18 * (mI S17 91 2)) + (mI S17 92 v18.toNatClampNeg)), .inr (.inr (some t))] [] rfl (zT_rt (zT_pi hS17) s_69 rfl) ⟨by omega, by omega⟩ rfl (zw_mono h (zv_go ?_ ?_))
                · intro S23 hv
                  obtain ⟨hS23, h⟩ := hv
                  refine zw_push hm_51 dX4_moveOut_59 (v := .inr (.inr (some 91))) rfl ?_
                  refine zw_push hm_51 dX4_moveOut_60 (v := .inl v18) rfl ?_
                  refine zw_push hm_51 dX4_moveOut_61 (v := .inr (.inr (some t))) rfl ?_
                  obtain ⟨hg, h⟩ := h
                  refine zw_gf hm_51 dX4_moveOut_62 (v := .inl (mI S23 t 2)) (zT_tis hS23 hg) (zT_tt hS23 hg) rfl f_4_63_9 rfl ?_
                  refine zw_cv hm_51 dX4_moveOut_65 v_4_66_4 hm_53 [.inl (mI S23 t 2), .inl v18] [] rfl (zT_rt hS23 s_91 rfl) ⟨by omega, by omega⟩ rfl ?_
                  show ma_wp X (d - 1) (w - 22) 53 0 [(0, .inr (.inr (some 91))), (1, .inl v18), (2, .inl (mI S23 t 2))] [] S23 _
                  refine zw_push hm_53 dX4_raiseTop_0 (v := .inl v18) rfl ?_
                  refine zw_if0 hm_53 dX4_raiseTop_1 (t := 20) rfl zc0_lt ?_ ?_
                  · intro hc
                    rw [if_pos hc] at h
                    refine zw_vret hm_53 dX4_raiseTop_20 ?_
                    show ma_wp X d w 51 68 [(2, .inl v18), (0, .inr (.inr (some 91))), (1, .inr (.inr (some t)))] [] S23 _
                    refine zw_push hm_51 dX4_moveOut_68 (v := .inl (1 : Int32)) rfl ?_
                    exact zw_bret hm_51 dX4_moveOut_69 (by decide) h
                  · intro hc
                    rw [if_neg hc] at h
                    refine zw_push hm_53 dX4_raiseTop_4 (v := .inl v18) rfl ?_
                    refine zw_push hm_53 dX4_raiseTop_5 (v := .inl (93 : Int32)) rfl ?_
                    refine zw_if2 hm_53 dX4_raiseTop_7 (t := 20) rfl zc2_ge ?_ ?_
                    · intro hc
                      rw [if_pos hc] at h
                      refine zw_vret hm_53 dX4_raiseTop_20 ?_
                      show ma_wp X d w 51 68 [(2, .inl v18), (0, .inr (.inr (some 91))), (1, .inr (.inr (some t)))] [] S23 _
                      refine zw_push hm_51 dX4_moveOut_68 (v := .inl (1 : Int32)) rfl ?_
                      exact zw_bret hm_51 dX4_moveOut_69 (by decide) h
                    · intro hc
                      rw [if_neg hc] at h
                      refine zw_push hm_53 dX4_raiseTop_10 (v := .inr (.inr (some 91))) rfl ?_
                      refine zw_gf hm_53 dX4_raiseTop_11 (v := .inr (.inr (some 92))) (zT_is hS23 s_91) (zT_t hS23 s_91) rfl f_4_9_4 (zT_f hS23 r_91_7) ?_
                      refine zw_push hm_53 dX4_raiseTop_14 (v := .inl v18) rfl ?_
                      refine zw_stk hm_53 dX4_raiseTop_15 (st' := [.inl v18, .inr (.inr (some 92)), .inl v18, .inr (.inr (some 92))]) rfl rfl ?_
                      obtain ⟨hg, h⟩ := h
                      refine zw_ia hm_53 dX4_raiseTop_16 (zT_is hS23 s_92) (zT_h hS23 s_92) rfl hg ?_
                      show ma_wp X (d - 1) (w - 22) 53 17 [(0, .inr (.inr (some 91))), (1, .inl v18), (2, .inl (mI S23 t 2))] [.inl (mI S23 92 v18.toNatClampNeg), .inl v18, .inr (.inr (some 92))] S23 _
                      refine zw_push hm_53 dX4_raiseTop_17 (v := .inl (mI S23 t 2)) rfl ?_
                      refine zw_stk hm_53 dX4_raiseTop_18 (st' := [.inl ((mI S23 92 v18.toNatClampNeg) + (mI S23 t 2)), .inl v18, .inr (.inr (some 92))]) rfl rfl ?_
                      obtain ⟨hg, h⟩ := h
                      refine zw_ias hm_53 dX4_raiseTop_19 (zT_is hS23 s_92) (zT_h hS23 s_92) rfl hg ?_
                      refine zw_vret hm_53 dX4_raiseTop_20 ?_
                      show ma_wp X d w 51 68 [(2, .inl v18), (0, .inr (.inr (some 91))), (1, .inr (.inr (some t)))] [] (ma_put S23 92 v18.toNatClampNeg (.inl ((mI S23 92 v18.toNatClampNeg) + (mI S23 t 2)))) _
                      refine zw_push hm_51 dX4_moveOut_68 (v := .inl (1 : Int32)) rfl ?_
                      exact zw_bret hm_51 dX4_moveOut_69 (by decide) h
                · intro x S9 hx
                  exact ⟨by decide, hx⟩
          · intro hc
            rw [if_pos (Classical.not_not.mp hc)] at h
            refine zw_push hm_51 dX4_moveOut_32 (v := .inl (0 : Int32)) rfl ?_
            exact zw_bret hm_51 dX4_moveOut_33 (by decide) h
        · intro x S9 hx
          exact ⟨by decide, hx⟩
      · intro hc
        rw [if_neg hc] at h
        refine zw_push hm_41 dX4_fits_25 (v := .inl (1 : Int32)) rfl ?_
        refine zw_goto hm_41 dX4_fits_26 (t := 30) rfl ?_
        refine zw_bret hm_41 dX4_fits_30 (by decide) ?_
        show ma_wp X d w 51 12 [(0, .inr (.inr (some 91))), (1, .inr (.inr (some t)))] [.inl (1 : Int32)] S _
        refine zw_if0 hm_51 dX4_moveOut_12 (t := 22) rfl zc0_eq (fun hc => absurd hc (by decide)) (fun _ => ?_)
        refine zw_push hm_51 dX4_moveOut_15 (v := .inr (.inr (some 91))) rfl ?_
        refine zw_gf hm_51 dX4_moveOut_16 (v := .inl (mI S 91 6)) (zT_is hS s_91) (zT_t hS s_91) rfl f_4_83_4 rfl ?_
        refine zw_goto hm_51 dX4_moveOut_19 (t := 26) rfl ?_
        refine zw_sto hm_51 dX4_moveOut_26 [(2, .inl (mI S 91 6)), (0, .inr (.inr (some 91))), (1, .inr (.inr (some t)))] rfl rfl rfl ?_
        refine zw_push hm_51 dX4_moveOut_27 (v := .inl (mI S 91 6)) rfl ?_
        refine zw_push hm_51 dX4_moveOut_28 (v := .inl (-1 : Int32)) rfl ?_
        refine zw_if2 hm_51 dX4_moveOut_29 (t := 34) rfl zc2_ne ?_ ?_
        · intro hc
          rw [if_neg hc] at h
          refine zw_push hm_51 dX4_moveOut_34 (v := .inr (.inr (some 91))) rfl ?_
          refine zw_push hm_51 dX4_moveOut_35 (v := .inl (mI S 91 6)) rfl ?_
          refine zw_pf hm_51 dX4_moveOut_36 (zT_is hS s_91) (zT_t hS s_91) p_4_83_4 zk_int ?_
          refine zw_push hm_51 dX4_moveOut_39 (v := .inr (.inr (some 91))) rfl ?_
          refine zw_gf hm_51 dX4_moveOut_40 (v := .inr (.inr (some 69))) (zT_is (zT_pi hS) s_91) (zT_t (zT_pi hS) s_91) rfl f_4_100_4 (zT_f (zT_pi hS) r_91_0) ?_
          refine zw_push hm_51 dX4_moveOut_43 (v := .inr (.inr (some t))) rfl ?_
          refine zw_push hm_51 dX4_moveOut_44 (v := .inl (mI S 91 6)) rfl ?_
          refine zw_push hm_51 dX4_moveOut_45 (v := .inr (.inr (some 91))) rfl ?_
          refine zw_gf hm_51 dX4_moveOut_46 (v := .inl (mI S 91 2)) (zT_is (zT_pi hS) s_91) (zT_t (zT_pi hS) s_91) rfl f_4_18_4 rfl ?_
          refine zw_stk hm_51 dX4_moveOut_49 (st' := [.inl ((mI S 91 6) * (mI S 91 2)), .inr (.inr (some t)), .inr (.inr (some 69))]) rfl rfl ?_
          refine zw_push hm_51 dX4_moveOut_50 (v := .inr (.inr (some 91))) rfl ?_
          refine zw_push hm_51 dX4_moveOut_51 (v := .inl (mI S 91 6)) rfl ?_
          refine zw_cv hm_51 dX4_moveOut_52 v_4_93_4 hm_50 [.inl (mI S 91 6)] [.inl ((mI S 91 6) * (mI S 91 2)), .inr (.inr (some t)), .inr (.inr (some 69))] rfl (zT_rt (zT_pi hS) s_91 rfl) ⟨by omega, by omega⟩ rfl ?_
          show ma_wp X (d - 1) (w - 21) 50 0 [(0, .inr (.inr (some 91))), (1, .inl (mI S 91 6))] [] (ma_put S 91 6 (.inl (mI S 91 6))) _
          refine zw_push hm_50 dX4_topOf_0 (v := .inl (mI S 91 6)) rfl ?_
          refine zw_if0 hm_50 dX4_topOf_1 (t := 19) rfl zc0_lt ?_ ?_
          · intro hc
            rw [if_pos hc] at h
            refine zw_push hm_50 dX4_topOf_19 (v := .inl (0 : Int32)) rfl ?_
            refine zw_iret hm_50 dX4_topOf_20 ?_
            show ma_wp X d w 51 55 [(2, .inl (mI S 91 6)), (0, .inr (.inr (some 91))), (1, .inr (.inr (some t)))] [.inl (0 : Int32), .inl ((mI S 91 6) * (mI S 91 2)), .inr (.inr (some t)), .inr (.inr (some 69))] (ma_put S 91 6 (.inl (mI S 91 6))) _
            refine zw_stk hm_51 dX4_moveOut_55 (st' := [.inl (((mI S 91 6) * (mI S 91 2)) + (0 : Int32)), .inr (.inr (some t)), .inr (.inr (some 69))]) rfl rfl ?_
            refine zw_cv hm_51 dX4_moveOut_56 v_4_127_7 hm_90 [.inl (((mI S 91 6) * (mI S 91 2)) + (0 : Int32)), .inr (.inr (some t))] [] rfl (zT_rt (zT_pi hS) s_69 rfl) ⟨by omega, by omega⟩ rfl (zw_mono h (zv_go ?_ ?_))
            · intro S25 hv
              obtain ⟨hS25, h⟩ := hv
              refine zw_push hm_51 dX4_moveOut_59 (v := .inr (.inr (some 91))) rfl ?_
              refine zw_push hm_51 dX4_moveOut_60 (v := .inl (mI S 91 6)) rfl ?_
              refine zw_push hm_51 dX4_moveOut_61 (v := .inr (.inr (some t))) rfl ?_
              obtain ⟨hg, h⟩ := h
              refine zw_gf hm_51 dX4_moveOut_62 (v := .inl (mI S25 t 2)) (zT_tis hS25 hg) (zT_tt hS25 hg) rfl f_4_63_9 rfl ?_
              refine zw_cv hm_51 dX4_moveOut_65 v_4_66_4 hm_53 [.inl (mI S25 t 2), .inl (mI S 91 6)] [] rfl (zT_rt hS25 s_91 rfl) ⟨by omega, by omega⟩ rfl ?_
              show ma_wp X (d - 1) (w - 22) 53 0 [(0, .inr (.inr (some 91))), (1, .inl (mI S 91 6)), (2, .inl (mI S25 t 2))] [] S25 _
              refine zw_push hm_53 dX4_raiseTop_0 (v := .inl (mI S 91 6)) rfl ?_
              refine zw_if0 hm_53 dX4_raiseTop_1 (t := 20) rfl zc0_lt ?_ ?_
              · intro hc
                rw [if_pos hc] at h
                refine zw_vret hm_53 dX4_raiseTop_20 ?_
                show ma_wp X d w 51 68 [(2, .inl (mI S 91 6)), (0, .inr (.inr (some 91))), (1, .inr (.inr (some t)))] [] S25 _
                refine zw_push hm_51 dX4_moveOut_68 (v := .inl (1 : Int32)) rfl ?_
                exact zw_bret hm_51 dX4_moveOut_69 (by decide) h
              · intro hc
                rw [if_neg hc] at h
                refine zw_push hm_53 dX4_raiseTop_4 (v := .inl (mI S 91 6)) rfl ?_
                refine zw_push hm_53 dX4_raiseTop_5 (v := .inl (93 : Int32)) rfl ?_
                refine zw_if2 hm_53 dX4_raiseTop_7 (t := 20) rfl zc2_ge ?_ ?_
                · intro hc
                  rw [if_pos hc] at h
                  refine zw_vret hm_53 dX4_raiseTop_20 ?_
                  show ma_wp X d w 51 68 [(2, .inl (mI S 91 6)), (0, .inr (.inr (some 91))), (1, .inr (.inr (some t)))] [] S25 _
                  refine zw_push hm_51 dX4_moveOut_68 (v := .inl (1 : Int32)) rfl ?_
                  exact zw_bret hm_51 dX4_moveOut_69 (by decide) h
                · intro hc
                  rw [if_neg hc] at h
                  refine zw_push hm_53 dX4_raiseTop_10 (v := .inr (.inr (some 91))) rfl ?_
                  refine zw_gf hm_53 dX4_raiseTop_11 (v := .inr (.inr (some 92))) (zT_is hS25 s_91) (zT_t hS25 s_91) rfl f_4_9_4 (zT_f hS25 r_91_7) ?_
                  refine zw_push hm_53 dX4_raiseTop_14 (v := .inl (mI S 91 6)) rfl ?_
                  refine zw_stk hm_53 dX4_raiseTop_15 (st' := [.inl (mI S 91 6), .inr (.inr (some 92)), .inl (mI S 91 6), .inr (.inr (some 92))]) rfl rfl ?_
                  obtain ⟨hg, h⟩ := h
                  refine zw_ia hm_53 dX4_raiseTop_16 (zT_is hS25 s_92) (zT_h hS25 s_92) rfl hg ?_
                  show ma_wp X (d - 1) (w - 22) 53 17 [(0, .inr (.inr (some 91))), (1, .inl (mI S 91 6)), (2, .inl (mI S25 t 2))] [.inl (mI S25 92 (mI S 91 6).toNatClampNeg), .inl (mI S 91 6), .inr (.inr (some 92))] S25 _
                  refine zw_push hm_53 dX4_raiseTop_17 (v := .inl (mI S25 t 2)) rfl ?_
                  refine zw_stk hm_53 dX4_raiseTop_18 (st' := [.inl ((mI S25 92 (mI S 91 6).toNatClampNeg) + (mI S25 t 2)), .inl (mI S 91 6), .inr (.inr (some 92))]) rfl rfl ?_
                  obtain ⟨hg, h⟩ := h
                  refine zw_ias hm_53 dX4_raiseTop_19 (zT_is hS25 s_92) (zT_h hS25 s_92) rfl hg ?_
                  refine zw_vret hm_53 dX4_raiseTop_20 ?_
                  show ma_wp X d w 51 68 [(2, .inl (mI S 91 6)), (0, .inr (.inr (some 91))), (1, .inr (.inr (some t)))] [] (ma_put S25 92 (mI S 91 6).toNatClampNeg (.inl ((mI S25 92 (mI S 91 6).toNatClampNeg) + (mI S25 t 2)))) _
                  refine zw_push hm_51 dX4_moveOut_68 (v := .inl (1 : Int32)) rfl ?_
                  exact zw_bret hm_51 dX4_moveOut_69 (by decide) h
            · intro x S9 hx
              exact ⟨by decide, hx⟩
          · intro hc
            rw [if_neg hc] at h
            refine zw_push hm_50 dX4_topOf_4 (v := .inl (mI S 91 6)) rfl ?_
            refine zw_push hm_50 dX4_topOf_5 (v := .inl (93 : Int32)) rfl ?_
            refine zw_if2 hm_50 dX4_topOf_7 (t := 19) rfl zc2_ge ?_ ?_
            · intro hc
              rw [if_pos hc] at h
              refine zw_push hm_50 dX4_topOf_19 (v := .inl (0 : Int32)) rfl ?_
              refine zw_iret hm_50 dX4_topOf_20 ?_
              show ma_wp X d w 51 55 [(2, .inl (mI S 91 6)), (0, .inr (.inr (some 91))), (1, .inr (.inr (some t)))] [.inl (0 : Int32), .inl ((mI S 91 6) * (mI S 91 2)), .inr (.inr (some t)), .inr (.inr (some 69))] (ma_put S 91 6 (.inl (mI S 91 6))) _
              refine zw_stk hm_51 dX4_moveOut_55 (st' := [.inl (((mI S 91 6) * (mI S 91 2)) + (0 : Int32)), .inr (.inr (some t)), .inr (.inr (some 69))]) rfl rfl ?_
              refine zw_cv hm_51 dX4_moveOut_56 v_4_127_7 hm_90 [.inl (((mI S 91 6) * (mI S 91 2)) + (0 : Int32)), .inr (.inr (some t))] [] rfl (zT_rt (zT_pi hS) s_69 rfl) ⟨by omega, by omega⟩ rfl (zw_mono h (zv_go ?_ ?_))
              · intro S27 hv
                obtain ⟨hS27, h⟩ := hv
                refine zw_push hm_51 dX4_moveOut_59 (v := .inr (.inr (some 91))) rfl ?_
                refine zw_push hm_51 dX4_moveOut_60 (v := .inl (mI S 91 6)) rfl ?_
                refine zw_push hm_51 dX4_moveOut_61 (v := .inr (.inr (some t))) rfl ?_
                obtain ⟨hg, h⟩ := h
                refine zw_gf hm_51 dX4_moveOut_62 (v := .inl (mI S27 t 2)) (zT_tis hS27 hg) (zT_tt hS27 hg) rfl f_4_63_9 rfl ?_
                refine zw_cv hm_51 dX4_moveOut_65 v_4_66_4 hm_53 [.inl (mI S27 t 2), .inl (mI S 91 6)] [] rfl (zT_rt hS27 s_91 rfl) ⟨by omega, by omega⟩ rfl ?_
                show ma_wp X (d - 1) (w - 22) 53 0 [(0, .inr (.inr (some 91))), (1, .inl (mI S 91 6)), (2, .inl (mI S27 t 2))] [] S27 _
                refine zw_push hm_53 dX4_raiseTop_0 (v := .inl (mI S 91 6)) rfl ?_
                refine zw_if0 hm_53 dX4_raiseTop_1 (t := 20) rfl zc0_lt ?_ ?_
                · intro hc
                  rw [if_pos hc] at h
                  refine zw_vret hm_53 dX4_raiseTop_20 ?_
                  show ma_wp X d w 51 68 [(2, .inl (mI S 91 6)), (0, .inr (.inr (some 91))), (1, .inr (.inr (some t)))] [] S27 _
                  refine zw_push hm_51 dX4_moveOut_68 (v := .inl (1 : Int32)) rfl ?_
                  exact zw_bret hm_51 dX4_moveOut_69 (by decide) h
                · intro hc
                  rw [if_neg hc] at h
                  refine zw_push hm_53 dX4_raiseTop_4 (v := .inl (mI S 91 6)) rfl ?_
                  refine zw_push hm_53 dX4_raiseTop_5 (v := .inl (93 : Int32)) rfl ?_
                  refine zw_if2 hm_53 dX4_raiseTop_7 (t := 20) rfl zc2_ge ?_ ?_
                  · intro hc
                    rw [if_pos hc] at h
                    refine zw_vret hm_53 dX4_raiseTop_20 ?_
                    show ma_wp X d w 51 68 [(2, .inl (mI S 91 6)), (0, .inr (.inr (some 91))), (1, .inr (.inr (some t)))] [] S27 _
                    refine zw_push hm_51 dX4_moveOut_68 (v := .inl (1 : Int32)) rfl ?_
                    exact zw_bret hm_51 dX4_moveOut_69 (by decide) h
                  · intro hc
                    rw [if_neg hc] at h
                    refine zw_push hm_53 dX4_raiseTop_10 (v := .inr (.inr (some 91))) rfl ?_
                    refine zw_gf hm_53 dX4_raiseTop_11 (v := .inr (.inr (some 92))) (zT_is hS27 s_91) (zT_t hS27 s_91) rfl f_4_9_4 (zT_f hS27 r_91_7) ?_
                    refine zw_push hm_53 dX4_raiseTop_14 (v := .inl (mI S 91 6)) rfl ?_
                    refine zw_stk hm_53 dX4_raiseTop_15 (st' := [.inl (mI S 91 6), .inr (.inr (some 92)), .inl (mI S 91 6), .inr (.inr (some 92))]) rfl rfl ?_
                    obtain ⟨hg, h⟩ := h
                    refine zw_ia hm_53 dX4_raiseTop_16 (zT_is hS27 s_92) (zT_h hS27 s_92) rfl hg ?_
                    show ma_wp X (d - 1) (w - 22) 53 17 [(0, .inr (.inr (some 91))), (1, .inl (mI S 91 6)), (2, .inl (mI S27 t 2))] [.inl (mI S27 92 (mI S 91 6).toNatClampNeg), .inl (mI S 91 6), .inr (.inr (some 92))] S27 _
                    refine zw_push hm_53 dX4_raiseTop_17 (v := .inl (mI S27 t 2)) rfl ?_
                    refine zw_stk hm_53 dX4_raiseTop_18 (st' := [.inl ((mI S27 92 (mI S 91 6).toNatClampNeg) + (mI S27 t 2)), .inl (mI S 91 6), .inr (.inr (some 92))]) rfl rfl ?_
                    obtain ⟨hg, h⟩ := h
                    refine zw_ias hm_53 dX4_raiseTop_19 (zT_is hS27 s_92) (zT_h hS27 s_92) rfl hg ?_
                    refine zw_vret hm_53 dX4_raiseTop_20 ?_
                    show ma_wp X d w 51 68 [(2, .inl (mI S 91 6)), (0, .inr (.inr (some 91))), (1, .inr (.inr (some t)))] [] (ma_put S27 92 (mI S 91 6).toNatClampNeg (.inl ((mI S27 92 (mI S 91 6).toNatClampNeg) + (mI S27 t 2)))) _
                    refine zw_push hm_51 dX4_moveOut_68 (v := .inl (1 : Int32)) rfl ?_
                    exact zw_bret hm_51 dX4_moveOut_69 (by decide) h
              · intro x S9 hx
                exact ⟨by decide, hx⟩
            · intro hc
              rw [if_neg hc] at h
              refine zw_push hm_50 dX4_topOf_10 (v := .inr (.inr (some 91))) rfl ?_
              refine zw_gf hm_50 dX4_topOf_11 (v := .inr (.inr (some 92))) (zT_is (zT_pi hS) s_91) (zT_t (zT_pi hS) s_91) rfl f_4_9_4 (zT_f (zT_pi hS) r_91_7) ?_
              refine zw_push hm_50 dX4_topOf_14 (v := .inl (mI S 91 6)) rfl ?_
              obtain ⟨hg, h⟩ := h
              refine zw_ia hm_50 dX4_topOf_15 (zT_is (zT_pi hS) s_92) (zT_h (zT_pi hS) s_92) rfl hg ?_
              show ma_wp X (d - 1) (w - 21) 50 16 [(0, .inr (.inr (some 91))), (1, .inl (mI S 91 6))] [.inl (mI S 92 (mI S 91 6).toNatClampNeg)] (ma_put S 91 6 (.inl (mI S 91 6))) _
              refine zw_goto hm_50 dX4_topOf_16 (t := 20) rfl ?_
              refine zw_iret hm_50 dX4_topOf_20 ?_
              show ma_wp X d w 51 55 [(2, .inl (mI S 91 6)), (0, .inr (.inr (some 91))), (1, .inr (.inr (some t)))] [.inl (mI S 92 (mI S 91 6).toNatClampNeg), .inl ((mI S 91 6) * (mI S 91 2)), .inr (.inr (some t)), .inr (.inr (some 69))] (ma_put S 91 6 (.inl (mI S 91 6))) _
              refine zw_stk hm_51 dX4_moveOut_55 (st' := [.inl (((mI S 91 6) * (mI S 91 2)) + (mI S 92 (mI S 91 6).toNatClampNeg)), .inr (.inr (some t)), .inr (.inr (some 69))]) rfl rfl ?_
              refine zw_cv hm_51 dX4_moveOut_56 v_4_127_7 hm_90 [.inl (((mI S 91 6) * (mI S 91 2)) + (mI S 92 (mI S 91 6).toNatClampNeg)), .inr (.inr (some t))] [] rfl (zT_rt (zT_pi hS) s_69 rfl) ⟨by omega, by omega⟩ rfl (zw_mono h (zv_go ?_ ?_))
              · intro S29 hv
                obtain ⟨hS29, h⟩ := hv
                refine zw_push hm_51 dX4_moveOut_59 (v := .inr (.inr (some 91))) rfl ?_
                refine zw_push hm_51 dX4_moveOut_60 (v := .inl (mI S 91 6)) rfl ?_
                refine zw_push hm_51 dX4_moveOut_61 (v := .inr (.inr (some t))) rfl ?_
                obtain ⟨hg, h⟩ := h
                refine zw_gf hm_51 dX4_moveOut_62 (v := .inl (mI S29 t 2)) (zT_tis hS29 hg) (zT_tt hS29 hg) rfl f_4_63_9 rfl ?_
                refine zw_cv hm_51 dX4_moveOut_65 v_4_66_4 hm_53 [.inl (mI S29 t 2), .inl (mI S 91 6)] [] rfl (zT_rt hS29 s_91 rfl) ⟨by omega, by omega⟩ rfl ?_
                show ma_wp X (d - 1) (w - 22) 53 0 [(0, .inr (.inr (some 91))), (1, .inl (mI S 91 6)), (2, .inl (mI S29 t 2))] [] S29 _
                refine zw_push hm_53 dX4_raiseTop_0 (v := .inl (mI S 91 6)) rfl ?_
                refine zw_if0 hm_53 dX4_raiseTop_1 (t := 20) rfl zc0_lt ?_ ?_
                · intro hc
                  rw [if_pos hc] at h
                  refine zw_vret hm_53 dX4_raiseTop_20 ?_
                  show ma_wp X d w 51 68 [(2, .inl (mI S 91 6)), (0, .inr (.inr (some 91))), (1, .inr (.inr (some t)))] [] S29 _
                  refine zw_push hm_51 dX4_moveOut_68 (v := .inl (1 : Int32)) rfl ?_
                  exact zw_bret hm_51 dX4_moveOut_69 (by decide) h
                · intro hc
                  rw [if_neg hc] at h
                  refine zw_push hm_53 dX4_raiseTop_4 (v := .inl (mI S 91 6)) rfl ?_
                  refine zw_push hm_53 dX4_raiseTop_5 (v := .inl (93 : Int32)) rfl ?_
                  refine zw_if2 hm_53 dX4_raiseTop_7 (t := 20) rfl zc2_ge ?_ ?_
                  · intro hc
                    rw [if_pos hc] at h
                    refine zw_vret hm_53 dX4_raiseTop_20 ?_
                    show ma_wp X d w 51 68 [(2, .inl (mI S 91 6)), (0, .inr (.inr (some 91))), (1, .inr (.inr (some t)))] [] S29 _
                    refine zw_push hm_51 dX4_moveOut_68 (v := .inl (1 : Int32)) rfl ?_
                    exact zw_bret hm_51 dX4_moveOut_69 (by decide) h
                  · intro hc
                    rw [if_neg hc] at h
                    refine zw_push hm_53 dX4_raiseTop_10 (v := .inr (.inr (some 91))) rfl ?_
                    refine zw_gf hm_53 dX4_raiseTop_11 (v := .inr (.inr (some 92))) (zT_is hS29 s_91) (zT_t hS29 s_91) rfl f_4_9_4 (zT_f hS29 r_91_7) ?_
                    refine zw_push hm_53 dX4_raiseTop_14 (v := .inl (mI S 91 6)) rfl ?_
                    refine zw_stk hm_53 dX4_raiseTop_15 (st' := [.inl (mI S 91 6), .inr (.inr (some 92)), .inl (mI S 91 6), .inr (.inr (some 92))]) rfl rfl ?_
                    obtain ⟨hg, h⟩ := h
                    refine zw_ia hm_53 dX4_raiseTop_16 (zT_is hS29 s_92) (zT_h hS29 s_92) rfl hg ?_
                    show ma_wp X (d - 1) (w - 22) 53 17 [(0, .inr (.inr (some 91))), (1, .inl (mI S 91 6)), (2, .inl (mI S29 t 2))] [.inl (mI S29 92 (mI S 91 6).toNatClampNeg), .inl (mI S 91 6), .inr (.inr (some 92))] S29 _
                    refine zw_push hm_53 dX4_raiseTop_17 (v := .inl (mI S29 t 2)) rfl ?_
                    refine zw_stk hm_53 dX4_raiseTop_18 (st' := [.inl ((mI S29 92 (mI S 91 6).toNatClampNeg) + (mI S29 t 2)), .inl (mI S 91 6), .inr (.inr (some 92))]) rfl rfl ?_
                    obtain ⟨hg, h⟩ := h
                    refine zw_ias hm_53 dX4_raiseTop_19 (zT_is hS29 s_92) (zT_h hS29 s_92) rfl hg ?_
                    refine zw_vret hm_53 dX4_raiseTop_20 ?_
                    show ma_wp X d w 51 68 [(2, .inl (mI S 91 6)), (0, .inr (.inr (some 91))), (1, .inr (.inr (some t)))] [] (ma_put S29 92 (mI S 91 6).toNatClampNeg (.inl ((mI S29 92 (mI S 91 6).toNatClampNeg) + (mI S29 t 2)))) _
                    refine zw_push hm_51 dX4_moveOut_68 (v := .inl (1 : Int32)) rfl ?_
                    exact zw_bret hm_51 dX4_moveOut_69 (by decide) h
              · intro x S9 hx
                exact ⟨by decide, hx⟩
        · intro hc
          rw [if_pos (Classical.not_not.mp hc)] at h
          refine zw_push hm_51 dX4_moveOut_32 (v := .inl (0 : Int32)) rfl ?_
          exact zw_bret hm_51 dX4_moveOut_33 (by decide) h
theorem sp_51_91 {X : Nat × (Nat → Int32)} {d w : Nat} {f : Nat → Nat → Int32} {r : Nat → Nat → Option Nat} {C Z N : Nat} {Q : Option ma_V ⊕ Nat → ma_S → Prop} {S : ma_S} (t : Nat) (hd : 2 ≤ d) (hw : 114 ≤ w) (hI : zL91 f r C Z N S) (th_t : 126 ≤ t ∧ t < N) (K : ∀ v S', zL91 f r C Z N S' → (v = 0 ∨ v = 1) → Q (.inl (some (.inl v))) S') : ma_wp X d w 51 0 [(0, .inr (.inr (some 91))), (1, .inr (.inr (some t)))] [] S Q := by
  refine g_51_91_0 t (by omega) (by omega) (zG_T hI) ?_
  refine ⟨zG_n hI th_t, ?_⟩
  have f1 := zG_s hI (-1) (92) (c := 91) (k := 6) (by decide)
  have li2 : (0 : Int32).toInt = 0 := rfl
  refine zd (fun h3 => ?_) (fun h3 => ?_)
  · skip
    have g4 := i_lt h3
    refine sp_52_91  (by omega) (by omega) hI  (fun v2 S1 hI_S1 hp_v2 => zi_n ⟨zG_T hI_S1, ?_⟩)
    have b5 := i_bd v2
    have li6 : (-1 : Int32).toInt = -1 := rfl
    refine zd (fun h7 => ?_) (fun h7 => ?_)
    · skip
      have g8 := i_eq h7
      exact K ((0 : Int32)) _ hI_S1 (by decide)
    · skip
      have g9 := i_ne h7
      refine zd (fun h10 => ?_) (fun h10 => ?_)
      · skip
        have g11 := i_lt h10
        have f12 := zG_s hI_S1 (0) (1500) (c := 91) (k := 2) (by decide)
        first | have f13 := i_muln (x := v2) (y := (mI S1 91 2)) (by omega) (by omega) (by omega) (by omega) | have b14 := i_bd (v2 * (mI S1 91 2))
        first | have e15 : ((v2 * (mI S1 91 2)) + (0 : Int32)).toInt = (v2 * (mI S1 91 2)).toInt + (0) := i_addk rfl (by omega) (by omega) | have b16 := i_bd ((v2 * (mI S1 91 2)) + (0 : Int32))
        have hI17 : zL91 f r C Z N (ma_put S1 91 6 (.inl v2)) := zG_sp hI_S1 (-1) (92) rfl (by decide) (by decide) (by decide) trivial (by omega) (by omega)
        refine sp_90_69 t (((v2 * (mI S1 91 2)) + (0 : Int32))) (by omega) (by omega) (zL91_dn hI17) th_t (by omega) (fun S3 hL_S3 => zv_n ⟨zG_T hL_S3, ?_⟩)
        have hI_S3 := zL91_up hI17 hL_S3
        refine ⟨zG_n hI_S3 th_t, ?_⟩
        refine zd (fun h18 => ?_) (fun h18 => ?_)
        · skip
          have g19 := i_lt h18
          have li20 : (1 : Int32).toInt = 1 := rfl
          exact K ((1 : Int32)) _ hI_S3 (by decide)
        · skip
          have g21 := i_nlt h18
          have li22 : (93 : Int32).toInt = 93 := rfl
          refine zd (fun h23 => ?_) (fun h23 => ?_)
          · skip
            have g24 := i_le h23
            have li25 : (1 : Int32).toInt = 1 := rfl
            exact K ((1 : Int32)) _ hI_S3 (by decide)
          · skip
            have g26 := i_nle h23
            refine ⟨i_ix (by omega) (by omega), ?_⟩
            refine ⟨i_ix (by omega) (by omega), ?_⟩
            first | have f28 := zG_a hI_S1 93 (0) (3000) (c := 92) (k := v2.toNatClampNeg) (by decide) (i_ix (n := 93) (by omega) (by omega)).2 | have b29 := i_bd (mI S1 92 v2.toNatClampNeg)
            have q30 : (mI S3 92 v2.toNatClampNeg).toInt = (mI S1 92 v2.toNatClampNeg).toInt := zG_zi (f := mI (ma_put S1 91 6 (.inl v2))) hL_S3 rfl
            first | have f31 := zG_a hI_S3 93 (0) (3000) (c := 92) (k := v2.toNatClampNeg) (by decide) (i_ix (n := 93) (by omega) (by omega)).2 | have b32 := i_bd (mI S3 92 v2.toNatClampNeg)
            have f33 := zG_th hI_S3 th_t
            first | have e34 : ((mI S3 92 v2.toNatClampNeg) + (mI S3 t 2)).toInt = (mI S3 92 v2.toNatClampNeg).toInt + (mI S3 t 2).toInt := i_add (by omega) (by omega) | have b35 := i_bd ((mI S3 92 v2.toNatClampNeg) + (mI S3 t 2))
            have hI27 : zL91 f r C Z N (ma_put S3 92 v2.toNatClampNeg (.inl ((mI S3 92 v2.toNatClampNeg) + (mI S3 t 2)))) := zG_sa hI_S3 (0) (3000) rfl (by decide) (by decide) (by decide) trivial (by omega) (by omega)
            have li36 : (1 : Int32).toInt = 1 := rfl
            exact K ((1 : Int32)) _ hI27 (by decide)
      · skip
        have g37 := i_nlt h10
        have li38 : (93 : Int32).toInt = 93 := rfl
        refine zd (fun h39 => ?_) (fun h39 => ?_)
        · skip
          have g40 := i_le h39
          have f41 := zG_s hI_S1 (0) (1500) (c := 91) (k := 2) (by decide)
          first | have f42 := i_muln (x := v2) (y := (mI S1 91 2)) (by omega) (by omega) (by omega) (by omega) | have b43 := i_bd (v2 * (mI S1 91 2))
          first | have e44 : ((v2 * (mI S1 91 2)) + (0 : Int32)).toInt = (v2 * (mI S1 91 2)).toInt + (0) := i_addk rfl (by omega) (by omega) | have b45 := i_bd ((v2 * (mI S1 91 2)) + (0 : Int32))
          have hI46 : zL91 f r C Z N (ma_put S1 91 6 (.inl v2)) := zG_sp hI_S1 (-1) (92) rfl (by decide) (by decide) (by decide) trivial (by omega) (by omega)
          refine sp_90_69 t (((v2 * (mI S1 91 2)) + (0 : Int32))) (by omega) (by omega) (zL91_dn hI46) th_t (by omega) (fun S5 hL_S5 => zv_n ⟨zG_T hL_S5, ?_⟩)
          have hI_S5 := zL91_up hI46 hL_S5
          refine ⟨zG_n hI_S5 th_t, ?_⟩
          refine zd (fun h47 => ?_) (fun h47 => ?_)
          · skip
            have g48 := i_lt h47
            have li49 : (1 : Int32).toInt = 1 := rfl
            exact K ((1 : Int32)) _ hI_S5 (by decide)
          · skip
            have g50 := i_nlt h47
            refine zd (fun h51 => ?_) (fun h51 => ?_)
            · skip
              have g52 := i_le h51
              have li53 : (1 : Int32).toInt = 1 := rfl
              exact K ((1 : Int32)) _ hI_S5 (by decide)
            · skip
              have g54 := i_nle h51
              refine ⟨i_ix (by omega) (by omega), ?_⟩
              refine ⟨i_ix (by omega) (by omega), ?_⟩
              first | have f56 := zG_a hI_S1 93 (0) (3000) (c := 92) (k := v2.toNatClampNeg) (by decide) (i_ix (n := 93) (by omega) (by omega)).2 | have b57 := i_bd (mI S1 92 v2.toNatClampNeg)
              have q58 : (mI S5 92 v2.toNatClampNeg).toInt = (mI S1 92 v2.toNatClampNeg).toInt := zG_zi (f := mI (ma_put S1 91 6 (.inl v2))) hL_S5 rfl
              first | have f59 := zG_a hI_S5 93 (0) (3000) (c := 92) (k := v2.toNatClampNeg) (by decide) (i_ix (n := 93) (by omega) (by omega)).2 | have b60 := i_bd (mI S5 92 v2.toNatClampNeg)
              have f61 := zG_th hI_S5 th_t
              first | have e62 : ((mI S5 92 v2.toNatClampNeg) + (mI S5 t 2)).toInt = (mI S5 92 v2.toNatClampNeg).toInt + (mI S5 t 2).toInt := i_add (by omega) (by omega) | have b63 := i_bd ((mI S5 92 v2.toNatClampNeg) + (mI S5 t 2))
              have hI55 : zL91 f r C Z N (ma_put S5 92 v2.toNatClampNeg (.inl ((mI S5 92 v2.toNatClampNeg) + (mI S5 t 2)))) := zG_sa hI_S5 (0) (3000) rfl (by decide) (by decide) (by decide) trivial (by omega) (by omega)
              have li64 : (1 : Int32).toInt = 1 := rfl
              exact K ((1 : Int32)) _ hI55 (by decide)
        · skip
          have g65 := i_nle h39
          refine ⟨i_ix (by omega) (by omega), ?_⟩
          have f66 := zG_s hI_S1 (0) (1500) (c := 91) (k := 2) (by decide)
          first | have f67 := i_muln (x := v2) (y := (mI S1 91 2)) (by omega) (by omega) (by omega) (by omega) | have b68 := i_bd (v2 * (mI S1 91 2))
          first | have f69 := zG_a hI_S1 93 (0) (3000) (c := 92) (k := v2.toNatClampNeg) (by decide) (i_ix (n := 93) (by omega) (by omega)).2 | have b70 := i_bd (mI S1 92 v2.toNatClampNeg)
          first | have e71 : ((v2 * (mI S1 91 2)) + (mI S1 92 v2.toNatClampNeg)).toInt = (v2 * (mI S1 91 2)).toInt + (mI S1 92 v2.toNatClampNeg).toInt := i_add (by omega) (by omega) | have b72 := i_bd ((v2 * (mI S1 91 2)) + (mI S1 92 v2.toNatClampNeg))
          have hI73 : zL91 f r C Z N (ma_put S1 91 6 (.inl v2)) := zG_sp hI_S1 (-1) (92) rfl (by decide) (by decide) (by decide) trivial (by omega) (by omega)
          refine sp_90_69 t (((v2 * (mI S1 91 2)) + (mI S1 92 v2.toNatClampNeg))) (by omega) (by omega) (zL91_dn hI73) th_t (by omega) (fun S7 hL_S7 => zv_n ⟨zG_T hL_S7, ?_⟩)
          have hI_S7 := zL91_up hI73 hL_S7
          refine ⟨zG_n hI_S7 th_t, ?_⟩
          refine zd (fun h74 => ?_) (fun h74 => ?_)
          · skip
            have g75 := i_lt h74
            have li76 : (1 : Int32).toInt = 1 := rfl
            exact K ((1 : Int32)) _ hI_S7 (by decide)
          · skip
            have g77 := i_nlt h74
            refine zd (fun h78 => ?_) (fun h78 => ?_)
            · skip
              have g79 := i_le h78
              have li80 : (1 : Int32).toInt = 1 := rfl
              exact K ((1 : Int32)) _ hI_S7 (by decide)
            · skip
              have g81 := i_nle h78
              refine ⟨i_ix (by omega) (by omega), ?_⟩
              refine ⟨i_ix (by omega) (by omega), ?_⟩
              have q83 : (mI S7 92 v2.toNatClampNeg).toInt = (mI S1 92 v2.toNatClampNeg).toInt := zG_zi (f := mI (ma_put S1 91 6 (.inl v2))) hL_S7 rfl
              first | have f84 := zG_a hI_S7 93 (0) (3000) (c := 92) (k := v2.toNatClampNeg) (by decide) (i_ix (n := 93) (by omega) (by omega)).2 | have b85 := i_bd (mI S7 92 v2.toNatClampNeg)
              have f86 := zG_th hI_S7 th_t
              first | have e87 : ((mI S7 92 v2.toNatClampNeg) + (mI S7 t 2)).toInt = (mI S7 92 v2.toNatClampNeg).toInt + (mI S7 t 2).toInt := i_add (by omega) (by omega) | have b88 := i_bd ((mI S7 92 v2.toNatClampNeg) + (mI S7 t 2))
              have hI82 : zL91 f r C Z N (ma_put S7 92 v2.toNatClampNeg (.inl ((mI S7 92 v2.toNatClampNeg) + (mI S7 t 2)))) := zG_sa hI_S7 (0) (3000) rfl (by decide) (by decide) (by decide) trivial (by omega) (by omega)
              have li89 : (1 : Int32).toInt = 1 := rfl
              exact K ((1 : Int32)) _ hI82 (by decide)
  · skip
    have g90 := i_nlt h3
    have li91 : (93 : Int32).toInt = 93 := rfl
    refine zd (fun h92 => ?_) (fun h92 => ?_)
    · skip
      have g93 := i_le h92
      refine sp_52_91  (by omega) (by omega) hI  (fun v10 S9 hI_S9 hp_v10 => zi_n ⟨zG_T hI_S9, ?_⟩)
      have b94 := i_bd v10
      have li95 : (-1 : Int32).toInt = -1 := rfl
      refine zd (fun h96 => ?_) (fun h96 => ?_)
      · skip
        have g97 := i_eq h96
        exact K ((0 : Int32)) _ hI_S9 (by decide)
      · skip
        have g98 := i_ne h96
        refine zd (fun h99 => ?_) (fun h99 => ?_)
        · skip
          have g100 := i_lt h99
          have f101 := zG_s hI_S9 (0) (1500) (c := 91) (k := 2) (by decide)
          first | have f102 := i_muln (x := v10) (y := (mI S9 91 2)) (by omega) (by omega) (by omega) (by omega) | have b103 := i_bd (v10 * (mI S9 91 2))
          first | have e104 : ((v10 * (mI S9 91 2)) + (0 : Int32)).toInt = (v10 * (mI S9 91 2)).toInt + (0) := i_addk rfl (by omega) (by omega) | have b105 := i_bd ((v10 * (mI S9 91 2)) + (0 : Int32))
          have hI106 : zL91 f r C Z N (ma_put S9 91 6 (.inl v10)) := zG_sp hI_S9 (-1) (92) rfl (by decide) (by decide) (by decide) trivial (by omega) (by omega)
          refine sp_90_69 t (((v10 * (mI S9 91 2)) + (0 : Int32))) (by omega) (by omega) (zL91_dn hI106) th_t (by omega) (fun S11 hL_S11 => zv_n ⟨zG_T hL_S11, ?_⟩)
          have hI_S11 := zL91_up hI106 hL_S11
          refine ⟨zG_n hI_S11 th_t, ?_⟩
          refine zd (fun h107 => ?_) (fun h107 => ?_)
          · skip
            have g108 := i_lt h107
            have li109 : (1 : Int32).toInt = 1 := rfl
            exact K ((1 : Int32)) _ hI_S11 (by decide)
          · skip
            have g110 := i_nlt h107
            refine zd (fun h111 => ?_) (fun h111 => ?_)
            · skip
              have g112 := i_le h111
              have li113 : (1 : Int32).toInt = 1 := rfl
              exact K ((1 : Int32)) _ hI_S11 (by decide)
            · skip
              have g114 := i_nle h111
              refine ⟨i_ix (by omega) (by omega), ?_⟩
              refine ⟨i_ix (by omega) (by omega), ?_⟩
              first | have f116 := zG_a hI_S9 93 (0) (3000) (c := 92) (k := v10.toNatClampNeg) (by decide) (i_ix (n := 93) (by omega) (by omega)).2 | have b117 := i_bd (mI S9 92 v10.toNatClampNeg)
              have q118 : (mI S11 92 v10.toNatClampNeg).toInt = (mI S9 92 v10.toNatClampNeg).toInt := zG_zi (f := mI (ma_put S9 91 6 (.inl v10))) hL_S11 rfl
              first | have f119 := zG_a hI_S11 93 (0) (3000) (c := 92) (k := v10.toNatClampNeg) (by decide) (i_ix (n := 93) (by omega) (by omega)).2 | have b120 := i_bd (mI S11 92 v10.toNatClampNeg)
              have f121 := zG_th hI_S11 th_t
              first | have e122 : ((mI S11 92 v10.toNatClampNeg) + (mI S11 t 2)).toInt = (mI S11 92 v10.toNatClampNeg).toInt + (mI S11 t 2).toInt := i_add (by omega) (by omega) | have b123 := i_bd ((mI S11 92 v10.toNatClampNeg) + (mI S11 t 2))
              have hI115 : zL91 f r C Z N (ma_put S11 92 v10.toNatClampNeg (.inl ((mI S11 92 v10.toNatClampNeg) + (mI S11 t 2)))) := zG_sa hI_S11 (0) (3000) rfl (by decide) (by decide) (by decide) trivial (by omega) (by omega)
              have li124 : (1 : Int32).toInt = 1 := rfl
              exact K ((1 : Int32)) _ hI115 (by decide)
        · skip
          have g125 := i_nlt h99
          refine zd (fun h126 => ?_) (fun h126 => ?_)
          · skip
            have g127 := i_le h126
            have f128 := zG_s hI_S9 (0) (1500) (c := 91) (k := 2) (by decide)
            first | have f129 := i_muln (x := v10) (y := (mI S9 91 2)) (by omega) (by omega) (by omega) (by omega) | have b130 := i_bd (v10 * (mI S9 91 2))
            first | have e131 : ((v10 * (mI S9 91 2)) + (0 : Int32)).toInt = (v10 * (mI S9 91 2)).toInt + (0) := i_addk rfl (by omega) (by omega) | have b132 := i_bd ((v10 * (mI S9 91 2)) + (0 : Int32))
            have hI133 : zL91 f r C Z N (ma_put S9 91 6 (.inl v10)) := zG_sp hI_S9 (-1) (92) rfl (by decide) (by decide) (by decide) trivial (by omega) (by omega)
            refine sp_90_69 t (((v10 * (mI S9 91 2)) + (0 : Int32))) (by omega) (by omega) (zL91_dn hI133) th_t (by omega) (fun S13 hL_S13 => zv_n ⟨zG_T hL_S13, ?_⟩)
            have hI_S13 := zL91_up hI133 hL_S13
            refine ⟨zG_n hI_S13 th_t, ?_⟩
            refine zd (fun h134 => ?_) (fun h134 => ?_)
            · skip
              have g135 := i_lt h134
              have li136 : (1 : Int32).toInt = 1 := rfl
              exact K ((1 : Int32)) _ hI_S13 (by decide)
            · skip
              have g137 := i_nlt h134
              refine zd (fun h138 => ?_) (fun h138 => ?_)
              · skip
                have g139 := i_le h138
                have li140 : (1 : Int32).toInt = 1 := rfl
                exact K ((1 : Int32)) _ hI_S13 (by decide)
              · skip
                have g141 := i_nle h138
                refine ⟨i_ix (by omega) (by omega), ?_⟩
                refine ⟨i_ix (by omega) (by omega), ?_⟩
                first | have f143 := zG_a hI_S9 93 (0) (3000) (c := 92) (k := v10.toNatClampNeg) (by decide) (i_ix (n := 93) (by omega) (by omega)).2 | have b144 := i_bd (mI S9 92 v10.toNatClampNeg)
                have q145 : (mI S13 92 v10.toNatClampNeg).toInt = (mI S9 92 v10.toNatClampNeg).toInt := zG_zi (f := mI (ma_put S9 91 6 (.inl v10))) hL_S13 rfl
                first | have f146 := zG_a hI_S13 93 (0) (3000) (c := 92) (k := v10.toNatClampNeg) (by decide) (i_ix (n := 93) (by omega) (by omega)).2 | have b147 := i_bd (mI S13 92 v10.toNatClampNeg)
                have f148 := zG_th hI_S13 th_t
                first | have e149 : ((mI S13 92 v10.toNatClampNeg) + (mI S13 t 2)).toInt = (mI S13 92 v10.toNatClampNeg).toInt + (mI S13 t 2).toInt := i_add (by omega) (by omega) | have b150 := i_bd ((mI S13 92 v10.toNatClampNeg) + (mI S13 t 2))
                have hI142 : zL91 f r C Z N (ma_put S13 92 v10.toNatClampNeg (.inl ((mI S13 92 v10.toNatClampNeg) + (mI S13 t 2)))) := zG_sa hI_S13 (0) (3000) rfl (by decide) (by decide) (by decide) trivial (by omega) (by omega)
                have li151 : (1 : Int32).toInt = 1 := rfl
                exact K ((1 : Int32)) _ hI142 (by decide)
          · skip
            have g152 := i_nle h126
            refine ⟨i_ix (by omega) (by omega), ?_⟩
            have f153 := zG_s hI_S9 (0) (1500) (c := 91) (k := 2) (by decide)
            first | have f154 := i_muln (x := v10) (y := (mI S9 91 2)) (by omega) (by omega) (by omega) (by omega) | have b155 := i_bd (v10 * (mI S9 91 2))
            first | have f156 := zG_a hI_S9 93 (0) (3000) (c := 92) (k := v10.toNatClampNeg) (by decide) (i_ix (n := 93) (by omega) (by omega)).2 | have b157 := i_bd (mI S9 92 v10.toNatClampNeg)
            first | have e158 : ((v10 * (mI S9 91 2)) + (mI S9 92 v10.toNatClampNeg)).toInt = (v10 * (mI S9 91 2)).toInt + (mI S9 92 v10.toNatClampNeg).toInt := i_add (by omega) (by omega) | have b159 := i_bd ((v10 * (mI S9 91 2)) + (mI S9 92 v10.toNatClampNeg))
            have hI160 : zL91 f r C Z N (ma_put S9 91 6 (.inl v10)) := zG_sp hI_S9 (-1) (92) rfl (by decide) (by decide) (by decide) trivial (by omega) (by omega)
            refine sp_90_69 t (((v10 * (mI S9 91 2)) + (mI S9 92 v10.toNatClampNeg))) (by omega) (by omega) (zL91_dn hI160) th_t (by omega) (fun S15 hL_S15 => zv_n ⟨zG_T hL_S15, ?_⟩)
            have hI_S15 := zL91_up hI160 hL_S15
            refine ⟨zG_n hI_S15 th_t, ?_⟩
            refine zd (fun h161 => ?_) (fun h161 => ?_)
            · skip
              have g162 := i_lt h161
              have li163 : (1 : Int32).toInt = 1 := rfl
              exact K ((1 : Int32)) _ hI_S15 (by decide)
            · skip
              have g164 := i_nlt h161
              refine zd (fun h165 => ?_) (fun h165 => ?_)
              · skip
                have g166 := i_le h165
                have li167 : (1 : Int32).toInt = 1 := rfl
                exact K ((1 : Int32)) _ hI_S15 (by decide)
              · skip
                have g168 := i_nle h165
                refine ⟨i_ix (by omega) (by omega), ?_⟩
                refine ⟨i_ix (by omega) (by omega), ?_⟩
                have q170 : (mI S15 92 v10.toNatClampNeg).toInt = (mI S9 92 v10.toNatClampNeg).toInt := zG_zi (f := mI (ma_put S9 91 6 (.inl v10))) hL_S15 rfl
                first | have f171 := zG_a hI_S15 93 (0) (3000) (c := 92) (k := v10.toNatClampNeg) (by decide) (i_ix (n := 93) (by omega) (by omega)).2 | have b172 := i_bd (mI S15 92 v10.toNatClampNeg)
                have f173 := zG_th hI_S15 th_t
                first | have e174 : ((mI S15 92 v10.toNatClampNeg) + (mI S15 t 2)).toInt = (mI S15 92 v10.toNatClampNeg).toInt + (mI S15 t 2).toInt := i_add (by omega) (by omega) | have b175 := i_bd ((mI S15 92 v10.toNatClampNeg) + (mI S15 t 2))
                have hI169 : zL91 f r C Z N (ma_put S15 92 v10.toNatClampNeg (.inl ((mI S15 92 v10.toNatClampNeg) + (mI S15 t 2)))) := zG_sa hI_S15 (0) (3000) rfl (by decide) (by decide) (by decide) trivial (by omega) (by omega)
                have li176 : (1 : Int32).toInt = 1 := rfl
                exact K ((1 : Int32)) _ hI169 (by decide)
    · skip
      have g177 := i_nle h92
      refine ⟨i_ix (by omega) (by omega), ?_⟩
      have f178 := zG_s hI (0) (1500) (c := 91) (k := 2) (by decide)
      first | have f179 := zG_a hI 93 (0) (3000) (c := 92) (k := (mI S 91 6).toNatClampNeg) (by decide) (i_ix (n := 93) (by omega) (by omega)).2 | have b180 := i_bd (mI S 92 (mI S 91 6).toNatClampNeg)
      have f181 := zG_th hI th_t
      first | have e182 : ((mI S 92 (mI S 91 6).toNatClampNeg) + (mI S t 2)).toInt = (mI S 92 (mI S 91 6).toNatClampNeg).toInt + (mI S t 2).toInt := i_add (by omega) (by omega) | have b183 := i_bd ((mI S 92 (mI S 91 6).toNatClampNeg) + (mI S t 2))
      refine zd (fun h184 => ?_) (fun h184 => ?_)
      · skip
        have g185 := i_lt h184
        refine sp_52_91  (by omega) (by omega) hI  (fun v18 S17 hI_S17 hp_v18 => zi_n ⟨zG_T hI_S17, ?_⟩)
        have b186 := i_bd v18
        have li187 : (-1 : Int32).toInt = -1 := rfl
        refine zd (fun h188 => ?_) (fun h188 => ?_)
        · skip
          have g189 := i_eq h188
          exact K ((0 : Int32)) _ hI_S17 (by decide)
        · skip
          have g190 := i_ne h188
          refine zd (fun h191 => ?_) (fun h191 => ?_)
          · skip
            have g192 := i_lt h191
            have f193 := zG_s hI_S17 (0) (1500) (c := 91) (k := 2) (by decide)
            first | have f194 := i_muln (x := v18) (y := (mI S17 91 2)) (by omega) (by omega) (by omega) (by omega) | have b195 := i_bd (v18 * (mI S17 91 2))
            first | have e196 : ((v18 * (mI S17 91 2)) + (0 : Int32)).toInt = (v18 * (mI S17 91 2)).toInt + (0) := i_addk rfl (by omega) (by omega) | have b197 := i_bd ((v18 * (mI S17 91 2)) + (0 : Int32))
            have hI198 : zL91 f r C Z N (ma_put S17 91 6 (.inl v18)) := zG_sp hI_S17 (-1) (92) rfl (by decide) (by decide) (by decide) trivial (by omega) (by omega)
            refine sp_90_69 t (((v18 * (mI S17 91 2)) + (0 : Int32))) (by omega) (by omega) (zL91_dn hI198) th_t (by omega) (fun S19 hL_S19 => zv_n ⟨zG_T hL_S19, ?_⟩)
            have hI_S19 := zL91_up hI198 hL_S19
            refine ⟨zG_n hI_S19 th_t, ?_⟩
            refine zd (fun h199 => ?_) (fun h199 => ?_)
            · skip
              have g200 := i_lt h199
              have li201 : (1 : Int32).toInt = 1 := rfl
              exact K ((1 : Int32)) _ hI_S19 (by decide)
            · skip
              have g202 := i_nlt h199
              refine zd (fun h203 => ?_) (fun h203 => ?_)
              · skip
                have g204 := i_le h203
                have li205 : (1 : Int32).toInt = 1 := rfl
                exact K ((1 : Int32)) _ hI_S19 (by decide)
              · skip
                have g206 := i_nle h203
                refine ⟨i_ix (by omega) (by omega), ?_⟩
                refine ⟨i_ix (by omega) (by omega), ?_⟩
                first | have f208 := zG_a hI_S17 93 (0) (3000) (c := 92) (k := v18.toNatClampNeg) (by decide) (i_ix (n := 93) (by omega) (by omega)).2 | have b209 := i_bd (mI S17 92 v18.toNatClampNeg)
                have q210 : (mI S19 92 v18.toNatClampNeg).toInt = (mI S17 92 v18.toNatClampNeg).toInt := zG_zi (f := mI (ma_put S17 91 6 (.inl v18))) hL_S19 rfl
                first | have f211 := zG_a hI_S19 93 (0) (3000) (c := 92) (k := v18.toNatClampNeg) (by decide) (i_ix (n := 93) (by omega) (by omega)).2 | have b212 := i_bd (mI S19 92 v18.toNatClampNeg)
                have f213 := zG_th hI_S19 th_t
                first | have e214 : ((mI S19 92 v18.toNatClampNeg) + (mI S19 t 2)).toInt = (mI S19 92 v18.toNatClampNeg).toInt + (mI S19 t 2).toInt := i_add (by omega) (by omega) | have b215 := i_bd ((mI S19 92 v18.toNatClampNeg) + (mI S19 t 2))
                have hI207 : zL91 f r C Z N (ma_put S19 92 v18.toNatClampNeg (.inl ((mI S19 92 v18.toNatClampNeg) + (mI S19 t 2)))) := zG_sa hI_S19 (0) (3000) rfl (by decide) (by decide) (by decide) trivial (by omega) (by omega)
                have li216 : (1 : Int32).toInt = 1 := rfl
                exact K ((1 : Int32)) _ hI207 (by decide)
          · skip
            have g217 := i_nlt h191
            refine zd (fun h218 => ?_) (fun h218 => ?_)
            · skip
              have g219 := i_le h218
              have f220 := zG_s hI_S17 (0) (1500) (c := 91) (k := 2) (by decide)
              first | have f221 := i_muln (x := v18) (y := (mI S17 91 2)) (by omega) (by omega) (by omega) (by omega) | have b222 := i_bd (v18 * (mI S17 91 2))
              first | have e223 : ((v18 * (mI S17 91 2)) + (0 : Int32)).toInt = (v18 * (mI S17 91 2)).toInt + (0) := i_addk rfl (by omega) (by omega) | have b224 := i_bd ((v18 * (mI S17 91 2)) + (0 : Int32))
              have hI225 : zL91 f r C Z N (ma_put S17 91 6 (.inl v18)) := zG_sp hI_S17 (-1) (92) rfl (by decide) (by decide) (by decide) trivial (by omega) (by omega)
              refine sp_90_69 t (((v18 * (mI S17 91 2)) + (0 : Int32))) (by omega) (by omega) (zL91_dn hI225) th_t (by omega) (fun S21 hL_S21 => zv_n ⟨zG_T hL_S21, ?_⟩)
              have hI_S21 := zL91_up hI225 hL_S21
              refine ⟨zG_n hI_S21 th_t, ?_⟩
              refine zd (fun h226 => ?_) (fun h226 => ?_)
              · skip
                have g227 := i_lt h226
                have li228 : (1 : Int32).toInt = 1 := rfl
                exact K ((1 : Int32)) _ hI_S21 (by decide)
              · skip
                have g229 := i_nlt h226
                refine zd (fun h230 => ?_) (fun h230 => ?_)
                · skip
                  have g231 := i_le h230
                  have li232 : (1 : Int32).toInt = 1 := rfl
                  exact K ((1 : Int32)) _ hI_S21 (by decide)
                · skip
                  have g233 := i_nle h230
                  refine ⟨i_ix (by omega) (by omega), ?_⟩
                  refine ⟨i_ix (by omega) (by omega), ?_⟩
                  first | have f235 := zG_a hI_S17 93 (0) (3000) (c := 92) (k := v18.toNatClampNeg) (by decide) (i_ix (n := 93) (by omega) (by omega)).2 | have b236 := i_bd (mI S17 92 v18.toNatClampNeg)
                  have q237 : (mI S21 92 v18.toNatClampNeg).toInt = (mI S17 92 v18.toNatClampNeg).toInt := zG_zi (f := mI (ma_put S17 91 6 (.inl v18))) hL_S21 rfl
                  first | have f238 := zG_a hI_S21 93 (0) (3000) (c := 92) (k := v18.toNatClampNeg) (by decide) (i_ix (n := 93) (by omega) (by omega)).2 | have b239 := i_bd (mI S21 92 v18.toNatClampNeg)
                  have f240 := zG_th hI_S21 th_t
                  first | have e241 : ((mI S21 92 v18.toNatClampNeg) + (mI S21 t 2)).toInt = (mI S21 92 v18.toNatClampNeg).toInt + (mI S21 t 2).toInt := i_add (by omega) (by omega) | have b242 := i_bd ((mI S21 92 v18.toNatClampNeg) + (mI S21 t 2))
                  have hI234 : zL91 f r C Z N (ma_put S21 92 v18.toNatClampNeg (.inl ((mI S21 92 v18.toNatClampNeg) + (mI S21 t 2)))) := zG_sa hI_S21 (0) (3000) rfl (by decide) (by decide) (by decide) trivial (by omega) (by omega)
                  have li243 : (1 : Int32).toInt = 1 := rfl
                  exact K ((1 : Int32)) _ hI234 (by decide)
            · skip
              have g244 := i_nle h218
              refine ⟨i_ix (by omega) (by omega), ?_⟩
              have f245 := zG_s hI_S17 (0) (1500) (c := 91) (k := 2) (by decide)
              first | have f246 := i_muln (x := v18) (y := (mI S17 91 2)) (by omega) (by omega) (by omega) (by omega) | have b247 := i_bd (v18 * (mI S17 91 2))
              first | have f248 := zG_a hI_S17 93 (0) (3000) (c := 92) (k := v18.toNatClampNeg) (by decide) (i_ix (n := 93) (by omega) (by omega)).2 | have b249 := i_bd (mI S17 92 v18.toNatClampNeg)
              first | have e250 : ((v18 * (mI S17 91 2)) + (mI S17 92 v18.toNatClampNeg)).toInt = (v18 * (mI S17 91 2)).toInt + (mI S17 92 v18.toNatClampNeg).toInt := i_add (by omega) (by omega) | have b251 := i_bd ((v18 * (mI S17 91 2)) + (mI S17 92 v18.toNatClampNeg))
              have hI252 : zL91 f r C Z N (ma_put S17 91 6 (.inl v18)) := zG_sp hI_S17 (-1) (92) rfl (by decide) (by decide) (by decide) trivial (by omega) (by omega)
              refine sp_90_69 t (((v18 * (mI S17 91 2)) + (mI S17 92 v18.toNatClampNeg))) (by omega) (by omega) (zL91_dn hI252) th_t (by omega) (fun S23 hL_S23 => zv_n ⟨zG_T hL_S23, ?_⟩)
              have hI_S23 := zL91_up hI252 hL_S23
              refine ⟨zG_n hI_S23 th_t, ?_⟩
              refine zd (fun h253 => ?_) (fun h253 => ?_)
              · skip
                have g254 := i_lt h253
                have li255 : (1 : Int32).toInt = 1 := rfl
                exact K ((1 : Int32)) _ hI_S23 (by decide)
              · skip
                have g256 := i_nlt h253
                refine zd (fun h257 => ?_) (fun h257 => ?_)
                · skip
                  have g258 := i_le h257
                  have li259 : (1 : Int32).toInt = 1 := rfl
                  exact K ((1 : Int32)) _ hI_S23 (by decide)
                · skip
                  have g260 := i_nle h257
                  refine ⟨i_ix (by omega) (by omega), ?_⟩
                  refine ⟨i_ix (by omega) (by omega), ?_⟩
                  have q262 : (mI S23 92 v18.toNatClampNeg).toInt = (mI S17 92 v18.toNatClampNeg).toInt := zG_zi (f := mI (ma_put S17 91 6 (.inl v18))) hL_S23 rfl
                  first | have f263 := zG_a hI_S23 93 (0) (3000) (c := 92) (k := v18.toNatClampNeg) (by decide) (i_ix (n := 93) (by omega) (by omega)).2 | have b264 := i_bd (mI S23 92 v18.toNatClampNeg)
                  have f265 := zG_th hI_S23 th_t
                  first | have e266 : ((mI S23 92 v18.toNatClampNeg) + (mI S23 t 2)).toInt = (mI S23 92 v18.toNatClampNeg).toInt + (mI S23 t 2).toInt := i_add (by omega) (by omega) | have b267 := i_bd ((mI S23 92 v18.toNatClampNeg) + (mI S23 t 2))
                  have hI261 : zL91 f r C Z N (ma_put S23 92 v18.toNatClampNeg (.inl ((mI S23 92 v18.toNatClampNeg) + (mI S23 t 2)))) := zG_sa hI_S23 (0) (3000) rfl (by decide) (by decide) (by decide) trivial (by omega) (by omega)
                  have li268 : (1 : Int32).toInt = 1 := rfl
                  exact K ((1 : Int32)) _ hI261 (by decide)
      · skip
        have g269 := i_nlt h184
        have li270 : (-1 : Int32).toInt = -1 := rfl
        refine zd (fun h271 => ?_) (fun h271 => ?_)
        · skip
          have g272 := i_eq h271
          exact K ((0 : Int32)) _ hI (by decide)
        · skip
          have g273 := i_ne h271
          refine zd (fun h274 => ?_) (fun h274 => ?_)
          · skip
            have g275 := i_lt h274
            first | have f276 := i_muln (x := (mI S 91 6)) (y := (mI S 91 2)) (by omega) (by omega) (by omega) (by omega) | have b277 := i_bd ((mI S 91 6) * (mI S 91 2))
            first | have e278 : (((mI S 91 6) * (mI S 91 2)) + (0 : Int32)).toInt = ((mI S 91 6) * (mI S 91 2)).toInt + (0) := i_addk rfl (by omega) (by omega) | have b279 := i_bd (((mI S 91 6) * (mI S 91 2)) + (0 : Int32))
            have hI280 : zL91 f r C Z N (ma_put S 91 6 (.inl (mI S 91 6))) := zG_sp hI (-1) (92) rfl (by decide) (by decide) (by decide) trivial (by omega) (by omega)
            refine sp_90_69 t ((((mI S 91 6) * (mI S 91 2)) + (0 : Int32))) (by omega) (by omega) (zL91_dn hI280) th_t (by omega) (fun S25 hL_S25 => zv_n ⟨zG_T hL_S25, ?_⟩)
            have hI_S25 := zL91_up hI280 hL_S25
            refine ⟨zG_n hI_S25 th_t, ?_⟩
            refine zd (fun h281 => ?_) (fun h281 => ?_)
            · skip
              have g282 := i_lt h281
              have li283 : (1 : Int32).toInt = 1 := rfl
              exact K ((1 : Int32)) _ hI_S25 (by decide)
            · skip
              have g284 := i_nlt h281
              refine zd (fun h285 => ?_) (fun h285 => ?_)
              · skip
                have g286 := i_le h285
                have li287 : (1 : Int32).toInt = 1 := rfl
                exact K ((1 : Int32)) _ hI_S25 (by decide)
              · skip
                have g288 := i_nle h285
                refine ⟨i_ix (by omega) (by omega), ?_⟩
                refine ⟨i_ix (by omega) (by omega), ?_⟩
                have q290 : (mI S25 92 (mI S 91 6).toNatClampNeg).toInt = (mI S 92 (mI S 91 6).toNatClampNeg).toInt := zG_zi (f := mI (ma_put S 91 6 (.inl (mI S 91 6)))) hL_S25 rfl
                first | have f291 := zG_a hI_S25 93 (0) (3000) (c := 92) (k := (mI S 91 6).toNatClampNeg) (by decide) (i_ix (n := 93) (by omega) (by omega)).2 | have b292 := i_bd (mI S25 92 (mI S 91 6).toNatClampNeg)
                have f293 := zG_th hI_S25 th_t
                first | have e294 : ((mI S25 92 (mI S 91 6).toNatClampNeg) + (mI S25 t 2)).toInt = (mI S25 92 (mI S 91 6).toNatClampNeg).toInt + (mI S25 t 2).toInt := i_add (by omega) (by omega) | have b295 := i_bd ((mI S25 92 (mI S 91 6).toNatClampNeg) + (mI S25 t 2))
                have hI289 : zL91 f r C Z N (ma_put S25 92 (mI S 91 6).toNatClampNeg (.inl ((mI S25 92 (mI S 91 6).toNatClampNeg) + (mI S25 t 2)))) := zG_sa hI_S25 (0) (3000) rfl (by decide) (by decide) (by decide) trivial (by omega) (by omega)
                have li296 : (1 : Int32).toInt = 1 := rfl
                exact K ((1 : Int32)) _ hI289 (by decide)
          · skip
            have g297 := i_nlt h274
            refine zd (fun h298 => ?_) (fun h298 => ?_)
            · skip
              have g299 := i_le h298
              first | have f300 := i_muln (x := (mI S 91 6)) (y := (mI S 91 2)) (by omega) (by omega) (by omega) (by omega) | have b301 := i_bd ((mI S 91 6) * (mI S 91 2))
              first | have e302 : (((mI S 91 6) * (mI S 91 2)) + (0 : Int32)).toInt = ((mI S 91 6) * (mI S 91 2)).toInt + (0) := i_addk rfl (by omega) (by omega) | have b303 := i_bd (((mI S 91 6) * (mI S 91 2)) + (0 : Int32))
              have hI304 : zL91 f r C Z N (ma_put S 91 6 (.inl (mI S 91 6))) := zG_sp hI (-1) (92) rfl (by decide) (by decide) (by decide) trivial (by omega) (by omega)
              refine sp_90_69 t ((((mI S 91 6) * (mI S 91 2)) + (0 : Int32))) (by omega) (by omega) (zL91_dn hI304) th_t (by omega) (fun S27 hL_S27 => zv_n ⟨zG_T hL_S27, ?_⟩)
              have hI_S27 := zL91_up hI304 hL_S27
              refine ⟨zG_n hI_S27 th_t, ?_⟩
              refine zd (fun h305 => ?_) (fun h305 => ?_)
              · skip
                have g306 := i_lt h305
                have li307 : (1 : Int32).toInt = 1 := rfl
                exact K ((1 : Int32)) _ hI_S27 (by decide)
              · skip
                have g308 := i_nlt h305
                refine zd (fun h309 => ?_) (fun h309 => ?_)
                · skip
                  have g310 := i_le h309
                  have li311 : (1 : Int32).toInt = 1 := rfl
                  exact K ((1 : Int32)) _ hI_S27 (by decide)
                · skip
                  have g312 := i_nle h309
                  refine ⟨i_ix (by omega) (by omega), ?_⟩
                  refine ⟨i_ix (by omega) (by omega), ?_⟩
                  have q314 : (mI S27 92 (mI S 91 6).toNatClampNeg).toInt = (mI S 92 (mI S 91 6).toNatClampNeg).toInt := zG_zi (f := mI (ma_put S 91 6 (.inl (mI S 91 6)))) hL_S27 rfl
                  first | have f315 := zG_a hI_S27 93 (0) (3000) (c := 92) (k := (mI S 91 6).toNatClampNeg) (by decide) (i_ix (n := 93) (by omega) (by omega)).2 | have b316 := i_bd (mI S27 92 (mI S 91 6).toNatClampNeg)
                  have f317 := zG_th hI_S27 th_t
                  first | have e318 : ((mI S27 92 (mI S 91 6).toNatClampNeg) + (mI S27 t 2)).toInt = (mI S27 92 (mI S 91 6).toNatClampNeg).toInt + (mI S27 t 2).toInt := i_add (by omega) (by omega) | have b319 := i_bd ((mI S27 92 (mI S 91 6).toNatClampNeg) + (mI S27 t 2))
                  have hI313 : zL91 f r C Z N (ma_put S27 92 (mI S 91 6).toNatClampNeg (.inl ((mI S27 92 (mI S 91 6).toNatClampNeg) + (mI S27 t 2)))) := zG_sa hI_S27 (0) (3000) rfl (by decide) (by decide) (by decide) trivial (by omega) (by omega)
                  have li320 : (1 : Int32).toInt = 1 := rfl
                  exact K ((1 : Int32)) _ hI313 (by decide)
            · skip
              have g321 := i_nle h298
              refine ⟨i_ix (by omega) (by omega), ?_⟩
              first | have f322 := i_muln (x := (mI S 91 6)) (y := (mI S 91 2)) (by omega) (by omega) (by omega) (by omega) | have b323 := i_bd ((mI S 91 6) * (mI S 91 2))
              first | have e324 : (((mI S 91 6) * (mI S 91 2)) + (mI S 92 (mI S 91 6).toNatClampNeg)).toInt = ((mI S 91 6) * (mI S 91 2)).toInt + (mI S 92 (mI S 91 6).toNatClampNeg).toInt := i_add (by omega) (by omega) | have b325 := i_bd (((mI S 91 6) * (mI S 91 2)) + (mI S 92 (mI S 91 6).toNatClampNeg))
              have hI326 : zL91 f r C Z N (ma_put S 91 6 (.inl (mI S 91 6))) := zG_sp hI (-1) (92) rfl (by decide) (by decide) (by decide) trivial (by omega) (by omega)
              refine sp_90_69 t ((((mI S 91 6) * (mI S 91 2)) + (mI S 92 (mI S 91 6).toNatClampNeg))) (by omega) (by omega) (zL91_dn hI326) th_t (by omega) (fun S29 hL_S29 => zv_n ⟨zG_T hL_S29, ?_⟩)
              have hI_S29 := zL91_up hI326 hL_S29
              refine ⟨zG_n hI_S29 th_t, ?_⟩
              refine zd (fun h327 => ?_) (fun h327 => ?_)
              · skip
                have g328 := i_lt h327
                have li329 : (1 : Int32).toInt = 1 := rfl
                exact K ((1 : Int32)) _ hI_S29 (by decide)
              · skip
                have g330 := i_nlt h327
                refine zd (fun h331 => ?_) (fun h331 => ?_)
                · skip
                  have g332 := i_le h331
                  have li333 : (1 : Int32).toInt = 1 := rfl
                  exact K ((1 : Int32)) _ hI_S29 (by decide)
                · skip
                  have g334 := i_nle h331
                  refine ⟨i_ix (by omega) (by omega), ?_⟩
                  refine ⟨i_ix (by omega) (by omega), ?_⟩
                  have q336 : (mI S29 92 (mI S 91 6).toNatClampNeg).toInt = (mI S 92 (mI S 91 6).toNatClampNeg).toInt := zG_zi (f := mI (ma_put S 91 6 (.inl (mI S 91 6)))) hL_S29 rfl
                  first | have f337 := zG_a hI_S29 93 (0) (3000) (c := 92) (k := (mI S 91 6).toNatClampNeg) (by decide) (i_ix (n := 93) (by omega) (by omega)).2 | have b338 := i_bd (mI S29 92 (mI S 91 6).toNatClampNeg)
                  have f339 := zG_th hI_S29 th_t
                  first | have e340 : ((mI S29 92 (mI S 91 6).toNatClampNeg) + (mI S29 t 2)).toInt = (mI S29 92 (mI S 91 6).toNatClampNeg).toInt + (mI S29 t 2).toInt := i_add (by omega) (by omega) | have b341 := i_bd ((mI S29 92 (mI S 91 6).toNatClampNeg) + (mI S29 t 2))
                  have hI335 : zL91 f r C Z N (ma_put S29 92 (mI S 91 6).toNatClampNeg (.inl ((mI S29 92 (mI S 91 6).toNatClampNeg) + (mI S29 t 2)))) := zG_sa hI_S29 (0) (3000) rfl (by decide) (by decide) (by decide) trivial (by omega) (by omega)
                  have li342 : (1 : Int32).toInt = 1 := rfl
                  exact K ((1 : Int32)) _ hI335 (by decide)
