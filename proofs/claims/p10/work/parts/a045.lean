/-! from 95.s17 -/
/-! REGIONS, the class (written by wip/tools/gen15z.py) -/
theorem g_51_91_sz_0 {X : Nat × (Nat → Int32)} {d w : Nat} {S : ma_S} {Q : Option ma_V ⊕ Nat → ma_S → Prop} (t : Nat) (hd : 2 ≤ d) (hw : 114 ≤ w) (hS : zT S) (h : (126 ≤ t ∧ t < mN S) ∧ (if (mI S 91 6) < 0 then (ma_wp X (d - 1) (w - 21) 52 0 [(0, .inr (.inr (some 91)))] [] S (zi (fun v2 S1 => zT S1 ∧ (if v2 = (-1 : Int32) then (Q (.inl (some (.inl (0 : Int32)))) S1) else (if v2 < 0 then (ma_wp X (d - 1) (w - 24) 90 0 [(0, .inr (.inr (some 69))), (1, .inr (.inr (some t))), (2, .inl ((v2 * (mI S1 91 2)) + (0 : Int32)))] [] (ma_put S1 91 6 (.inl v2)) (zv (fun S3 => zT S3 ∧ ((126 ≤ t ∧ t < mN S3) ∧ (if v2 < 0 then (Q (.inl (some (.inl (1 : Int32)))) S3) else (if (93 : Int32) ≤ v2 then (Q (.inl (some (.inl (1 : Int32)))) S3) else ((0 ≤ v2 ∧ v2.toNatClampNeg < 93) ∧ ((0 ≤ v2 ∧ v2.toNatClampNeg < 93) ∧ (Q (.inl (some (.inl (1 : Int32)))) (ma_put S3 92 v2.toNatClampNeg (.inl ((mI S3 92 v2.toNatClampNeg) + (mI S3 t 2))))))))))) (fun x S9 => Q (.inr x) S9))) else (if (93 : Int32) ≤ v2 then (ma_wp X (d - 1) (w - 24) 90 0 [(0, .inr (.inr (some 69))), (1, .inr (.inr (some t))), (2, .inl ((v2 * (mI S1 91 2)) + (0 : Int32)))] [] (ma_put S1 91 6 (.inl v2)) (zv (fun S5 => zT S5 ∧ ((126 ≤ t ∧ t < mN S5) ∧ (if v2 < 0 then (Q (.inl (some (.inl (1 : Int32)))) S5) else (if (93 : Int32) ≤ v2 then (Q (.inl (some (.inl (1 : Int32)))) S5) else ((0 ≤ v2 ∧ v2.toNatClampNeg < 93) ∧ ((0 ≤ v2 ∧ v2.toNatClampNeg < 93) ∧ (Q (.inl (some (.inl (1 : Int32)))) (ma_put S5 92 v2.toNatClampNeg (.inl ((mI S5 92 v2.toNatClampNeg) + (mI S5 t 2))))))))))) (fun x S9 => Q (.inr x) S9))) else ((0 ≤ v2 ∧ v2.toNatClampNeg < 93) ∧ (ma_wp X (d - 1) (w - 24) 90 0 [(0, .inr (.inr (some 69))), (1, .inr (.inr (some t))), (2, .inl ((v2 * (mI S1 91 2)) + (mI S1 92 v2.toNatClampNeg)))] [] (ma_put S1 91 6 (.inl v2)) (zv (fun S7 => zT S7 ∧ ((126 ≤ t ∧ t < mN S7) ∧ (if v2 < 0 then (Q (.inl (some (.inl (1 : Int32)))) S7) else (if (93 : Int32) ≤ v2 then (Q (.inl (some (.inl (1 : Int32)))) S7) else ((0 ≤ v2 ∧ v2.toNatClampNeg < 93) ∧ ((0 ≤ v2 ∧ v2.toNatClampNeg < 93) ∧ (Q (.inl (some (.inl (1 : Int32)))) (ma_put S7 92 v2.toNatClampNeg (.inl ((mI S7 92 v2.toNatClampNeg) + (mI S7 t 2))))))))))) (fun x S9 => Q (.inr x) S9)))))))) (fun x S9 => Q (.inr x) S9))) else (if (93 : Int32) ≤ (mI S 91 6) then (ma_wp X (d - 1) (w - 21) 52 0 [(0, .inr (.inr (some 91)))] [] S (zi (fun v10 S9 => zT S9 ∧ (if v10 = (-1 : Int32) then (Q (.inl (some (.inl (0 : Int32)))) S9) else (if v10 < 0 then (ma_wp X (d - 1) (w - 24) 90 0 [(0, .inr (.inr (some 69))), (1, .inr (.inr (some t))), (2, .inl ((v10 * (mI S9 91 2)) + (0 : Int32)))] [] (ma_put S9 91 6 (.inl v10)) (zv (fun S11 => zT S11 ∧ ((126 ≤ t ∧ t < mN S11) ∧ (if v10 < 0 then (Q (.inl (some (.inl (1 : Int32)))) S11) else (if (93 : Int32) ≤ v10 then (Q (.inl (some (.inl (1 : Int32)))) S11) else ((0 ≤ v10 ∧ v10.toNatClampNeg < 93) ∧ ((0 ≤ v10 ∧ v10.toNatClampNeg < 93) ∧ (Q (.inl (some (.inl (1 : Int32)))) (ma_put S11 92 v10.toNatClampNeg (.inl ((mI S11 92 v10.toNatClampNeg) + (mI S11 t 2))))))))))) (fun x S9 => Q (.inr x) S9))) else (if (93 : Int32) ≤ v10 then (ma_wp X (d - 1) (w - 24) 90 0 [(0, .inr (.inr (some 69))), (1, .inr (.inr (some t))), (2, .inl ((v10 * (mI S9 91 2)) + (0 : Int32)))] [] (ma_put S9 91 6 (.inl v10)) (zv (fun S13 => zT S13 ∧ ((126 ≤ t ∧ t < mN S13) ∧ (if v10 < 0 then (Q (.inl (some (.inl (1 : Int32)))) S13) else (if (93 : Int32) ≤ v10 then (Q (.inl (some (.inl (1 : Int32)))) S13) else ((0 ≤ v10 ∧ v10.toNatClampNeg < 93) ∧ ((0 ≤ v10 ∧ v10.toNatClampNeg < 93) ∧ (Q (.inl (some (.inl (1 : Int32)))) (ma_put S13 92 v10.toNatClampNeg (.inl ((mI S13 92 v10.toNatClampNeg) + (mI S13 t 2))))))))))) (fun x S9 => Q (.inr x) S9))) else ((0 ≤ v10 ∧ v10.toNatClampNeg < 93) ∧ (ma_wp X (d - 1) (w - 24) 90 0 [(0, .inr (.inr (some 69))), (1, .inr (.inr (some t))), (2, .inl ((v10 * (mI S9 91 2)) + (mI S9 92 v10.toNatClampNeg)))] [] (ma_put S9 91 6 (.inl v10)) (zv (fun S15 => zT S15 ∧ ((126 ≤ t ∧ t < mN S15) ∧ (if v10 < 0 then (Q (.inl (some (.inl (1 : Int32)))) S15) else (if (93 : Int32) ≤ v10 then (Q (.inl (some (.inl (1 : Int32)))) S15) else ((0 ≤ v10 ∧ v10.toNatClampNeg < 93) ∧ ((0 ≤ v10 ∧ v10.toNatClampNeg < 93) ∧ (Q (.inl (some (.inl (1 : Int32)))) (ma_put S15 92 v10.toNatClampNeg (.inl ((mI S15 92 v10.toNatClampNeg) + (mI S15 t 2))))))))))) (fun x S9 => Q (.inr x) S9)))))))) (fun x S9 => Q (.inr x) S9))) else ((0 ≤ (mI S 91 6) ∧ (mI S 91 6).toNatClampNeg < 93) ∧ (if (mI S 91 2) < ((mI S 92 (mI S 91 6).toNatClampNeg) + (mI S t 2)) then (ma_wp X (d - 1) (w - 21) 52 0 [(0, .inr (.inr (some 91)))] [] S (zi (fun v18 S17 => zT S17 ∧ (if v18 = (-1 : Int32) then (Q (.inl (some (.inl (0 : Int32)))) S17) else (if v18 < 0 then (ma_wp X (d - 1) (w - 24) 90 0 [(0, .inr (.inr (some 69))), (1, .inr (.inr (some t))), (2, .inl ((v18 * (mI S17 91 2)) + (0 : Int32)))] [] (ma_put S17 91 6 (.inl v18)) (zv (fun S19 => zT S19 ∧ ((126 ≤ t ∧ t < mN S19) ∧ (if v18 < 0 then (Q (.inl (some (.inl (1 : Int32)))) S19) else (if (93 : Int32) ≤ v18 then (Q (.inl (some (.inl (1 : Int32)))) S19) else ((0 ≤ v18 ∧ v18.toNatClampNeg < 93) ∧ ((0 ≤ v18 ∧ v18.toNatClampNeg < 93) ∧ (Q (.inl (some (.inl (1 : Int32)))) (ma_put S19 92 v18.toNatClampNeg (.inl ((mI S19 92 v18.toNatClampNeg) + (mI S19 t 2))))))))))) (fun x S9 => Q (.inr x) S9))) else (if (93 : Int32) ≤ v18 then (ma_wp X (d - 1) (w - 24) 90 0 [(0, .inr (.inr (some 69))), (1, .inr (.inr (some t))), (2, .inl ((v18 * (mI S17 91 2)) + (0 : Int32)))] [] (ma_put S17 91 6 (.inl v18)) (zv (fun S21 => zT S21 ∧ ((126 ≤ t ∧ t < mN S21) ∧ (if v18 < 0 then (Q (.inl (some (.inl (1 : Int32)))) S21) else (if (93 : Int32) ≤ v18 then (Q (.inl (some (.inl (1 : Int32)))) S21) else ((0 ≤ v18 ∧ v18.toNatClampNeg < 93) ∧ ((0 ≤ v18 ∧ v18.toNatClampNeg < 93) ∧ (Q (.inl (some (.inl (1 : Int32)))) (ma_put S21 92 v18.toNatClampNeg (.inl ((mI S21 92 v18.toNatClampNeg) + (mI S21 t 2))))))))))) (fun x S9 => Q (.inr x) S9))) else ((0 ≤ v18 ∧ v18.toNatClampNeg < 93) ∧ (ma_wp X (d - 1) (w - 24) 90 0 [(0, .inr (.inr (some 69))), (1, .inr (.inr (some t))), (2, .inl ((v18 * (mI S17 91 2)) + (mI S17 92 v18.toNatClampNeg)))] [] (ma_put S17 91 6 (.inl v18)) (zv (fun S23 => zT S23 ∧ ((126 ≤ t ∧ t < mN S23) ∧ (if v18 < 0 then (Q (.inl (some (.inl (1 : Int32)))) S23) else (if (93 : Int32) ≤ v18 then (Q (.inl (some (.inl (1 : Int32)))) S23) else ((0 ≤ v18 ∧ v18.toNatClampNeg < 93) ∧ ((0 ≤ v18 ∧ v18.toNatClampNeg < 93) ∧ (Q (.inl (some (.inl (1 : Int32)))) (ma_put S23 92 v18.toNatClampNeg (.inl ((mI S23 92 v18.toNatClampNeg) + (mI S23 t 2))))))))))) (fun x S9 => Q (.inr x) S9)))))))) (fun x S9 => Q (.inr x) S9))) else (if (mI S 91 6) = (-1 : Int32) then (Q (.inl (some (.inl (0 : Int32)))) S) else (if (mI S 91 6) < 0 then (ma_wp X (d - 1) (w - 24) 90 0 [(0, .inr (.inr (some 69))), (1, .inr (.inr (some t))), (2, .inl (((mI S 91 6) * (mI S 91 2)) + (0 : Int32)))] [] (ma_put S 91 6 (.inl (mI S 91 6))) (zv (fun S25 => zT S25 ∧ ((126 ≤ t ∧ t < mN S25) ∧ (if (mI S 91 6) < 0 then (Q (.inl (some (.inl (1 : Int32)))) S25) else (if (93 : Int32) ≤ (mI S 91 6) then (Q (.inl (some (.inl (1 : Int32)))) S25) else ((0 ≤ (mI S 91 6) ∧ (mI S 91 6).toNatClampNeg < 93) ∧ ((0 ≤ (mI S 91 6) ∧ (mI S 91 6).toNatClampNeg < 93) ∧ (Q (.inl (some (.inl (1 : Int32)))) (ma_put S25 92 (mI S 91 6).toNatClampNeg (.inl ((mI S25 92 (mI S 91 6).toNatClampNeg) + (mI S25 t 2))))))))))) (fun x S9 => Q (.inr x) S9))) else (if (93 : Int32) ≤ (mI S 91 6) then (ma_wp X (d - 1) (w - 24) 90 0 [(0, .inr (.inr (some 69))), (1, .inr (.inr (some t))), (2, .inl (((mI S 91 6) * (mI S 91 2)) + (0 : Int32)))] [] (ma_put S 91 6 (.inl (mI S 91 6))) (zv (fun S27 => zT S27 ∧ ((126 ≤ t ∧ t < mN S27) ∧ (if (mI S 91 6) < 0 then (Q (.inl (some (.inl (1 : Int32)))) S27) else (if (93 : Int32) ≤ (mI S 91 6) then (Q (.inl (some (.inl (1 : Int32)))) S27) else ((0 ≤ (mI S 91 6) ∧ (mI S 91 6).toNatClampNeg < 93) ∧ ((0 ≤ (mI S 91 6) ∧ (mI S 91 6).toNatClampNeg < 93) ∧ (Q (.inl (some (.inl (1 : Int32)))) (ma_put S27 92 (mI S 91 6).toNatClampNeg (.inl ((mI S27 92 (mI S 91 6).toNatClampNeg) + (mI S27 t 2))))))))))) (fun x S9 => Q (.inr x) S9))) else ((0 ≤ (mI S 91 6) ∧ (mI S 91 6).toNatClampNeg < 93) ∧ (ma_wp X (d - 1) (w - 24) 90 0 [(0, .inr (.inr (some 69))), (1, .inr (.inr (some t))), (2, .inl (((mI S 91 6) * (mI S 91 2)) + (mI S 92 (mI S 91 6).toNatClampNeg)))] [] (ma_put S 91 6 (.inl (mI S 91 6))) (zv (fun S29 => zT S29 ∧ ((126 ≤ t ∧ t < mN S29) ∧ (if (mI S 91 6) < 0 then (Q (.inl (some (.inl (1 : Int32)))) S29) else (if (93 : Int32) ≤ (mI S 91 6) then (Q (.inl (some (.inl (1 : Int32)))) S29) else ((0 ≤ (mI S 91 6) ∧ (mI S 91 6).toNatClampNeg < 93) ∧ ((0 ≤ (mI S 91 6) ∧ (mI S 91 6).toNatClampNeg < 93) ∧ (Q (.inl (some (.inl (1 : Int32)))) (ma_put S29 92 (mI S 91 6).toNatClampNeg (.inl ((mI S29 92 (mI S 91 6).toNatClampNeg) + (mI S29 t 2))))))))))) (fun x S9 => Q (.inr x) S9)))))))))))) : ma_wp X d w 51 0 [(0, .inr (.inr (some 91))), (1, .inr (.inr (some t)))] [] S Q := by
  refine zw_push hm_51 dX4_moveOut_0 (v := .inr (.inr (some 91))) rfl ?_
  refine zw_push hm_51 dX4_moveOut_1 (v := .inr (.inr (some 91))) rfl ?_
  refine zw_gf hm_51 dX4_moveOut_2 (v := .inl (mI S 91 6)) (zT_is hS s_91) (zT_t hS s_91) rfl f_4_83_4 rfl ?_
  refine zw_push hm_51 dX4_moveOut_5 (v := .inr (.inr (some t))) rfl ?_
  obtain ⟨hg, h⟩ := h
  refine zw_gf hm_51 dX4_moveOut_6 (v := .inl (mI S t 2)) (zT_tis hS hg) (zT_tt hS hg) rfl f_4_63_9 rfl ?_
  refine zw_cv hm_51 dX4_moveOut_9 v_4_43_4 hm_41 [.inl (mI S t 2), .inl (mI S 91 6)] [] rfl (zT_rt hS s_91 rfl) ⟨by omega, by omega⟩ rfl ?_
  show ma_wp X (d - 1) (w - 22) 41 0 [(0, .inr (.inr (some 91))), (1, .inl (mI S 91 6)), (2, .inl (mI S t 2))] [] S _
  refine zw_push hm_41 dX4_fits_0 (v := .inl (mI S 91 6)) rfl ?_
  refine zw_if0 hm_41 dX4_fits_1 (t := 29) rfl zc0_lt ?_ ?_
  · intro hc
    rw [if_pos hc] at h
    refine zw_push hm_41 dX4_fits_29 (v := .inl (0 : Int32)) rfl ?_
    refine zw_bret hm_41 dX4_fits_30 (by decide) ?_
    show ma_wp X d w 51 12 [(0, .inr (.inr (some 91))), (1, .inr (.inr (some t)))] [.inl (0 : Int32)] S _
    refine zw_if0 hm_51 dX4_moveOut_12 (t := 22) rfl zc0_eq (fun _ => ?_) (fun hc => absurd (by decide) hc)
    refine zw_push hm_51 dX4_moveOut_22 (v := .inr (.inr (some 91))) rfl ?_
    refine zw_cv hm_51 dX4_moveOut_23 v_4_54_4 hm_52 [] [] rfl (zT_rt hS s_91 rfl) ⟨by omega, by omega⟩ rfl (zw_mono h (zi_go ?_ ?_))
    · intro v2 S1 hv
      obtain ⟨hS1, h⟩ := hv
      refine zw_sto hm_51 dX4_moveOut_26 [(2, .inl v2), (0, .inr (.inr (some 91))), (1, .inr (.inr (some t)))] rfl rfl rfl ?_
      refine zw_push hm_51 dX4_moveOut_27 (v := .inl v2) rfl ?_
      refine zw_push hm_51 dX4_moveOut_28 (v := .inl (-1 : Int32)) rfl ?_
      refine zw_if2 hm_51 dX4_moveOut_29 (t := 34) rfl zc2_ne ?_ ?_
      · intro hc
        rw [if_neg hc] at h
        refine zw_push hm_51 dX4_moveOut_34 (v := .inr (.inr (some 91))) rfl ?_
        refine zw_push hm_51 dX4_moveOut_35 (v := .inl v2) rfl ?_
        refine zw_pf hm_51 dX4_moveOut_36 (zT_is hS1 s_91) (zT_t hS1 s_91) p_4_83_4 zk_int ?_
        refine zw_push hm_51 dX4_moveOut_39 (v := .inr (.inr (some 91))) rfl ?_
        refine zw_gf hm_51 dX4_moveOut_40 (v := .inr (.inr (some 69))) (zT_is (zT_pi hS1) s_91) (zT_t (zT_pi hS1) s_91) rfl f_4_100_4 (zT_f (zT_pi hS1) r_91_0) ?_
        refine zw_push hm_51 dX4_moveOut_43 (v := .inr (.inr (some t))) rfl ?_
        refine zw_push hm_51 dX4_moveOut_44 (v := .inl v2) rfl ?_
        refine zw_push hm_51 dX4_moveOut_45 (v := .inr (.inr (some 91))) rfl ?_
        refine zw_gf hm_51 dX4_moveOut_46 (v := .inl (mI S1 91 2)) (zT_is (zT_pi hS1) s_91) (zT_t (zT_pi hS1) s_91) rfl f_4_18_4 rfl ?_
        refine zw_stk hm_51 dX4_moveOut_49 (st₉ := [.inl (v2 * (mI S1 91 2)), .inr (.inr (some t)), .inr (.inr (some 69))]) rfl rfl ?_
        refine zw_push hm_51 dX4_moveOut_50 (v := .inr (.inr (some 91))) rfl ?_
        refine zw_push hm_51 dX4_moveOut_51 (v := .inl v2) rfl ?_
        refine zw_cv hm_51 dX4_moveOut_52 v_4_93_4 hm_50 [.inl v2] [.inl (v2 * (mI S1 91 2)), .inr (.inr (some t)), .inr (.inr (some 69))] rfl (zT_rt (zT_pi hS1) s_91 rfl) ⟨by omega, by omega⟩ rfl ?_
        show ma_wp X (d - 1) (w - 21) 50 0 [(0, .inr (.inr (some 91))), (1, .inl v2)] [] (ma_put S1 91 6 (.inl v2)) _
        refine zw_push hm_50 dX4_topOf_0 (v := .inl v2) rfl ?_
        refine zw_if0 hm_50 dX4_topOf_1 (t := 19) rfl zc0_lt ?_ ?_
        · intro hc
          rw [if_pos hc] at h
          refine zw_push hm_50 dX4_topOf_19 (v := .inl (0 : Int32)) rfl ?_
          refine zw_iret hm_50 dX4_topOf_20 ?_
          show ma_wp X d w 51 55 [(2, .inl v2), (0, .inr (.inr (some 91))), (1, .inr (.inr (some t)))] [.inl (0 : Int32), .inl (v2 * (mI S1 91 2)), .inr (.inr (some t)), .inr (.inr (some 69))] (ma_put S1 91 6 (.inl v2)) _
          refine zw_stk hm_51 dX4_moveOut_55 (st₉ := [.inl ((v2 * (mI S1 91 2)) + (0 : Int32)), .inr (.inr (some t)), .inr (.inr (some 69))]) rfl rfl ?_
          refine zw_cv hm_51 dX4_moveOut_56 v_4_127_7 hm_90 [.inl ((v2 * (mI S1 91 2)) + (0 : Int32)), .inr (.inr (some t))] [] rfl (zT_rt (zT_pi hS1) s_69 rfl) ⟨by omega, by omega⟩ rfl (zw_mono h (zv_go ?_ ?_))
          · intro S3 hv
            obtain ⟨hS3, h⟩ := hv
            refine zw_push hm_51 dX4_moveOut_59 (v := .inr (.inr (some 91))) rfl ?_
            refine zw_push hm_51 dX4_moveOut_60 (v := .inl v2) rfl ?_
            refine zw_push hm_51 dX4_moveOut_61 (v := .inr (.inr (some t))) rfl ?_
            obtain ⟨hg, h⟩ := h
            refine zw_gf hm_51 dX4_moveOut_62 (v := .inl (mI S3 t 2)) (zT_tis hS3 hg) (zT_tt hS3 hg) rfl f_4_63_9 rfl ?_
            refine zw_cv hm_51 dX4_moveOut_65 v_4_66_4 hm_53 [.inl (mI S3 t 2), .inl v2] [] rfl (zT_rt hS3 s_91 rfl) ⟨by omega, by omega⟩ rfl ?_
            show ma_wp X (d - 1) (w - 22) 53 0 [(0, .inr (.inr (some 91))), (1, .inl v2), (2, .inl (mI S3 t 2))] [] S3 _
            refine zw_push hm_53 dX4_raiseTop_0 (v := .inl v2) rfl ?_
            refine zw_if0 hm_53 dX4_raiseTop_1 (t := 20) rfl zc0_lt ?_ ?_
            · intro hc
              rw [if_pos hc] at h
              refine zw_vret hm_53 dX4_raiseTop_20 ?_
              show ma_wp X d w 51 68 [(2, .inl v2), (0, .inr (.inr (some 91))), (1, .inr (.inr (some t)))] [] S3 _
              refine zw_push hm_51 dX4_moveOut_68 (v := .inl (1 : Int32)) rfl ?_
              exact zw_bret hm_51 dX4_moveOut_69 (by decide) h
            · intro hc
              rw [if_neg hc] at h
              refine zw_push hm_53 dX4_raiseTop_4 (v := .inl v2) rfl ?_
              refine zw_push hm_53 dX4_raiseTop_5 (v := .inl (93 : Int32)) rfl ?_
              refine zw_if2 hm_53 dX4_raiseTop_7 (t := 20) rfl zc2_ge ?_ ?_
              · intro hc
                rw [if_pos hc] at h
                refine zw_vret hm_53 dX4_raiseTop_20 ?_
                show ma_wp X d w 51 68 [(2, .inl v2), (0, .inr (.inr (some 91))), (1, .inr (.inr (some t)))] [] S3 _
                refine zw_push hm_51 dX4_moveOut_68 (v := .inl (1 : Int32)) rfl ?_
                exact zw_bret hm_51 dX4_moveOut_69 (by decide) h
              · intro hc
                rw [if_neg hc] at h
                refine zw_push hm_53 dX4_raiseTop_10 (v := .inr (.inr (some 91))) rfl ?_
                refine zw_gf hm_53 dX4_raiseTop_11 (v := .inr (.inr (some 92))) (zT_is hS3 s_91) (zT_t hS3 s_91) rfl f_4_9_4 (zT_f hS3 r_91_7) ?_
                refine zw_push hm_53 dX4_raiseTop_14 (v := .inl v2) rfl ?_
                refine zw_stk hm_53 dX4_raiseTop_15 (st₉ := [.inl v2, .inr (.inr (some 92)), .inl v2, .inr (.inr (some 92))]) rfl rfl ?_
                obtain ⟨hg, h⟩ := h
                refine zw_ia hm_53 dX4_raiseTop_16 (zT_is hS3 s_92) (zT_h hS3 s_92) rfl hg ?_
                show ma_wp X (d - 1) (w - 22) 53 17 [(0, .inr (.inr (some 91))), (1, .inl v2), (2, .inl (mI S3 t 2))] [.inl (mI S3 92 v2.toNatClampNeg), .inl v2, .inr (.inr (some 92))] S3 _
                refine zw_push hm_53 dX4_raiseTop_17 (v := .inl (mI S3 t 2)) rfl ?_
                refine zw_stk hm_53 dX4_raiseTop_18 (st₉ := [.inl ((mI S3 92 v2.toNatClampNeg) + (mI S3 t 2)), .inl v2, .inr (.inr (some 92))]) rfl rfl ?_
                obtain ⟨hg, h⟩ := h
                refine zw_ias hm_53 dX4_raiseTop_19 (zT_is hS3 s_92) (zT_h hS3 s_92) rfl hg ?_
                refine zw_vret hm_53 dX4_raiseTop_20 ?_
                show ma_wp X d w 51 68 [(2, .inl v2), (0, .inr (.inr (some 91))), (1, .inr (.inr (some t)))] [] (ma_put S3 92 v2.toNatClampNeg (.inl ((mI S3 92 v2.toNatClampNeg) + (mI S3 t 2)))) _
                refine zw_push hm_51 dX4_moveOut_68 (v := .inl (1 : Int32)) rfl ?_
                exact zw_bret hm_51 dX4_moveOut_69 (by decide) h
          · intro x S9 hx
            exact ⟨by decide, hx⟩
        · intro hc
          rw [if_neg hc] at h
          refine zw_push hm_50 dX4_topOf_4 (v := .inl v2) rfl ?_
          refine zw_push hm_50 dX4_topOf_5 (v := .inl (93 : Int32)) rfl ?_
          refine zw_if2 hm_50 dX4_topOf_7 (t := 19) rfl zc2_ge ?_ ?_
          · intro hc
            rw [if_pos hc] at h
            refine zw_push hm_50 dX4_topOf_19 (v := .inl (0 : Int32)) rfl ?_
            refine zw_iret hm_50 dX4_topOf_20 ?_
            show ma_wp X d w 51 55 [(2, .inl v2), (0, .inr (.inr (some 91))), (1, .inr (.inr (some t)))] [.inl (0 : Int32), .inl (v2 * (mI S1 91 2)), .inr (.inr (some t)), .inr (.inr (some 69))] (ma_put S1 91 6 (.inl v2)) _
            refine zw_stk hm_51 dX4_moveOut_55 (st₉ := [.inl ((v2 * (mI S1 91 2)) + (0 : Int32)), .inr (.inr (some t)), .inr (.inr (some 69))]) rfl rfl ?_
            refine zw_cv hm_51 dX4_moveOut_56 v_4_127_7 hm_90 [.inl ((v2 * (mI S1 91 2)) + (0 : Int32)), .inr (.inr (some t))] [] rfl (zT_rt (zT_pi hS1) s_69 rfl) ⟨by omega, by omega⟩ rfl (zw_mono h (zv_go ?_ ?_))
            · intro S5 hv
              obtain ⟨hS5, h⟩ := hv
              refine zw_push hm_51 dX4_moveOut_59 (v := .inr (.inr (some 91))) rfl ?_
              refine zw_push hm_51 dX4_moveOut_60 (v := .inl v2) rfl ?_
              refine zw_push hm_51 dX4_moveOut_61 (v := .inr (.inr (some t))) rfl ?_
              obtain ⟨hg, h⟩ := h
              refine zw_gf hm_51 dX4_moveOut_62 (v := .inl (mI S5 t 2)) (zT_tis hS5 hg) (zT_tt hS5 hg) rfl f_4_63_9 rfl ?_
              refine zw_cv hm_51 dX4_moveOut_65 v_4_66_4 hm_53 [.inl (mI S5 t 2), .inl v2] [] rfl (zT_rt hS5 s_91 rfl) ⟨by omega, by omega⟩ rfl ?_
              show ma_wp X (d - 1) (w - 22) 53 0 [(0, .inr (.inr (some 91))), (1, .inl v2), (2, .inl (mI S5 t 2))] [] S5 _
              refine zw_push hm_53 dX4_raiseTop_0 (v := .inl v2) rfl ?_
              refine zw_if0 hm_53 dX4_raiseTop_1 (t := 20) rfl zc0_lt ?_ ?_
              · intro hc
                rw [if_pos hc] at h
                refine zw_vret hm_53 dX4_raiseTop_20 ?_
                show ma_wp X d w 51 68 [(2, .inl v2), (0, .inr (.inr (some 91))), (1, .inr (.inr (some t)))] [] S5 _
                refine zw_push hm_51 dX4_moveOut_68 (v := .inl (1 : Int32)) rfl ?_
                exact zw_bret hm_51 dX4_moveOut_69 (by decide) h
              · intro hc
                rw [if_neg hc] at h
                refine zw_push hm_53 dX4_raiseTop_4 (v := .inl v2) rfl ?_
                refine zw_push hm_53 dX4_raiseTop_5 (v := .inl (93 : Int32)) rfl ?_
                refine zw_if2 hm_53 dX4_raiseTop_7 (t := 20) rfl zc2_ge ?_ ?_
                · intro hc
                  rw [if_pos hc] at h
                  refine zw_vret hm_53 dX4_raiseTop_20 ?_
                  show ma_wp X d w 51 68 [(2, .inl v2), (0, .inr (.inr (some 91))), (1, .inr (.inr (some t)))] [] S5 _
                  refine zw_push hm_51 dX4_moveOut_68 (v := .inl (1 : Int32)) rfl ?_
                  exact zw_bret hm_51 dX4_moveOut_69 (by decide) h
                · intro hc
                  rw [if_neg hc] at h
                  refine zw_push hm_53 dX4_raiseTop_10 (v := .inr (.inr (some 91))) rfl ?_
                  refine zw_gf hm_53 dX4_raiseTop_11 (v := .inr (.inr (some 92))) (zT_is hS5 s_91) (zT_t hS5 s_91) rfl f_4_9_4 (zT_f hS5 r_91_7) ?_
                  refine zw_push hm_53 dX4_raiseTop_14 (v := .inl v2) rfl ?_
                  refine zw_stk hm_53 dX4_raiseTop_15 (st₉ := [.inl v2, .inr (.inr (some 92)), .inl v2, .inr (.inr (some 92))]) rfl rfl ?_
                  obtain ⟨hg, h⟩ := h
                  refine zw_ia hm_53 dX4_raiseTop_16 (zT_is hS5 s_92) (zT_h hS5 s_92) rfl hg ?_
                  show ma_wp X (d - 1) (w - 22) 53 17 [(0, .inr (.inr (some 91))), (1, .inl v2), (2, .inl (mI S5 t 2))] [.inl (mI S5 92 v2.toNatClampNeg), .inl v2, .inr (.inr (some 92))] S5 _
                  refine zw_push hm_53 dX4_raiseTop_17 (v := .inl (mI S5 t 2)) rfl ?_
                  refine zw_stk hm_53 dX4_raiseTop_18 (st₉ := [.inl ((mI S5 92 v2.toNatClampNeg) + (mI S5 t 2)), .inl v2, .inr (.inr (some 92))]) rfl rfl ?_
                  obtain ⟨hg, h⟩ := h
                  refine zw_ias hm_53 dX4_raiseTop_19 (zT_is hS5 s_92) (zT_h hS5 s_92) rfl hg ?_
                  refine zw_vret hm_53 dX4_raiseTop_20 ?_
                  show ma_wp X d w 51 68 [(2, .inl v2), (0, .inr (.inr (some 91))), (1, .inr (.inr (some t)))] [] (ma_put S5 92 v2.toNatClampNeg (.inl ((mI S5 92 v2.toNatClampNeg) + (mI S5 t 2)))) _
                  refine zw_push hm_51 dX4_moveOut_68 (v := .inl (1 : Int32)) rfl ?_
                  exact zw_bret hm_51 dX4_moveOut_69 (by decide) h
            · intro x S9 hx
              exact ⟨by decide, hx⟩
          · intro hc
            rw [if_neg hc] at h
            refine zw_push hm_50 dX4_topOf_10 (v := .inr (.inr (some 91))) rfl ?_
            refine zw_gf hm_50 dX4_topOf_11 (v := .inr (.inr (some 92))) (zT_is (zT_pi hS1) s_91) (zT_t (zT_pi hS1) s_91) rfl f_4_9_4 (zT_f (zT_pi hS1) r_91_7) ?_
            refine zw_push hm_50 dX4_topOf_14 (v := .inl v2) rfl ?_
            obtain ⟨hg, h⟩ := h
            refine zw_ia hm_50 dX4_topOf_15 (zT_is (zT_pi hS1) s_92) (zT_h (zT_pi hS1) s_92) rfl hg ?_
            show ma_wp X (d - 1) (w - 21) 50 16 [(0, .inr (.inr (some 91))), (1, .inl v2)] [.inl (mI S1 92 v2.toNatClampNeg)] (ma_put S1 91 6 (.inl v2)) _
            refine zw_goto hm_50 dX4_topOf_16 (t := 20) rfl ?_
            refine zw_iret hm_50 dX4_topOf_20 ?_
            show ma_wp X d w 51 55 [(2, .inl v2), (0, .inr (.inr (some 91))), (1, .inr (.inr (some t)))] [.inl (mI S1 92 v2.toNatClampNeg), .inl (v2 * (mI S1 91 2)), .inr (.inr (some t)), .inr (.inr (some 69))] (ma_put S1 91 6 (.inl v2)) _
            refine zw_stk hm_51 dX4_moveOut_55 (st₉ := [.inl ((v2 * (mI S1 91 2)) + (mI S1 92 v2.toNatClampNeg)), .inr (.inr (some t)), .inr (.inr (some 69))]) rfl rfl ?_
            refine zw_cv hm_51 dX4_moveOut_56 v_4_127_7 hm_90 [.inl ((v2 * (mI S1 91 2)) + (mI S1 92 v2.toNatClampNeg)), .inr (.inr (some t))] [] rfl (zT_rt (zT_pi hS1) s_69 rfl) ⟨by omega, by omega⟩ rfl (zw_mono h (zv_go ?_ ?_))
            · intro S7 hv
              obtain ⟨hS7, h⟩ := hv
              refine zw_push hm_51 dX4_moveOut_59 (v := .inr (.inr (some 91))) rfl ?_
              refine zw_push hm_51 dX4_moveOut_60 (v := .inl v2) rfl ?_
              refine zw_push hm_51 dX4_moveOut_61 (v := .inr (.inr (some t))) rfl ?_
              obtain ⟨hg, h⟩ := h
              refine zw_gf hm_51 dX4_moveOut_62 (v := .inl (mI S7 t 2)) (zT_tis hS7 hg) (zT_tt hS7 hg) rfl f_4_63_9 rfl ?_
              refine zw_cv hm_51 dX4_moveOut_65 v_4_66_4 hm_53 [.inl (mI S7 t 2), .inl v2] [] rfl (zT_rt hS7 s_91 rfl) ⟨by omega, by omega⟩ rfl ?_
              show ma_wp X (d - 1) (w - 22) 53 0 [(0, .inr (.inr (some 91))), (1, .inl v2), (2, .inl (mI S7 t 2))] [] S7 _
              refine zw_push hm_53 dX4_raiseTop_0 (v := .inl v2) rfl ?_
              refine zw_if0 hm_53 dX4_raiseTop_1 (t := 20) rfl zc0_lt ?_ ?_
              · intro hc
                rw [if_pos hc] at h
                refine zw_vret hm_53 dX4_raiseTop_20 ?_
                show ma_wp X d w 51 68 [(2, .inl v2), (0, .inr (.inr (some 91))), (1, .inr (.inr (some t)))] [] S7 _
                refine zw_push hm_51 dX4_moveOut_68 (v := .inl (1 : Int32)) rfl ?_
                exact zw_bret hm_51 dX4_moveOut_69 (by decide) h
              · intro hc
                rw [if_neg hc] at h
                refine zw_push hm_53 dX4_raiseTop_4 (v := .inl v2) rfl ?_
                refine zw_push hm_53 dX4_raiseTop_5 (v := .inl (93 : Int32)) rfl ?_
                refine zw_if2 hm_53 dX4_raiseTop_7 (t := 20) rfl zc2_ge ?_ ?_
                · intro hc
                  rw [if_pos hc] at h
                  refine zw_vret hm_53 dX4_raiseTop_20 ?_
                  show ma_wp X d w 51 68 [(2, .inl v2), (0, .inr (.inr (some 91))), (1, .inr (.inr (some t)))] [] S7 _
                  refine zw_push hm_51 dX4_moveOut_68 (v := .inl (1 : Int32)) rfl ?_
                  exact zw_bret hm_51 dX4_moveOut_69 (by decide) h
                · intro hc
                  rw [if_neg hc] at h
                  refine zw_push hm_53 dX4_raiseTop_10 (v := .inr (.inr (some 91))) rfl ?_
                  refine zw_gf hm_53 dX4_raiseTop_11 (v := .inr (.inr (some 92))) (zT_is hS7 s_91) (zT_t hS7 s_91) rfl f_4_9_4 (zT_f hS7 r_91_7) ?_
                  refine zw_push hm_53 dX4_raiseTop_14 (v := .inl v2) rfl ?_
                  refine zw_stk hm_53 dX4_raiseTop_15 (st₉ := [.inl v2, .inr (.inr (some 92)), .inl v2, .inr (.inr (some 92))]) rfl rfl ?_
                  obtain ⟨hg, h⟩ := h
                  refine zw_ia hm_53 dX4_raiseTop_16 (zT_is hS7 s_92) (zT_h hS7 s_92) rfl hg ?_
                  show ma_wp X (d - 1) (w - 22) 53 17 [(0, .inr (.inr (some 91))), (1, .inl v2), (2, .inl (mI S7 t 2))] [.inl (mI S7 92 v2.toNatClampNeg), .inl v2, .inr (.inr (some 92))] S7 _
                  refine zw_push hm_53 dX4_raiseTop_17 (v := .inl (mI S7 t 2)) rfl ?_
                  refine zw_stk hm_53 dX4_raiseTop_18 (st₉ := [.inl ((mI S7 92 v2.toNatClampNeg) + (mI S7 t 2)), .inl v2, .inr (.inr (some 92))]) rfl rfl ?_
                  obtain ⟨hg, h⟩ := h
                  refine zw_ias hm_53 dX4_raiseTop_19 (zT_is hS7 s_92) (zT_h hS7 s_92) rfl hg ?_
                  refine zw_vret hm_53 dX4_raiseTop_20 ?_
                  show ma_wp X d w 51 68 [(2, .inl v2), (0, .inr (.inr (some 91))), (1, .inr (.inr (some t)))] [] (ma_put S7 92 v2.toNatClampNeg (.inl ((mI S7 92 v2.toNatClampNeg) + (mI S7 t 2)))) _
                  refine zw_push hm_51 dX4_moveOut_68 (v := .inl (1 : Int32)) rfl ?_
                  exact zw_bret hm_51 dX4_moveOut_69 (by decide) h
            · intro x S9 hx
              exact ⟨by decide, hx⟩
      · intro hc
        rw [if_pos (Classical.not_not.mp hc)] at h
        refine zw_push hm_51 dX4_moveOut_32 (v := .inl (0 : Int32)) rfl ?_
        exact zw_bret hm_51 dX4_moveOut_33 (by decide) h
    · intro x S9 hx
      exact ⟨by decide, hx⟩
  · intro hc
    rw [if_neg hc] at h
    refine zw_push hm_41 dX4_fits_4 (v := .inl (mI S 91 6)) rfl ?_
    refine zw_push hm_41 dX4_fits_5 (v := .inl (93 : Int32)) rfl ?_
    refine zw_if2 hm_41 dX4_fits_7 (t := 29) rfl zc2_ge ?_ ?_
    · intro hc
      rw [if_pos hc] at h
      refine zw_push hm_41 dX4_fits_29 (v := .inl (0 : Int32)) rfl ?_
      refine zw_bret hm_41 dX4_fits_30 (by decide) ?_
      show ma_wp X d w 51 12 [(0, .inr (.inr (some 91))), (1, .inr (.inr (some t)))] [.inl (0 : Int32)] S _
      refine zw_if0 hm_51 dX4_moveOut_12 (t := 22) rfl zc0_eq (fun _ => ?_) (fun hc => absurd (by decide) hc)
      refine zw_push hm_51 dX4_moveOut_22 (v := .inr (.inr (some 91))) rfl ?_
      refine zw_cv hm_51 dX4_moveOut_23 v_4_54_4 hm_52 [] [] rfl (zT_rt hS s_91 rfl) ⟨by omega, by omega⟩ rfl (zw_mono h (zi_go ?_ ?_))
      · intro v10 S9 hv
        obtain ⟨hS9, h⟩ := hv
        refine zw_sto hm_51 dX4_moveOut_26 [(2, .inl v10), (0, .inr (.inr (some 91))), (1, .inr (.inr (some t)))] rfl rfl rfl ?_
        refine zw_push hm_51 dX4_moveOut_27 (v := .inl v10) rfl ?_
        refine zw_push hm_51 dX4_moveOut_28 (v := .inl (-1 : Int32)) rfl ?_
        refine zw_if2 hm_51 dX4_moveOut_29 (t := 34) rfl zc2_ne ?_ ?_
        · intro hc
          rw [if_neg hc] at h
          refine zw_push hm_51 dX4_moveOut_34 (v := .inr (.inr (some 91))) rfl ?_
          refine zw_push hm_51 dX4_moveOut_35 (v := .inl v10) rfl ?_
          refine zw_pf hm_51 dX4_moveOut_36 (zT_is hS9 s_91) (zT_t hS9 s_91) p_4_83_4 zk_int ?_
          refine zw_push hm_51 dX4_moveOut_39 (v := .inr (.inr (some 91))) rfl ?_
          refine zw_gf hm_51 dX4_moveOut_40 (v := .inr (.inr (some 69))) (zT_is (zT_pi hS9) s_91) (zT_t (zT_pi hS9) s_91) rfl f_4_100_4 (zT_f (zT_pi hS9) r_91_0) ?_
          refine zw_push hm_51 dX4_moveOut_43 (v := .inr (.inr (some t))) rfl ?_
          refine zw_push hm_51 dX4_moveOut_44 (v := .inl v10) rfl ?_
          refine zw_push hm_51 dX4_moveOut_45 (v := .inr (.inr (some 91))) rfl ?_
          refine zw_gf hm_51 dX4_moveOut_46 (v := .inl (mI S9 91 2)) (zT_is (zT_pi hS9) s_91) (zT_t (zT_pi hS9) s_91) rfl f_4_18_4 rfl ?_
          refine zw_stk hm_51 dX4_moveOut_49 (st₉ := [.inl (v10 * (mI S9 91 2)), .inr (.inr (some t)), .inr (.inr (some 69))]) rfl rfl ?_
          refine zw_push hm_51 dX4_moveOut_50 (v := .inr (.inr (some 91))) rfl ?_
          refine zw_push hm_51 dX4_moveOut_51 (v := .inl v10) rfl ?_
          refine zw_cv hm_51 dX4_moveOut_52 v_4_93_4 hm_50 [.inl v10] [.inl (v10 * (mI S9 91 2)), .inr (.inr (some t)), .inr (.inr (some 69))] rfl (zT_rt (zT_pi hS9) s_91 rfl) ⟨by omega, by omega⟩ rfl ?_
          show ma_wp X (d - 1) (w - 21) 50 0 [(0, .inr (.inr (some 91))), (1, .inl v10)] [] (ma_put S9 91 6 (.inl v10)) _
          refine zw_push hm_50 dX4_topOf_0 (v := .inl v10) rfl ?_
          refine zw_if0 hm_50 dX4_topOf_1 (t := 19) rfl zc0_lt ?_ ?_
          · intro hc
            rw [if_pos hc] at h
            refine zw_push hm_50 dX4_topOf_19 (v := .inl (0 : Int32)) rfl ?_
            refine zw_iret hm_50 dX4_topOf_20 ?_
            show ma_wp X d w 51 55 [(2, .inl v10), (0, .inr (.inr (some 91))), (1, .inr (.inr (some t)))] [.inl (0 : Int32), .inl (v10 * (mI S9 91 2)), .inr (.inr (some t)), .inr (.inr (some 69))] (ma_put S9 91 6 (.inl v10)) _
            refine zw_stk hm_51 dX4_moveOut_55 (st₉ := [.inl ((v10 * (mI S9 91 2)) + (0 : Int32)), .inr (.inr (some t)), .inr (.inr (some 69))]) rfl rfl ?_
            refine zw_cv hm_51 dX4_moveOut_56 v_4_127_7 hm_90 [.inl ((v10 * (mI S9 91 2)) + (0 : Int32)), .inr (.inr (some t))] [] rfl (zT_rt (zT_pi hS9) s_69 rfl) ⟨by omega, by omega⟩ rfl (zw_mono h (zv_go ?_ ?_))
            · intro S11 hv
              obtain ⟨hS11, h⟩ := hv
              refine zw_push hm_51 dX4_moveOut_59 (v := .inr (.inr (some 91))) rfl ?_
              refine zw_push hm_51 dX4_moveOut_60 (v := .inl v10) rfl ?_
              refine zw_push hm_51 dX4_moveOut_61 (v := .inr (.inr (some t))) rfl ?_
              obtain ⟨hg, h⟩ := h
              refine zw_gf hm_51 dX4_moveOut_62 (v := .inl (mI S11 t 2)) (zT_tis hS11 hg) (zT_tt hS11 hg) rfl f_4_63_9 rfl ?_
              refine zw_cv hm_51 dX4_moveOut_65 v_4_66_4 hm_53 [.inl (mI S11 t 2), .inl v10] [] rfl (zT_rt hS11 s_91 rfl) ⟨by omega, by omega⟩ rfl ?_
              show ma_wp X (d - 1) (w - 22) 53 0 [(0, .inr (.inr (some 91))), (1, .inl v10), (2, .inl (mI S11 t 2))] [] S11 _
              refine zw_push hm_53 dX4_raiseTop_0 (v := .inl v10) rfl ?_
              refine zw_if0 hm_53 dX4_raiseTop_1 (t := 20) rfl zc0_lt ?_ ?_
              · intro hc
                rw [if_pos hc] at h
                refine zw_vret hm_53 dX4_raiseTop_20 ?_
                show ma_wp X d w 51 68 [(2, .inl v10), (0, .inr (.inr (some 91))), (1, .inr (.inr (some t)))] [] S11 _
                refine zw_push hm_51 dX4_moveOut_68 (v := .inl (1 : Int32)) rfl ?_
                exact zw_bret hm_51 dX4_moveOut_69 (by decide) h
              · intro hc
                rw [if_neg hc] at h
                refine zw_push hm_53 dX4_raiseTop_4 (v := .inl v10) rfl ?_
                refine zw_push hm_53 dX4_raiseTop_5 (v := .inl (93 : Int32)) rfl ?_
                refine zw_if2 hm_53 dX4_raiseTop_7 (t := 20) rfl zc2_ge ?_ ?_
                · intro hc
                  rw [if_pos hc] at h
                  refine zw_vret hm_53 dX4_raiseTop_20 ?_
                  show ma_wp X d w 51 68 [(2, .inl v10), (0, .inr (.inr (some 91))), (1, .inr (.inr (some t)))] [] S11 _
                  refine zw_push hm_51 dX4_moveOut_68 (v := .inl (1 : Int32)) rfl ?_
                  exact zw_bret hm_51 dX4_moveOut_69 (by decide) h
                · intro hc
                  rw [if_neg hc] at h
                  refine zw_push hm_53 dX4_raiseTop_10 (v := .inr (.inr (some 91))) rfl ?_
                  refine zw_gf hm_53 dX4_raiseTop_11 (v := .inr (.inr (some 92))) (zT_is hS11 s_91) (zT_t hS11 s_91) rfl f_4_9_4 (zT_f hS11 r_91_7) ?_
                  refine zw_push hm_53 dX4_raiseTop_14 (v := .inl v10) rfl ?_
                  refine zw_stk hm_53 dX4_raiseTop_15 (st₉ := [.inl v10, .inr (.inr (some 92)), .inl v10, .inr (.inr (some 92))]) rfl rfl ?_
                  obtain ⟨hg, h⟩ := h
                  refine zw_ia hm_53 dX4_raiseTop_16 (zT_is hS11 s_92) (zT_h hS11 s_92) rfl hg ?_
                  show ma_wp X (d - 1) (w - 22) 53 17 [(0, .inr (.inr (some 91))), (1, .inl v10), (2, .inl (mI S11 t 2))] [.inl (mI S11 92 v10.toNatClampNeg), .inl v10, .inr (.inr (some 92))] S11 _
                  refine zw_push hm_53 dX4_raiseTop_17 (v := .inl (mI S11 t 2)) rfl ?_
                  refine zw_stk hm_53 dX4_raiseTop_18 (st₉ := [.inl ((mI S11 92 v10.toNatClampNeg) + (mI S11 t 2)), .inl v10, .inr (.inr (some 92))]) rfl rfl ?_
                  obtain ⟨hg, h⟩ := h
                  refine zw_ias hm_53 dX4_raiseTop_19 (zT_is hS11 s_92) (zT_h hS11 s_92) rfl hg ?_
                  refine zw_vret hm_53 dX4_raiseTop_20 ?_
                  show ma_wp X d w 51 68 [(2, .inl v10), (0, .inr (.inr (some 91))), (1, .inr (.inr (some t)))] [] (ma_put S11 92 v10.toNatClampNeg (.inl ((mI S11 92 v10.toNatClampNeg) + (mI S11 t 2)))) _
                  refine zw_push hm_51 dX4_moveOut_68 (v := .inl (1 : Int32)) rfl ?_
                  exact zw_bret hm_51 dX4_moveOut_69 (by decide) h
            · intro x S9 hx
              exact ⟨by decide, hx⟩
          · intro hc
            rw [if_neg hc] at h
            refine zw_push hm_50 dX4_topOf_4 (v := .inl v10) rfl ?_
            refine zw_push hm_50 dX4_topOf_5 (v := .inl (93 : Int32)) rfl ?_
            refine zw_if2 hm_50 dX4_topOf_7 (t := 19) rfl zc2_ge ?_ ?_
            · intro hc
              rw [if_pos hc] at h
              refine zw_push hm_50 dX4_topOf_19 (v := .inl (0 : Int32)) rfl ?_
              refine zw_iret hm_50 dX4_topOf_20 ?_
              show ma_wp X d w 51 55 [(2, .inl v10), (0, .inr (.inr (some 91))), (1, .inr (.inr (some t)))] [.inl (0 : Int32), .inl (v10 * (mI S9 91 2)), .inr (.inr (some t)), .inr (.inr (some 69))] (ma_put S9 91 6 (.inl v10)) _
              refine zw_stk hm_51 dX4_moveOut_55 (st₉ := [.inl ((v10 * (mI S9 91 2)) + (0 : Int32)), .inr (.inr (some t)), .inr (.inr (some 69))]) rfl rfl ?_
              refine zw_cv hm_51 dX4_moveOut_56 v_4_127_7 hm_90 [.inl ((v10 * (mI S9 91 2)) + (0 : Int32)), .inr (.inr (some t))] [] rfl (zT_rt (zT_pi hS9) s_69 rfl) ⟨by omega, by omega⟩ rfl (zw_mono h (zv_go ?_ ?_))
              · intro S13 hv
                obtain ⟨hS13, h⟩ := hv
                refine zw_push hm_51 dX4_moveOut_59 (v := .inr (.inr (some 91))) rfl ?_
                refine zw_push hm_51 dX4_moveOut_60 (v := .inl v10) rfl ?_
                refine zw_push hm_51 dX4_moveOut_61 (v := .inr (.inr (some t))) rfl ?_
                obtain ⟨hg, h⟩ := h
                refine zw_gf hm_51 dX4_moveOut_62 (v := .inl (mI S13 t 2)) (zT_tis hS13 hg) (zT_tt hS13 hg) rfl f_4_63_9 rfl ?_
                refine zw_cv hm_51 dX4_moveOut_65 v_4_66_4 hm_53 [.inl (mI S13 t 2), .inl v10] [] rfl (zT_rt hS13 s_91 rfl) ⟨by omega, by omega⟩ rfl ?_
                show ma_wp X (d - 1) (w - 22) 53 0 [(0, .inr (.inr (some 91))), (1, .inl v10), (2, .inl (mI S13 t 2))] [] S13 _
                refine zw_push hm_53 dX4_raiseTop_0 (v := .inl v10) rfl ?_
                refine zw_if0 hm_53 dX4_raiseTop_1 (t := 20) rfl zc0_lt ?_ ?_
                · intro hc
                  rw [if_pos hc] at h
                  refine zw_vret hm_53 dX4_raiseTop_20 ?_
                  show ma_wp X d w 51 68 [(2, .inl v10), (0, .inr (.inr (some 91))), (1, .inr (.inr (some t)))] [] S13 _
                  refine zw_push hm_51 dX4_moveOut_68 (v := .inl (1 : Int32)) rfl ?_
                  exact zw_bret hm_51 dX4_moveOut_69 (by decide) h
                · intro hc
                  rw [if_neg hc] at h
                  refine zw_push hm_53 dX4_raiseTop_4 (v := .inl v10) rfl ?_
                  refine zw_push hm_53 dX4_raiseTop_5 (v := .inl (93 : Int32)) rfl ?_
                  refine zw_if2 hm_53 dX4_raiseTop_7 (t := 20) rfl zc2_ge ?_ ?_
                  · intro hc
                    rw [if_pos hc] at h
                    refine zw_vret hm_53 dX4_raiseTop_20 ?_
                    show ma_wp X d w 51 68 [(2, .inl v10), (0, .inr (.inr (some 91))), (1, .inr (.inr (some t)))] [] S13 _
                    refine zw_push hm_51 dX4_moveOut_68 (v := .inl (1 : Int32)) rfl ?_
                    exact zw_bret hm_51 dX4_moveOut_69 (by decide) h
                  · intro hc
                    rw [if_neg hc] at h
                    refine zw_push hm_53 dX4_raiseTop_10 (v := .inr (.inr (some 91))) rfl ?_
                    refine zw_gf hm_53 dX4_raiseTop_11 (v := .inr (.inr (some 92))) (zT_is hS13 s_91) (zT_t hS13 s_91) rfl f_4_9_4 (zT_f hS13 r_91_7) ?_
                    refine zw_push hm_53 dX4_raiseTop_14 (v := .inl v10) rfl ?_
                    refine zw_stk hm_53 dX4_raiseTop_15 (st₉ := [.inl v10, .inr (.inr (some 92)), .inl v10, .inr (.inr (some 92))]) rfl rfl ?_
                    obtain ⟨hg, h⟩ := h
                    refine zw_ia hm_53 dX4_raiseTop_16 (zT_is hS13 s_92) (zT_h hS13 s_92) rfl hg ?_
                    show ma_wp X (d - 1) (w - 22) 53 17 [(0, .inr (.inr (some 91))), (1, .inl v10), (2, .inl (mI S13 t 2))] [.inl (mI S13 92 v10.toNatClampNeg), .inl v10, .inr (.inr (some 92))] S13 _
                    refine zw_push hm_53 dX4_raiseTop_17 (v := .inl (mI S13 t 2)) rfl ?_
                    refine zw_stk hm_53 dX4_raiseTop_18 (st₉ := [.inl ((mI S13 92 v10.toNatClampNeg) + (mI S13 t 2)), .inl v10, .inr (.inr (some 92))]) rfl rfl ?_
                    obtain ⟨hg, h⟩ := h
                    refine zw_ias hm_53 dX4_raiseTop_19 (zT_is hS13 s_92) (zT_h hS13 s_92) rfl hg ?_
                    refine zw_vret hm_53 dX4_raiseTop_20 ?_
                    show ma_wp X d w 51 68 [(2, .inl v10), (0, .inr (.inr (some 91))), (1, .inr (.inr (some t)))] [] (ma_put S13 92 v10.toNatClampNeg (.inl ((mI S13 92 v10.toNatClampNeg) + (mI S13 t 2)))) _
                    refine zw_push hm_51 dX4_moveOut_68 (v := .inl (1 : Int32)) rfl ?_
                    exact zw_bret hm_51 dX4_moveOut_69 (by decide) h
              · intro x S9 hx
                exact ⟨by decide, hx⟩
            · intro hc
              rw [if_neg hc] at h
              refine zw_push hm_50 dX4_topOf_10 (v := .inr (.inr (some 91))) rfl ?_
              refine zw_gf hm_50 dX4_topOf_11 (v := .inr (.inr (some 92))) (zT_is (zT_pi hS9) s_91) (zT_t (zT_pi hS9) s_91) rfl f_4_9_4 (zT_f (zT_pi hS9) r_91_7) ?_
              refine zw_push hm_50 dX4_topOf_14 (v := .inl v10) rfl ?_
              obtain ⟨hg, h⟩ := h
              refine zw_ia hm_50 dX4_topOf_15 (zT_is (zT_pi hS9) s_92) (zT_h (zT_pi hS9) s_92) rfl hg ?_
              show ma_wp X (d - 1) (w - 21) 50 16 [(0, .inr (.inr (some 91))), (1, .inl v10)] [.inl (mI S9 92 v10.toNatClampNeg)] (ma_put S9 91 6 (.inl v10)) _
              refine zw_goto hm_50 dX4_topOf_16 (t := 20) rfl ?_
              refine zw_iret hm_50 dX4_topOf_20 ?_
              show ma_wp X d w 51 55 [(2, .inl v10), (0, .inr (.inr (some 91))), (1, .inr (.inr (some t)))] [.inl (mI S9 92 v10.toNatClampNeg), .inl (v10 * (mI S9 91 2)), .inr (.inr (some t)), .inr (.inr (some 69))] (ma_put S9 91 6 (.inl v10)) _
              refine zw_stk hm_51 dX4_moveOut_55 (st₉ := [.inl ((v10 * (mI S9 91 2)) + (mI S9 92 v10.toNatClampNeg)), .inr (.inr (some t)), .inr (.inr (some 69))]) rfl rfl ?_
              refine zw_cv hm_51 dX4_moveOut_56 v_4_127_7 hm_90 [.inl ((v10 * (mI S9 91 2)) + (mI S9 92 v10.toNatClampNeg)), .inr (.inr (some t))] [] rfl (zT_rt (zT_pi hS9) s_69 rfl) ⟨by omega, by omega⟩ rfl (zw_mono h (zv_go ?_ ?_))
              · intro S15 hv
                obtain ⟨hS15, h⟩ := hv
                refine zw_push hm_51 dX4_moveOut_59 (v := .inr (.inr (some 91))) rfl ?_
                refine zw_push hm_51 dX4_moveOut_60 (v := .inl v10) rfl ?_
                refine zw_push hm_51 dX4_moveOut_61 (v := .inr (.inr (some t))) rfl ?_
                obtain ⟨hg, h⟩ := h
                refine zw_gf hm_51 dX4_moveOut_62 (v := .inl (mI S15 t 2)) (zT_tis hS15 hg) (zT_tt hS15 hg) rfl f_4_63_9 rfl ?_
                refine zw_cv hm_51 dX4_moveOut_65 v_4_66_4 hm_53 [.inl (mI S15 t 2), .inl v10] [] rfl (zT_rt hS15 s_91 rfl) ⟨by omega, by omega⟩ rfl ?_
                show ma_wp X (d - 1) (w - 22) 53 0 [(0, .inr (.inr (some 91))), (1, .inl v10), (2, .inl (mI S15 t 2))] [] S15 _
                refine zw_push hm_53 dX4_raiseTop_0 (v := .inl v10) rfl ?_
                refine zw_if0 hm_53 dX4_raiseTop_1 (t := 20) rfl zc0_lt ?_ ?_
                · intro hc
                  rw [if_pos hc] at h
                  refine zw_vret hm_53 dX4_raiseTop_20 ?_
                  show ma_wp X d w 51 68 [(2, .inl v10), (0, .inr (.inr (some 91))), (1, .inr (.inr (some t)))] [] S15 _
                  refine zw_push hm_51 dX4_moveOut_68 (v := .inl (1 : Int32)) rfl ?_
                  exact zw_bret hm_51 dX4_moveOut_69 (by decide) h
                · intro hc
                  rw [if_neg hc] at h
                  refine zw_push hm_53 dX4_raiseTop_4 (v := .inl v10) rfl ?_
                  refine zw_push hm_53 dX4_raiseTop_5 (v := .inl (93 : Int32)) rfl ?_
                  refine zw_if2 hm_53 dX4_raiseTop_7 (t := 20) rfl zc2_ge ?_ ?_
                  · intro hc
                    rw [if_pos hc] at h
                    refine zw_vret hm_53 dX4_raiseTop_20 ?_
                    show ma_wp X d w 51 68 [(2, .inl v10), (0, .inr (.inr (some 91))), (1, .inr (.inr (some t)))] [] S15 _
                    refine zw_push hm_51 dX4_moveOut_68 (v := .inl (1 : Int32)) rfl ?_
                    exact zw_bret hm_51 dX4_moveOut_69 (by decide) h
                  · intro hc
                    rw [if_neg hc] at h
                    refine zw_push hm_53 dX4_raiseTop_10 (v := .inr (.inr (some 91))) rfl ?_
                    refine zw_gf hm_53 dX4_raiseTop_11 (v := .inr (.inr (some 92))) (zT_is hS15 s_91) (zT_t hS15 s_91) rfl f_4_9_4 (zT_f hS15 r_91_7) ?_
                    refine zw_push hm_53 dX4_raiseTop_14 (v := .inl v10) rfl ?_
                    refine zw_stk hm_53 dX4_raiseTop_15 (st₉ := [.inl v10, .inr (.inr (some 92)), .inl v10, .inr (.inr (some 92))]) rfl rfl ?_
                    obtain ⟨hg, h⟩ := h
                    refine zw_ia hm_53 dX4_raiseTop_16 (zT_is hS15 s_92) (zT_h hS15 s_92) rfl hg ?_
                    show ma_wp X (d - 1) (w - 22) 53 17 [(0, .inr (.inr (some 91))), (1, .inl v10), (2, .inl (mI S15 t 2))] [.inl (mI S15 92 v10.toNatClampNeg), .inl v10, .inr (.inr (some 92))] S15 _
                    refine zw_push hm_53 dX4_raiseTop_17 (v := .inl (mI S15 t 2)) rfl ?_
                    refine zw_stk hm_53 dX4_raiseTop_18 (st₉ := [.inl ((mI S15 92 v10.toNatClampNeg) + (mI S15 t 2)), .inl v10, .inr (.inr (some 92))]) rfl rfl ?_
                    obtain ⟨hg, h⟩ := h
                    refine zw_ias hm_53 dX4_raiseTop_19 (zT_is hS15 s_92) (zT_h hS15 s_92) rfl hg ?_
                    refine zw_vret hm_53 dX4_raiseTop_20 ?_
                    show ma_wp X d w 51 68 [(2, .inl v10), (0, .inr (.inr (some 91))), (1, .inr (.inr (some t)))] [] (ma_put S15 92 v10.toNatClampNeg (.inl ((mI S15 92 v10.toNatClampNeg) + (mI S15 t 2)))) _
                    refine zw_push hm_51 dX4_moveOut_68 (v := .inl (1 : Int32)) rfl ?_
                    exact zw_bret hm_51 dX4_moveOut_69 (by decide) h
              · intro x S9 hx
                exact ⟨by decide, hx⟩
        · intro hc
          rw [if_pos (Classical.not_not.mp hc)] at h
          refine zw_push hm_51 dX4_moveOut_32 (v := .inl (0 : Int32)) rfl ?_
          exact zw_bret hm_51 dX4_moveOut_33 (by decide) h
      · intro x S9 hx
        exact ⟨by decide, hx⟩
    · intro hc
      rw [if_neg hc] at h
      refine zw_push hm_41 dX4_fits_10 (v := .inr (.inr (some 91))) rfl ?_
      refine zw_gf hm_41 dX4_fits_11 (v := .inr (.inr (some 92))) (zT_is hS s_91) (zT_t hS s_91) rfl f_4_9_4 (zT_f hS r_91_7) ?_
      refine zw_push hm_41 dX4_fits_14 (v := .inl (mI S 91 6)) rfl ?_
      obtain ⟨hg, h⟩ := h
      refine zw_ia hm_41 dX4_fits_15 (zT_is hS s_92) (zT_h hS s_92) rfl hg ?_
      show ma_wp X (d - 1) (w - 22) 41 16 [(0, .inr (.inr (some 91))), (1, .inl (mI S 91 6)), (2, .inl (mI S t 2))] [.inl (mI S 92 (mI S 91 6).toNatClampNeg)] S _
      refine zw_push hm_41 dX4_fits_16 (v := .inl (mI S t 2)) rfl ?_
      refine zw_stk hm_41 dX4_fits_17 (st₉ := [.inl ((mI S 92 (mI S 91 6).toNatClampNeg) + (mI S t 2))]) rfl rfl ?_
      refine zw_push hm_41 dX4_fits_18 (v := .inr (.inr (some 91))) rfl ?_
      refine zw_gf hm_41 dX4_fits_19 (v := .inl (mI S 91 2)) (zT_is hS s_91) (zT_t hS s_91) rfl f_4_18_4 rfl ?_
      refine zw_if2 hm_41 dX4_fits_22 (t := 29) rfl zc2_gt ?_ ?_
      · intro hc
        rw [if_pos hc] at h
        refine zw_push hm_41 dX4_fits_29 (v := .inl (0 : Int32)) rfl ?_
        refine zw_bret hm_41 dX4_fits_30 (by decide) ?_
        show ma_wp X d w 51 12 [(0, .inr (.inr (some 91))), (1, .inr (.inr (some t)))] [.inl (0 : Int32)] S _
        refine zw_if0 hm_51 dX4_moveOut_12 (t := 22) rfl zc0_eq (fun _ => ?_) (fun hc => absurd (by decide) hc)
        refine zw_push hm_51 dX4_moveOut_22 (v := .inr (.inr (some 91))) rfl ?_
        refine zw_cv hm_51 dX4_moveOut_23 v_4_54_4 hm_52 [] [] rfl (zT_rt hS s_91 rfl) ⟨by omega, by omega⟩ rfl (zw_mono h (zi_go ?_ ?_))
        · intro v18 S17 hv
          obtain ⟨hS17, h⟩ := hv
          refine zw_sto hm_51 dX4_moveOut_26 [(2, .inl v18), (0, .inr (.inr (some 91))), (1, .inr (.inr (some t)))] rfl rfl rfl ?_
          refine zw_push hm_51 dX4_moveOut_27 (v := .inl v18) rfl ?_
          refine zw_push hm_51 dX4_moveOut_28 (v := .inl (-1 : Int32)) rfl ?_
          refine zw_if2 hm_51 dX4_moveOut_29 (t := 34) rfl zc2_ne ?_ ?_
          · intro hc
            rw [if_neg hc] at h
            refine zw_push hm_51 dX4_moveOut_34 (v := .inr (.inr (some 91))) rfl ?_
            refine zw_push hm_51 dX4_moveOut_35 (v := .inl v18) rfl ?_
            refine zw_pf hm_51 dX4_moveOut_36 (zT_is hS17 s_91) (zT_t hS17 s_91) p_4_83_4 zk_int ?_
            refine zw_push hm_51 dX4_moveOut_39 (v := .inr (.inr (some 91))) rfl ?_
            refine zw_gf hm_51 dX4_moveOut_40 (v := .inr (.inr (some 69))) (zT_is (zT_pi hS17) s_91) (zT_t (zT_pi hS17) s_91) rfl f_4_100_4 (zT_f (zT_pi hS17) r_91_0) ?_
            refine zw_push hm_51 dX4_moveOut_43 (v := .inr (.inr (some t))) rfl ?_
            refine zw_push hm_51 dX4_moveOut_44 (v := .inl v18) rfl ?_
            refine zw_push hm_51 dX4_moveOut_45 (v := .inr (.inr (some 91))) rfl ?_
            refine zw_gf hm_51 dX4_moveOut_46 (v := .inl (mI S17 91 2)) (zT_is (zT_pi hS17) s_91) (zT_t (zT_pi hS17) s_91) rfl f_4_18_4 rfl ?_
            refine zw_stk hm_51 dX4_moveOut_49 (st₉ := [.inl (v18 * (mI S17 91 2)), .inr (.inr (some t)), .inr (.inr (some 69))]) rfl rfl ?_
            refine zw_push hm_51 dX4_moveOut_50 (v := .inr (.inr (some 91))) rfl ?_
            refine zw_push hm_51 dX4_moveOut_51 (v := .inl v18) rfl ?_
            refine zw_cv hm_51 dX4_moveOut_52 v_4_93_4 hm_50 [.inl v18] [.inl (v18 * (mI S17 91 2)), .inr (.inr (some t)), .inr (.inr (some 69))] rfl (zT_rt (zT_pi hS17) s_91 rfl) ⟨by omega, by omega⟩ rfl ?_
            show ma_wp X (d - 1) (w - 21) 50 0 [(0, .inr (.inr (some 91))), (1, .inl v18)] [] (ma_put S17 91 6 (.inl v18)) _
            refine zw_push hm_50 dX4_topOf_0 (v := .inl v18) rfl ?_
            refine zw_if0 hm_50 dX4_topOf_1 (t := 19) rfl zc0_lt ?_ ?_
            · intro hc
              rw [if_pos hc] at h
              refine zw_push hm_50 dX4_topOf_19 (v := .inl (0 : Int32)) rfl ?_
              refine zw_iret hm_50 dX4_topOf_20 ?_
              show ma_wp X d w 51 55 [(2, .inl v18), (0, .inr (.inr (some 91))), (1, .inr (.inr (some t)))] [.inl (0 : Int32), .inl (v18 * (mI S17 91 2)), .inr (.inr (some t)), .inr (.inr (some 69))] (ma_put S17 91 6 (.inl v18)) _
              refine zw_stk hm_51 dX4_moveOut_55 (st₉ := [.inl ((v18 * (mI S17 91 2)) + (0 : Int32)), .inr (.inr (some t)), .inr (.inr (some 69))]) rfl rfl ?_
              refine zw_cv hm_51 dX4_moveOut_56 v_4_127_7 hm_90 [.inl ((v18 * (mI S17 91 2)) + (0 : Int32)), .inr (.inr (some t))] [] rfl (zT_rt (zT_pi hS17) s_69 rfl) ⟨by omega, by omega⟩ rfl (zw_mono h (zv_go ?_ ?_))
              · intro S19 hv
                obtain ⟨hS19, h⟩ := hv
                refine zw_push hm_51 dX4_moveOut_59 (v := .inr (.inr (some 91))) rfl ?_
                refine zw_push hm_51 dX4_moveOut_60 (v := .inl v18) rfl ?_
                refine zw_push hm_51 dX4_moveOut_61 (v := .inr (.inr (some t))) rfl ?_
                obtain ⟨hg, h⟩ := h
                refine zw_gf hm_51 dX4_moveOut_62 (v := .inl (mI S19 t 2)) (zT_tis hS19 hg) (zT_tt hS19 hg) rfl f_4_63_9 rfl ?_
                refine zw_cv hm_51 dX4_moveOut_65 v_4_66_4 hm_53 [.inl (mI S19 t 2), .inl v18] [] rfl (zT_rt hS19 s_91 rfl) ⟨by omega, by omega⟩ rfl ?_
                show ma_wp X (d - 1) (w - 22) 53 0 [(0, .inr (.inr (some 91))), (1, .inl v18), (2, .inl (mI S19 t 2))] [] S19 _
                refine zw_push hm_53 dX4_raiseTop_0 (v := .inl v18) rfl ?_
                refine zw_if0 hm_53 dX4_raiseTop_1 (t := 20) rfl zc0_lt ?_ ?_
                · intro hc
                  rw [if_pos hc] at h
                  refine zw_vret hm_53 dX4_raiseTop_20 ?_
                  show ma_wp X d w 51 68 [(2, .inl v18), (0, .inr (.inr (some 91))), (1, .inr (.inr (some t)))] [] S19 _
                  refine zw_push hm_51 dX4_moveOut_68 (v := .inl (1 : Int32)) rfl ?_
                  exact zw_bret hm_51 dX4_moveOut_69 (by decide) h
                · intro hc
                  rw [if_neg hc] at h
                  refine zw_push hm_53 dX4_raiseTop_4 (v := .inl v18) rfl ?_
                  refine zw_push hm_53 dX4_raiseTop_5 (v := .inl (93 : Int32)) rfl ?_
                  refine zw_if2 hm_53 dX4_raiseTop_7 (t := 20) rfl zc2_ge ?_ ?_
                  · intro hc
                    rw [if_pos hc] at h
                    refine zw_vret hm_53 dX4_raiseTop_20 ?_
                    show ma_wp X d w 51 68 [(2, .inl v18), (0, .inr (.inr (some 91))), (1, .inr (.inr (some t)))] [] S19 _
                    refine zw_push hm_51 dX4_moveOut_68 (v := .inl (1 : Int32)) rfl ?_
                    exact zw_bret hm_51 dX4_moveOut_69 (by decide) h
                  · intro hc
                    rw [if_neg hc] at h
                    refine zw_push hm_53 dX4_raiseTop_10 (v := .inr (.inr (some 91))) rfl ?_
                    refine zw_gf hm_53 dX4_raiseTop_11 (v := .inr (.inr (some 92))) (zT_is hS19 s_91) (zT_t hS19 s_91) rfl f_4_9_4 (zT_f hS19 r_91_7) ?_
                    refine zw_push hm_53 dX4_raiseTop_14 (v := .inl v18) rfl ?_
                    refine zw_stk hm_53 dX4_raiseTop_15 (st₉ := [.inl v18, .inr (.inr (some 92)), .inl v18, .inr (.inr (some 92))]) rfl rfl ?_
                    obtain ⟨hg, h⟩ := h
                    refine zw_ia hm_53 dX4_raiseTop_16 (zT_is hS19 s_92) (zT_h hS19 s_92) rfl hg ?_
                    show ma_wp X (d - 1) (w - 22) 53 17 [(0, .inr (.inr (some 91))), (1, .inl v18), (2, .inl (mI S19 t 2))] [.inl (mI S19 92 v18.toNatClampNeg), .inl v18, .inr (.inr (some 92))] S19 _
                    refine zw_push hm_53 dX4_raiseTop_17 (v := .inl (mI S19 t 2)) rfl ?_
                    refine zw_stk hm_53 dX4_raiseTop_18 (st₉ := [.inl ((mI S19 92 v18.toNatClampNeg) + (mI S19 t 2)), .inl v18, .inr (.inr (some 92))]) rfl rfl ?_
                    obtain ⟨hg, h⟩ := h
                    refine zw_ias hm_53 dX4_raiseTop_19 (zT_is hS19 s_92) (zT_h hS19 s_92) rfl hg ?_
                    refine zw_vret hm_53 dX4_raiseTop_20 ?_
                    show ma_wp X d w 51 68 [(2, .inl v18), (0, .inr (.inr (some 91))), (1, .inr (.inr (some t)))] [] (ma_put S19 92 v18.toNatClampNeg (.inl ((mI S19 92 v18.toNatClampNeg) + (mI S19 t 2)))) _
                    refine zw_push hm_51 dX4_moveOut_68 (v := .inl (1 : Int32)) rfl ?_
                    exact zw_bret hm_51 dX4_moveOut_69 (by decide) h
              · intro x S9 hx
                exact ⟨by decide, hx⟩
            · intro hc
              rw [if_neg hc] at h
              refine zw_push hm_50 dX4_topOf_4 (v := .inl v18) rfl ?_
              refine zw_push hm_50 dX4_topOf_5 (v := .inl (93 : Int32)) rfl ?_
              refine zw_if2 hm_50 dX4_topOf_7 (t := 19) rfl zc2_ge ?_ ?_
              · intro hc
                rw [if_pos hc] at h
                refine zw_push hm_50 dX4_topOf_19 (v := .inl (0 : Int32)) rfl ?_
                refine zw_iret hm_50 dX4_topOf_20 ?_
                show ma_wp X d w 51 55 [(2, .inl v18), (0, .inr (.inr (some 91))), (1, .inr (.inr (some t)))] [.inl (0 : Int32), .inl (v18 * (mI S17 91 2)), .inr (.inr (some t)), .inr (.inr (some 69))] (ma_put S17 91 6 (.inl v18)) _
                refine zw_stk hm_51 dX4_moveOut_55 (st₉ := [.inl ((v18 * (mI S17 91 2)) + (0 : Int32)), .inr (.inr (some t)), .inr (.inr (some 69))]) rfl rfl ?_
                refine zw_cv hm_51 dX4_moveOut_56 v_4_127_7 hm_90 [.inl ((v18 * (mI S17 91 2)) + (0 : Int32)), .inr (.inr (some t))] [] rfl (zT_rt (zT_pi hS17) s_69 rfl) ⟨by omega, by omega⟩ rfl (zw_mono h (zv_go ?_ ?_))
                · intro S21 hv
                  obtain ⟨hS21, h⟩ := hv
                  refine zw_push hm_51 dX4_moveOut_59 (v := .inr (.inr (some 91))) rfl ?_
                  refine zw_push hm_51 dX4_moveOut_60 (v := .inl v18) rfl ?_
                  refine zw_push hm_51 dX4_moveOut_61 (v := .inr (.inr (some t))) rfl ?_
                  obtain ⟨hg, h⟩ := h
                  refine zw_gf hm_51 dX4_moveOut_62 (v := .inl (mI S21 t 2)) (zT_tis hS21 hg) (zT_tt hS21 hg) rfl f_4_63_9 rfl ?_
                  refine zw_cv hm_51 dX4_moveOut_65 v_4_66_4 hm_53 [.inl (mI S21 t 2), .inl v18] [] rfl (zT_rt hS21 s_91 rfl) ⟨by omega, by omega⟩ rfl ?_
                  show ma_wp X (d - 1) (w - 22) 53 0 [(0, .inr (.inr (some 91))), (1, .inl v18), (2, .inl (mI S21 t 2))] [] S21 _
                  refine zw_push hm_53 dX4_raiseTop_0 (v := .inl v18) rfl ?_
                  refine zw_if0 hm_53 dX4_raiseTop_1 (t := 20) rfl zc0_lt ?_ ?_
                  · intro hc
                    rw [if_pos hc] at h
                    refine zw_vret hm_53 dX4_raiseTop_20 ?_
                    show ma_wp X d w 51 68 [(2, .inl v18), (0, .inr (.inr (some 91))), (1, .inr (.inr (some t)))] [] S21 _
                    refine zw_push hm_51 dX4_moveOut_68 (v := .inl (1 : Int32)) rfl ?_
                    exact zw_bret hm_51 dX4_moveOut_69 (by decide) h
                  · intro hc
                    rw [if_neg hc] at h
                    refine zw_push hm_53 dX4_raiseTop_4 (v := .inl v18) rfl ?_
                    refine zw_push hm_53 dX4_raiseTop_5 (v := .inl (93 : Int32)) rfl ?_
                    refine zw_if2 hm_53 dX4_raiseTop_7 (t := 20) rfl zc2_ge ?_ ?_
                    · intro hc
                      rw [if_pos hc] at h
                      refine zw_vret hm_53 dX4_raiseTop_20 ?_
                      show ma_wp X d w 51 68 [(2, .inl v18), (0, .inr (.inr (some 91))), (1, .inr (.inr (some t)))] [] S21 _
                      refine zw_push hm_51 dX4_moveOut_68 (v := .inl (1 : Int32)) rfl ?_
                      exact zw_bret hm_51 dX4_moveOut_69 (by decide) h
                    · intro hc
                      rw [if_neg hc] at h
                      refine zw_push hm_53 dX4_raiseTop_10 (v := .inr (.inr (some 91))) rfl ?_
                      refine zw_gf hm_53 dX4_raiseTop_11 (v := .inr (.inr (some 92))) (zT_is hS21 s_91) (zT_t hS21 s_91) rfl f_4_9_4 (zT_f hS21 r_91_7) ?_
                      refine zw_push hm_53 dX4_raiseTop_14 (v := .inl v18) rfl ?_
                      refine zw_stk hm_53 dX4_raiseTop_15 (st₉ := [.inl v18, .inr (.inr (some 92)), .inl v18, .inr (.inr (some 92))]) rfl rfl ?_
                      obtain ⟨hg, h⟩ := h
                      refine zw_ia hm_53 dX4_raiseTop_16 (zT_is hS21 s_92) (zT_h hS21 s_92) rfl hg ?_
                      show ma_wp X (d - 1) (w - 22) 53 17 [(0, .inr (.inr (some 91))), (1, .inl v18), (2, .inl (mI S21 t 2))] [.inl (mI S21 92 v18.toNatClampNeg), .inl v18, .inr (.inr (some 92))] S21 _
                      refine zw_push hm_53 dX4_raiseTop_17 (v := .inl (mI S21 t 2)) rfl ?_
                      refine zw_stk hm_53 dX4_raiseTop_18 (st₉ := [.inl ((mI S21 92 v18.toNatClampNeg) + (mI S21 t 2)), .inl v18, .inr (.inr (some 92))]) rfl rfl ?_
                      obtain ⟨hg, h⟩ := h
                      refine zw_ias hm_53 dX4_raiseTop_19 (zT_is hS21 s_92) (zT_h hS21 s_92) rfl hg ?_
                      refine zw_vret hm_53 dX4_raiseTop_20 ?_
                      show ma_wp X d w 51 68 [(2, .inl v18), (0, .inr (.inr (some 91))), (1, .inr (.inr (some t)))] [] (ma_put S21 92 v18.toNatClampNeg (.inl ((mI S21 92 v18.toNatClampNeg) + (mI S21 t 2)))) _
                      refine zw_push hm_51 dX4_moveOut_68 (v := .inl (1 : Int32)) rfl ?_
                      exact zw_bret hm_51 dX4_moveOut_69 (by decide) h
                · intro x S9 hx
                  exact ⟨by decide, hx⟩
              · intro hc
                rw [if_neg hc] at h
                refine zw_push hm_50 dX4_topOf_10 (v := .inr (.inr (some 91))) rfl ?_
                refine zw_gf hm_50 dX4_topOf_11 (v := .inr (.inr (some 92))) (zT_is (zT_pi hS17) s_91) (zT_t (zT_pi hS17) s_91) rfl f_4_9_4 (zT_f (zT_pi hS17) r_91_7) ?_
                refine zw_push hm_50 dX4_topOf_14 (v := .inl v18) rfl ?_
                obtain ⟨hg, h⟩ := h
                refine zw_ia hm_50 dX4_topOf_15 (zT_is (zT_pi hS17) s_92) (zT_h (zT_pi hS17) s_92) rfl hg ?_
                show ma_wp X (d - 1) (w - 21) 50 16 [(0, .inr (.inr (some 91))), (1, .inl v18)] [.inl (mI S17 92 v18.toNatClampNeg)] (ma_put S17 91 6 (.inl v18)) _
                refine zw_goto hm_50 dX4_topOf_16 (t := 20) rfl ?_
                refine zw_iret hm_50 dX4_topOf_20 ?_
                show ma_wp X d w 51 55 [(2, .inl v18), (0, .inr (.inr (some 91))), (1, .inr (.inr (some t)))] [.inl (mI S17 92 v18.toNatClampNeg), .inl (v18 * (mI S17 91 2)), .inr (.inr (some t)), .inr (.inr (some 69))] (ma_put S17 91 6 (.inl v18)) _
                refine zw_stk hm_51 dX4_moveOut_55 (st₉ := [.inl ((v18 * (mI S17 91 2)) + (mI S17 92 v18.toNatClampNeg)), .inr (.inr (some t)), .inr (.inr (some 69))]) rfl rfl ?_
                refine zw_cv hm_51 dX4_moveOut_56 v_4_127_7 hm_90 [.inl ((v18 * (mI S17 91 2)) + (mI S17 92 v18.toNatClampNeg)), .inr (.inr (some t))] [] rfl (zT_rt (zT_pi hS17) s_69 rfl) ⟨by omega, by omega⟩ rfl (zw_mono h (zv_go ?_ ?_))
                · intro S23 hv
                  obtain ⟨hS23, h⟩ := hv
                  refine zw_push hm_51 dX4_moveOut_59 (v := .inr (.inr (some 91))) rfl ?_
                  refine zw_push hm_51 dX4_moveOut_60 (v := .inl v18) rfl ?_
                  refine zw_push hm_51 dX4_moveOut_61 (v := .inr (.inr (some t))) rfl ?_
                  obtain ⟨hg, h⟩ := h
                  refine zw_gf hm_51 dX4_moveOut_62 (v := .inl (mI S23 t 2)) (zT_tis hS23 hg) (zT_tt hS23 hg) rfl f_4_63_9 rfl ?_
                  refine zw_cv hm_51 dX4_moveOut_65 v_4_66_4 hm_53 [.inl (mI S23 t 2), .inl v18] [] rfl (zT_rt hS23 s_91 rfl) ⟨by omega, by omega⟩ rfl ?_
                  show ma_wp X (d - 1) (w - 22) 53 0 [(0, .inr (.inr (some 91))), (1, .inl v18), (2, .inl (mI S23 t 2))] [] S23 _
                  refine zw_push hm_53 dX4_raiseTop_0 (v := .inl v18) rfl ?_
                  refine zw_if0 hm_53 dX4_raiseTop_1 (t := 20) rfl zc0_lt ?_ ?_
                  · intro hc
                    rw [if_pos hc] at h
                    refine zw_vret hm_53 dX4_raiseTop_20 ?_
                    show ma_wp X d w 51 68 [(2, .inl v18), (0, .inr (.inr (some 91))), (1, .inr (.inr (some t)))] [] S23 _
                    refine zw_push hm_51 dX4_moveOut_68 (v := .inl (1 : Int32)) rfl ?_
                    exact zw_bret hm_51 dX4_moveOut_69 (by decide) h
                  · intro hc
                    rw [if_neg hc] at h
                    refine zw_push hm_53 dX4_raiseTop_4 (v := .inl v18) rfl ?_
                    refine zw_push hm_53 dX4_raiseTop_5 (v := .inl (93 : Int32)) rfl ?_
                    refine zw_if2 hm_53 dX4_raiseTop_7 (t := 20) rfl zc2_ge ?_ ?_
                    · intro hc
                      rw [if_pos hc] at h
                      refine zw_vret hm_53 dX4_raiseTop_20 ?_
                      show ma_wp X d w 51 68 [(2, .inl v18), (0, .inr (.inr (some 91))), (1, .inr (.inr (some t)))] [] S23 _
                      refine zw_push hm_51 dX4_moveOut_68 (v := .inl (1 : Int32)) rfl ?_
                      exact zw_bret hm_51 dX4_moveOut_69 (by decide) h
                    · intro hc
                      rw [if_neg hc] at h
                      refine zw_push hm_53 dX4_raiseTop_10 (v := .inr (.inr (some 91))) rfl ?_
                      refine zw_gf hm_53 dX4_raiseTop_11 (v := .inr (.inr (some 92))) (zT_is hS23 s_91) (zT_t hS23 s_91) rfl f_4_9_4 (zT_f hS23 r_91_7) ?_
                      refine zw_push hm_53 dX4_raiseTop_14 (v := .inl v18) rfl ?_
                      refine zw_stk hm_53 dX4_raiseTop_15 (st₉ := [.inl v18, .inr (.inr (some 92)), .inl v18, .inr (.inr (some 92))]) rfl rfl ?_
                      obtain ⟨hg, h⟩ := h
                      refine zw_ia hm_53 dX4_raiseTop_16 (zT_is hS23 s_92) (zT_h hS23 s_92) rfl hg ?_
                      show ma_wp X (d - 1) (w - 22) 53 17 [(0, .inr (.inr (some 91))), (1, .inl v18), (2, .inl (mI S23 t 2))] [.inl (mI S23 92 v18.toNatClampNeg), .inl v18, .inr (.inr (some 92))] S23 _
                      refine zw_push hm_53 dX4_raiseTop_17 (v := .inl (mI S23 t 2)) rfl ?_
                      refine zw_stk hm_53 dX4_raiseTop_18 (st₉ := [.inl ((mI S23 92 v18.toNatClampNeg) + (mI S23 t 2)), .inl v18, .inr (.inr (some 92))]) rfl rfl ?_
                      obtain ⟨hg, h⟩ := h
                      refine zw_ias hm_53 dX4_raiseTop_19 (zT_is hS23 s_92) (zT_h hS23 s_92) rfl hg ?_
                      refine zw_vret hm_53 dX4_raiseTop_20 ?_
                      show ma_wp X d w 51 68 [(2, .inl v18), (0, .inr (.inr (some 91))), (1, .inr (.inr (some t)))] [] (ma_put S23 92 v18.toNatClampNeg (.inl ((mI S23 92 v18.toNatClampNeg) + (mI S23 t 2)))) _
                      refine zw_push hm_51 dX4_moveOut_68 (v := .inl (1 : Int32)) rfl ?_
                      exact zw_bret hm_51 dX4_moveOut_69 (by decide) h
                · intro x S9 hx
                  exact ⟨by decide, hx⟩
          · intro hc
            rw [if_pos (Classical.not_not.mp hc)] at h
            refine zw_push hm_51 dX4_moveOut_32 (v := .inl (0 : Int32)) rfl ?_
            exact zw_bret hm_51 dX4_moveOut_33 (by decide) h
        · intro x S9 hx
          exact ⟨by decide, hx⟩
      · intro hc
        rw [if_neg hc] at h
        refine zw_push hm_41 dX4_fits_25 (v := .inl (1 : Int32)) rfl ?_
        refine zw_goto hm_41 dX4_fits_26 (t := 30) rfl ?_
        refine zw_bret hm_41 dX4_fits_30 (by decide) ?_
        show ma_wp X d w 51 12 [(0, .inr (.inr (some 91))), (1, .inr (.inr (some t)))] [.inl (1 : Int32)] S _
        refine zw_if0 hm_51 dX4_moveOut_12 (t := 22) rfl zc0_eq (fun hc => absurd hc (by decide)) (fun _ => ?_)
        refine zw_push hm_51 dX4_moveOut_15 (v := .inr (.inr (some 91))) rfl ?_
        refine zw_gf hm_51 dX4_moveOut_16 (v := .inl (mI S 91 6)) (zT_is hS s_91) (zT_t hS s_91) rfl f_4_83_4 rfl ?_
        refine zw_goto hm_51 dX4_moveOut_19 (t := 26) rfl ?_
        refine zw_sto hm_51 dX4_moveOut_26 [(2, .inl (mI S 91 6)), (0, .inr (.inr (some 91))), (1, .inr (.inr (some t)))] rfl rfl rfl ?_
        refine zw_push hm_51 dX4_moveOut_27 (v := .inl (mI S 91 6)) rfl ?_
        refine zw_push hm_51 dX4_moveOut_28 (v := .inl (-1 : Int32)) rfl ?_
        refine zw_if2 hm_51 dX4_moveOut_29 (t := 34) rfl zc2_ne ?_ ?_
        · intro hc
          rw [if_neg hc] at h
          refine zw_push hm_51 dX4_moveOut_34 (v := .inr (.inr (some 91))) rfl ?_
          refine zw_push hm_51 dX4_moveOut_35 (v := .inl (mI S 91 6)) rfl ?_
          refine zw_pf hm_51 dX4_moveOut_36 (zT_is hS s_91) (zT_t hS s_91) p_4_83_4 zk_int ?_
          refine zw_push hm_51 dX4_moveOut_39 (v := .inr (.inr (some 91))) rfl ?_
          refine zw_gf hm_51 dX4_moveOut_40 (v := .inr (.inr (some 69))) (zT_is (zT_pi hS) s_91) (zT_t (zT_pi hS) s_91) rfl f_4_100_4 (zT_f (zT_pi hS) r_91_0) ?_
          refine zw_push hm_51 dX4_moveOut_43 (v := .inr (.inr (some t))) rfl ?_
          refine zw_push hm_51 dX4_moveOut_44 (v := .inl (mI S 91 6)) rfl ?_
          refine zw_push hm_51 dX4_moveOut_45 (v := .inr (.inr (some 91))) rfl ?_
          refine zw_gf hm_51 dX4_moveOut_46 (v := .inl (mI S 91 2)) (zT_is (zT_pi hS) s_91) (zT_t (zT_pi hS) s_91) rfl f_4_18_4 rfl ?_
          refine zw_stk hm_51 dX4_moveOut_49 (st₉ := [.inl ((mI S 91 6) * (mI S 91 2)), .inr (.inr (some t)), .inr (.inr (some 69))]) rfl rfl ?_
          refine zw_push hm_51 dX4_moveOut_50 (v := .inr (.inr (some 91))) rfl ?_
          refine zw_push hm_51 dX4_moveOut_51 (v := .inl (mI S 91 6)) rfl ?_
          refine zw_cv hm_51 dX4_moveOut_52 v_4_93_4 hm_50 [.inl (mI S 91 6)] [.inl ((mI S 91 6) * (mI S 91 2)), .inr (.inr (some t)), .inr (.inr (some 69))] rfl (zT_rt (zT_pi hS) s_91 rfl) ⟨by omega, by omega⟩ rfl ?_
          show ma_wp X (d - 1) (w - 21) 50 0 [(0, .inr (.inr (some 91))), (1, .inl (mI S 91 6))] [] (ma_put S 91 6 (.inl (mI S 91 6))) _
          refine zw_push hm_50 dX4_topOf_0 (v := .inl (mI S 91 6)) rfl ?_
          refine zw_if0 hm_50 dX4_topOf_1 (t := 19) rfl zc0_lt ?_ ?_
          · intro hc
            rw [if_pos hc] at h
            refine zw_push hm_50 dX4_topOf_19 (v := .inl (0 : Int32)) rfl ?_
            refine zw_iret hm_50 dX4_topOf_20 ?_
            show ma_wp X d w 51 55 [(2, .inl (mI S 91 6)), (0, .inr (.inr (some 91))), (1, .inr (.inr (some t)))] [.inl (0 : Int32), .inl ((mI S 91 6) * (mI S 91 2)), .inr (.inr (some t)), .inr (.inr (some 69))] (ma_put S 91 6 (.inl (mI S 91 6))) _
            refine zw_stk hm_51 dX4_moveOut_55 (st₉ := [.inl (((mI S 91 6) * (mI S 91 2)) + (0 : Int32)), .inr (.inr (some t)), .inr (.inr (some 69))]) rfl rfl ?_
            refine zw_cv hm_51 dX4_moveOut_56 v_4_127_7 hm_90 [.inl (((mI S 91 6) * (mI S 91 2)) + (0 : Int32)), .inr (.inr (some t))] [] rfl (zT_rt (zT_pi hS) s_69 rfl) ⟨by omega, by omega⟩ rfl (zw_mono h (zv_go ?_ ?_))
            · intro S25 hv
              obtain ⟨hS25, h⟩ := hv
              refine zw_push hm_51 dX4_moveOut_59 (v := .inr (.inr (some 91))) rfl ?_
              refine zw_push hm_51 dX4_moveOut_60 (v := .inl (mI S 91 6)) rfl ?_
              refine zw_push hm_51 dX4_moveOut_61 (v := .inr (.inr (some t))) rfl ?_
              obtain ⟨hg, h⟩ := h
              refine zw_gf hm_51 dX4_moveOut_62 (v := .inl (mI S25 t 2)) (zT_tis hS25 hg) (zT_tt hS25 hg) rfl f_4_63_9 rfl ?_
              refine zw_cv hm_51 dX4_moveOut_65 v_4_66_4 hm_53 [.inl (mI S25 t 2), .inl (mI S 91 6)] [] rfl (zT_rt hS25 s_91 rfl) ⟨by omega, by omega⟩ rfl ?_
              show ma_wp X (d - 1) (w - 22) 53 0 [(0, .inr (.inr (some 91))), (1, .inl (mI S 91 6)), (2, .inl (mI S25 t 2))] [] S25 _
              refine zw_push hm_53 dX4_raiseTop_0 (v := .inl (mI S 91 6)) rfl ?_
              refine zw_if0 hm_53 dX4_raiseTop_1 (t := 20) rfl zc0_lt ?_ ?_
              · intro hc
                rw [if_pos hc] at h
                refine zw_vret hm_53 dX4_raiseTop_20 ?_
                show ma_wp X d w 51 68 [(2, .inl (mI S 91 6)), (0, .inr (.inr (some 91))), (1, .inr (.inr (some t)))] [] S25 _
                refine zw_push hm_51 dX4_moveOut_68 (v := .inl (1 : Int32)) rfl ?_
                exact zw_bret hm_51 dX4_moveOut_69 (by decide) h
              · intro hc
                rw [if_neg hc] at h
                refine zw_push hm_53 dX4_raiseTop_4 (v := .inl (mI S 91 6)) rfl ?_
                refine zw_push hm_53 dX4_raiseTop_5 (v := .inl (93 : Int32)) rfl ?_
                refine zw_if2 hm_53 dX4_raiseTop_7 (t := 20) rfl zc2_ge ?_ ?_
                · intro hc
                  rw [if_pos hc] at h
                  refine zw_vret hm_53 dX4_raiseTop_20 ?_
                  show ma_wp X d w 51 68 [(2, .inl (mI S 91 6)), (0, .inr (.inr (some 91))), (1, .inr (.inr (some t)))] [] S25 _
                  refine zw_push hm_51 dX4_moveOut_68 (v := .inl (1 : Int32)) rfl ?_
                  exact zw_bret hm_51 dX4_moveOut_69 (by decide) h
                · intro hc
                  rw [if_neg hc] at h
                  refine zw_push hm_53 dX4_raiseTop_10 (v := .inr (.inr (some 91))) rfl ?_
                  refine zw_gf hm_53 dX4_raiseTop_11 (v := .inr (.inr (some 92))) (zT_is hS25 s_91) (zT_t hS25 s_91) rfl f_4_9_4 (zT_f hS25 r_91_7) ?_
                  refine zw_push hm_53 dX4_raiseTop_14 (v := .inl (mI S 91 6)) rfl ?_
                  refine zw_stk hm_53 dX4_raiseTop_15 (st₉ := [.inl (mI S 91 6), .inr (.inr (some 92)), .inl (mI S 91 6), .inr (.inr (some 92))]) rfl rfl ?_
                  obtain ⟨hg, h⟩ := h
                  refine zw_ia hm_53 dX4_raiseTop_16 (zT_is hS25 s_92) (zT_h hS25 s_92) rfl hg ?_
                  show ma_wp X (d - 1) (w - 22) 53 17 [(0, .inr (.inr (some 91))), (1, .inl (mI S 91 6)), (2, .inl (mI S25 t 2))] [.inl (mI S25 92 (mI S 91 6).toNatClampNeg), .inl (mI S 91 6), .inr (.inr (some 92))] S25 _
                  refine zw_push hm_53 dX4_raiseTop_17 (v := .inl (mI S25 t 2)) rfl ?_
                  refine zw_stk hm_53 dX4_raiseTop_18 (st₉ := [.inl ((mI S25 92 (mI S 91 6).toNatClampNeg) + (mI S25 t 2)), .inl (mI S 91 6), .inr (.inr (some 92))]) rfl rfl ?_
                  obtain ⟨hg, h⟩ := h
                  refine zw_ias hm_53 dX4_raiseTop_19 (zT_is hS25 s_92) (zT_h hS25 s_92) rfl hg ?_
                  refine zw_vret hm_53 dX4_raiseTop_20 ?_
                  show ma_wp X d w 51 68 [(2, .inl (mI S 91 6)), (0, .inr (.inr (some 91))), (1, .inr (.inr (some t)))] [] (ma_put S25 92 (mI S 91 6).toNatClampNeg (.inl ((mI S25 92 (mI S 91 6).toNatClampNeg) + (mI S25 t 2)))) _
                  refine zw_push hm_51 dX4_moveOut_68 (v := .inl (1 : Int32)) rfl ?_
                  exact zw_bret hm_51 dX4_moveOut_69 (by decide) h
            · intro x S9 hx
              exact ⟨by decide, hx⟩
          · intro hc
            rw [if_neg hc] at h
            refine zw_push hm_50 dX4_topOf_4 (v := .inl (mI S 91 6)) rfl ?_
            refine zw_push hm_50 dX4_topOf_5 (v := .inl (93 : Int32)) rfl ?_
            refine zw_if2 hm_50 dX4_topOf_7 (t := 19) rfl zc2_ge ?_ ?_
            · intro hc
              rw [if_pos hc] at h
              refine zw_push hm_50 dX4_topOf_19 (v := .inl (0 : Int32)) rfl ?_
              refine zw_iret hm_50 dX4_topOf_20 ?_
              show ma_wp X d w 51 55 [(2, .inl (mI S 91 6)), (0, .inr (.inr (some 91))), (1, .inr (.inr (some t)))] [.inl (0 : Int32), .inl ((mI S 91 6) * (mI S 91 2)), .inr (.inr (some t)), .inr (.inr (some 69))] (ma_put S 91 6 (.inl (mI S 91 6))) _
              refine zw_stk hm_51 dX4_moveOut_55 (st₉ := [.inl (((mI S 91 6) * (mI S 91 2)) + (0 : Int32)), .inr (.inr (some t)), .inr (.inr (some 69))]) rfl rfl ?_
              refine zw_cv hm_51 dX4_moveOut_56 v_4_127_7 hm_90 [.inl (((mI S 91 6) * (mI S 91 2)) + (0 : Int32)), .inr (.inr (some t))] [] rfl (zT_rt (zT_pi hS) s_69 rfl) ⟨by omega, by omega⟩ rfl (zw_mono h (zv_go ?_ ?_))
              · intro S27 hv
                obtain ⟨hS27, h⟩ := hv
                refine zw_push hm_51 dX4_moveOut_59 (v := .inr (.inr (some 91))) rfl ?_
                refine zw_push hm_51 dX4_moveOut_60 (v := .inl (mI S 91 6)) rfl ?_
                refine zw_push hm_51 dX4_moveOut_61 (v := .inr (.inr (some t))) rfl ?_
                obtain ⟨hg, h⟩ := h
                refine zw_gf hm_51 dX4_moveOut_62 (v := .inl (mI S27 t 2)) (zT_tis hS27 hg) (zT_tt hS27 hg) rfl f_4_63_9 rfl ?_
                refine zw_cv hm_51 dX4_moveOut_65 v_4_66_4 hm_53 [.inl (mI S27 t 2), .inl (mI S 91 6)] [] rfl (zT_rt hS27 s_91 rfl) ⟨by omega, by omega⟩ rfl ?_
                show ma_wp X (d - 1) (w - 22) 53 0 [(0, .inr (.inr (some 91))), (1, .inl (mI S 91 6)), (2, .inl (mI S27 t 2))] [] S27 _
                refine zw_push hm_53 dX4_raiseTop_0 (v := .inl (mI S 91 6)) rfl ?_
                refine zw_if0 hm_53 dX4_raiseTop_1 (t := 20) rfl zc0_lt ?_ ?_
                · intro hc
                  rw [if_pos hc] at h
                  refine zw_vret hm_53 dX4_raiseTop_20 ?_
                  show ma_wp X d w 51 68 [(2, .inl (mI S 91 6)), (0, .inr (.inr (some 91))), (1, .inr (.inr (some t)))] [] S27 _
                  refine zw_push hm_51 dX4_moveOut_68 (v := .inl (1 : Int32)) rfl ?_
                  exact zw_bret hm_51 dX4_moveOut_69 (by decide) h
                · intro hc
                  rw [if_neg hc] at h
                  refine zw_push hm_53 dX4_raiseTop_4 (v := .inl (mI S 91 6)) rfl ?_
                  refine zw_push hm_53 dX4_raiseTop_5 (v := .inl (93 : Int32)) rfl ?_
                  refine zw_if2 hm_53 dX4_raiseTop_7 (t := 20) rfl zc2_ge ?_ ?_
                  · intro hc
                    rw [if_pos hc] at h
                    refine zw_vret hm_53 dX4_raiseTop_20 ?_
                    show ma_wp X d w 51 68 [(2, .inl (mI S 91 6)), (0, .inr (.inr (some 91))), (1, .inr (.inr (some t)))] [] S27 _
                    refine zw_push hm_51 dX4_moveOut_68 (v := .inl (1 : Int32)) rfl ?_
                    exact zw_bret hm_51 dX4_moveOut_69 (by decide) h
                  · intro hc
                    rw [if_neg hc] at h
                    refine zw_push hm_53 dX4_raiseTop_10 (v := .inr (.inr (some 91))) rfl ?_
                    refine zw_gf hm_53 dX4_raiseTop_11 (v := .inr (.inr (some 92))) (zT_is hS27 s_91) (zT_t hS27 s_91) rfl f_4_9_4 (zT_f hS27 r_91_7) ?_
                    refine zw_push hm_53 dX4_raiseTop_14 (v := .inl (mI S 91 6)) rfl ?_
                    refine zw_stk hm_53 dX4_raiseTop_15 (st₉ := [.inl (mI S 91 6), .inr (.inr (some 92)), .inl (mI S 91 6), .inr (.inr (some 92))]) rfl rfl ?_
                    obtain ⟨hg, h⟩ := h
                    refine zw_ia hm_53 dX4_raiseTop_16 (zT_is hS27 s_92) (zT_h hS27 s_92) rfl hg ?_
                    show ma_wp X (d - 1) (w - 22) 53 17 [(0, .inr (.inr (some 91))), (1, .inl (mI S 91 6)), (2, .inl (mI S27 t 2))] [.inl (mI S27 92 (mI S 91 6).toNatClampNeg), .inl (mI S 91 6), .inr (.inr (some 92))] S27 _
                    refine zw_push hm_53 dX4_raiseTop_17 (v := .inl (mI S27 t 2)) rfl ?_
                    refine zw_stk hm_53 dX4_raiseTop_18 (st₉ := [.inl ((mI S27 92 (mI S 91 6).toNatClampNeg) + (mI S27 t 2)), .inl (mI S 91 6), .inr (.inr (some 92))]) rfl rfl ?_
                    obtain ⟨hg, h⟩ := h
                    refine zw_ias hm_53 dX4_raiseTop_19 (zT_is hS27 s_92) (zT_h hS27 s_92) rfl hg ?_
                    refine zw_vret hm_53 dX4_raiseTop_20 ?_
                    show ma_wp X d w 51 68 [(2, .inl (mI S 91 6)), (0, .inr (.inr (some 91))), (1, .inr (.inr (some t)))] [] (ma_put S27 92 (mI S 91 6).toNatClampNeg (.inl ((mI S27 92 (mI S 91 6).toNatClampNeg) + (mI S27 t 2)))) _
                    refine zw_push hm_51 dX4_moveOut_68 (v := .inl (1 : Int32)) rfl ?_
                    exact zw_bret hm_51 dX4_moveOut_69 (by decide) h
              · intro x S9 hx
                exact ⟨by decide, hx⟩
            · intro hc
              rw [if_neg hc] at h
              refine zw_push hm_50 dX4_topOf_10 (v := .inr (.inr (some 91))) rfl ?_
              refine zw_gf hm_50 dX4_topOf_11 (v := .inr (.inr (some 92))) (zT_is (zT_pi hS) s_91) (zT_t (zT_pi hS) s_91) rfl f_4_9_4 (zT_f (zT_pi hS) r_91_7) ?_
              refine zw_push hm_50 dX4_topOf_14 (v := .inl (mI S 91 6)) rfl ?_
              obtain ⟨hg, h⟩ := h
              refine zw_ia hm_50 dX4_topOf_15 (zT_is (zT_pi hS) s_92) (zT_h (zT_pi hS) s_92) rfl hg ?_
              show ma_wp X (d - 1) (w - 21) 50 16 [(0, .inr (.inr (some 91))), (1, .inl (mI S 91 6))] [.inl (mI S 92 (mI S 91 6).toNatClampNeg)] (ma_put S 91 6 (.inl (mI S 91 6))) _
              refine zw_goto hm_50 dX4_topOf_16 (t := 20) rfl ?_
              refine zw_iret hm_50 dX4_topOf_20 ?_
              show ma_wp X d w 51 55 [(2, .inl (mI S 91 6)), (0, .inr (.inr (some 91))), (1, .inr (.inr (some t)))] [.inl (mI S 92 (mI S 91 6).toNatClampNeg), .inl ((mI S 91 6) * (mI S 91 2)), .inr (.inr (some t)), .inr (.inr (some 69))] (ma_put S 91 6 (.inl (mI S 91 6))) _
              refine zw_stk hm_51 dX4_moveOut_55 (st₉ := [.inl (((mI S 91 6) * (mI S 91 2)) + (mI S 92 (mI S 91 6).toNatClampNeg)), .inr (.inr (some t)), .inr (.inr (some 69))]) rfl rfl ?_
              refine zw_cv hm_51 dX4_moveOut_56 v_4_127_7 hm_90 [.inl (((mI S 91 6) * (mI S 91 2)) + (mI S 92 (mI S 91 6).toNatClampNeg)), .inr (.inr (some t))] [] rfl (zT_rt (zT_pi hS) s_69 rfl) ⟨by omega, by omega⟩ rfl (zw_mono h (zv_go ?_ ?_))
              · intro S29 hv
                obtain ⟨hS29, h⟩ := hv
                refine zw_push hm_51 dX4_moveOut_59 (v := .inr (.inr (some 91))) rfl ?_
                refine zw_push hm_51 dX4_moveOut_60 (v := .inl (mI S 91 6)) rfl ?_
                refine zw_push hm_51 dX4_moveOut_61 (v := .inr (.inr (some t))) rfl ?_
                obtain ⟨hg, h⟩ := h
                refine zw_gf hm_51 dX4_moveOut_62 (v := .inl (mI S29 t 2)) (zT_tis hS29 hg) (zT_tt hS29 hg) rfl f_4_63_9 rfl ?_
                refine zw_cv hm_51 dX4_moveOut_65 v_4_66_4 hm_53 [.inl (mI S29 t 2), .inl (mI S 91 6)] [] rfl (zT_rt hS29 s_91 rfl) ⟨by omega, by omega⟩ rfl ?_
                show ma_wp X (d - 1) (w - 22) 53 0 [(0, .inr (.inr (some 91))), (1, .inl (mI S 91 6)), (2, .inl (mI S29 t 2))] [] S29 _
                refine zw_push hm_53 dX4_raiseTop_0 (v := .inl (mI S 91 6)) rfl ?_
                refine zw_if0 hm_53 dX4_raiseTop_1 (t := 20) rfl zc0_lt ?_ ?_
                · intro hc
                  rw [if_pos hc] at h
                  refine zw_vret hm_53 dX4_raiseTop_20 ?_
                  show ma_wp X d w 51 68 [(2, .inl (mI S 91 6)), (0, .inr (.inr (some 91))), (1, .inr (.inr (some t)))] [] S29 _
                  refine zw_push hm_51 dX4_moveOut_68 (v := .inl (1 : Int32)) rfl ?_
                  exact zw_bret hm_51 dX4_moveOut_69 (by decide) h
                · intro hc
                  rw [if_neg hc] at h
                  refine zw_push hm_53 dX4_raiseTop_4 (v := .inl (mI S 91 6)) rfl ?_
                  refine zw_push hm_53 dX4_raiseTop_5 (v := .inl (93 : Int32)) rfl ?_
                  refine zw_if2 hm_53 dX4_raiseTop_7 (t := 20) rfl zc2_ge ?_ ?_
                  · intro hc
                    rw [if_pos hc] at h
                    refine zw_vret hm_53 dX4_raiseTop_20 ?_
                    show ma_wp X d w 51 68 [(2, .inl (mI S 91 6)), (0, .inr (.inr (some 91))), (1, .inr (.inr (some t)))] [] S29 _
                    refine zw_push hm_51 dX4_moveOut_68 (v := .inl (1 : Int32)) rfl ?_
                    exact zw_bret hm_51 dX4_moveOut_69 (by decide) h
                  · intro hc
                    rw [if_neg hc] at h
                    refine zw_push hm_53 dX4_raiseTop_10 (v := .inr (.inr (some 91))) rfl ?_
                    refine zw_gf hm_53 dX4_raiseTop_11 (v := .inr (.inr (some 92))) (zT_is hS29 s_91) (zT_t hS29 s_91) rfl f_4_9_4 (zT_f hS29 r_91_7) ?_
                    refine zw_push hm_53 dX4_raiseTop_14 (v := .inl (mI S 91 6)) rfl ?_
                    refine zw_stk hm_53 dX4_raiseTop_15 (st₉ := [.inl (mI S 91 6), .inr (.inr (some 92)), .inl (mI S 91 6), .inr (.inr (some 92))]) rfl rfl ?_
                    obtain ⟨hg, h⟩ := h
                    refine zw_ia hm_53 dX4_raiseTop_16 (zT_is hS29 s_92) (zT_h hS29 s_92) rfl hg ?_
                    show ma_wp X (d - 1) (w - 22) 53 17 [(0, .inr (.inr (some 91))), (1, .inl (mI S 91 6)), (2, .inl (mI S29 t 2))] [.inl (mI S29 92 (mI S 91 6).toNatClampNeg), .inl (mI S 91 6), .inr (.inr (some 92))] S29 _
                    refine zw_push hm_53 dX4_raiseTop_17 (v := .inl (mI S29 t 2)) rfl ?_
                    refine zw_stk hm_53 dX4_raiseTop_18 (st₉ := [.inl ((mI S29 92 (mI S 91 6).toNatClampNeg) + (mI S29 t 2)), .inl (mI S 91 6), .inr (.inr (some 92))]) rfl rfl ?_
                    obtain ⟨hg, h⟩ := h
                    refine zw_ias hm_53 dX4_raiseTop_19 (zT_is hS29 s_92) (zT_h hS29 s_92) rfl hg ?_
                    refine zw_vret hm_53 dX4_raiseTop_20 ?_
                    show ma_wp X d w 51 68 [(2, .inl (mI S 91 6)), (0, .inr (.inr (some 91))), (1, .inr (.inr (some t)))] [] (ma_put S29 92 (mI S 91 6).toNatClampNeg (.inl ((mI S29 92 (mI S 91 6).toNatClampNeg) + (mI S29 t 2)))) _
                    refine zw_push hm_51 dX4_moveOut_68 (v := .inl (1 : Int32)) rfl ?_
                    exact zw_bret hm_51 dX4_moveOut_69 (by decide) h
              · intro x S9 hx
                exact ⟨by decide, hx⟩
        · intro hc
          rw [if_pos (Classical.not_not.mp hc)] at h
          refine zw_push hm_51 dX4_moveOut_32 (v := .inl (0 : Int32)) rfl ?_
          exact zw_bret hm_51 dX4_moveOut_33 (by decide) h
theorem sp_51_91_sz {X : Nat × (Nat → Int32)} {d w : Nat} {f : Nat → Nat → Int32} {r : Nat → Nat → Option Nat} {C Z N : Nat} {Q : Option ma_V ⊕ Nat → ma_S → Prop} {ab : Nat→Nat→Int32} {y : Int32} {qq : Int} {pp : Int} {tg : Int} {S : ma_S} (t : Nat) (hd : 2 ≤ d) (hw : 114 ≤ w) (hI : zL91 f r C Z N S) (th_t : 126 ≤ t ∧ t < N) (hpre0 : xB S (mR S 70)) (hpre1 : aZ S = ab) (hpre2 : zTa (mR S 70) y = some t) (hpre3 : qMo ab qq pp tg y) (hpre4 : (mI S 91 6).toInt = tg) (K : ∀ v S₉, zL91 f r C Z N S₉ → (v = 0 ∨ v = 1) → (xB S₉ (mR S₉ 70)) → ((v = 0 ∧ aZ S₉ = ab ∧ (mI S₉ 91 6).toInt = tg ∧ rTo ab tg (ab 128 y.toNatClampNeg).toInt = -1) ∨ (v = 1 ∧ rTo ab tg (ab 128 y.toNatClampNeg).toInt ≠ -1 ∧ aZ S₉ = rM1 ab y.toNatClampNeg (rTo ab tg (ab 128 y.toNatClampNeg).toInt) ∧ (mI S₉ 91 6).toInt = rTo ab tg (ab 128 y.toNatClampNeg).toInt)) → Q (.inl (some (.inl v))) S₉) : ma_wp X d w 51 0 [(0, .inr (.inr (some 91))), (1, .inr (.inr (some t)))] [] S Q := by
  refine g_51_91_sz_0 t (by omega) (by omega) (zG_T hI) ?_
  refine ⟨zG_n hI th_t, ?_⟩
  have f1 := zG_s hI (-1) (92) (c := 91) (k := 6) (by decide)
  have li2 : (0 : Int32).toInt = 0 := rfl
  refine zd (fun h3 => ?_) (fun h3 => ?_)
  · skip
    have g4 := i_lt h3
    refine sp_52_91_sz  (by omega) (by omega) hI  (fun v2 S1 eS_S1 hp_v2 rp0_S1 => zi_n ⟨(by rw [eS_S1]; exact zG_T hI), ?_⟩)
    replace eS_S1 := eS_S1.symm; subst eS_S1
    have rp0_S1 : v2.toInt = rLe (aZ S) := rp0_S1
    have b5 := i_bd v2
    have li6 : (-1 : Int32).toInt = -1 := rfl
    refine zd (fun h7 => ?_) (fun h7 => ?_)
    · skip
      have g8 := i_eq h7
      exact K ((0 : Int32)) _ hI (by decide) (show xB S (mR S 70) from by first | (exact xB_x (xC_o (W := 75) hpre0).2)) (show ((0 : Int32) = 0 ∧ aZ S = ab ∧ (mI S 91 6).toInt = tg ∧ rTo ab tg (ab 128 y.toNatClampNeg).toInt = -1) ∨ ((0 : Int32) = 1 ∧ rTo ab tg (ab 128 y.toNatClampNeg).toInt ≠ -1 ∧ aZ S = rM1 ab y.toNatClampNeg (rTo ab tg (ab 128 y.toNatClampNeg).toInt) ∧ (mI S 91 6).toInt = rTo ab tg (ab 128 y.toNatClampNeg).toInt) from by first | (have ty := xB_th (W := 75) hpre0 hpre2; have f2 : mI S t 2 = ab 128 y.toNatClampNeg := ty.2.2.2.2.1.trans ((aZ_o (by decide) (by decide) (by decide)).symm.trans (congrFun (congrFun hpre1 128) _)); have i2 := congrArg Int32.toInt f2; have s3 : mI S 91 2 = ab 87 3 := (by rw [← hpre1]; rfl); have i3 := congrArg Int32.toInt s3; have t9 : ∀ k, mI S 92 k = ab 92 k := fun k => (aZ_9 (Or.inl rfl)).symm.trans (congrFun (congrFun hpre1 92) k); have ms := Mq_s hpre3; have ms1 := ms.1; have ms2 := ms.2.1; have ms4 := ms.2.2.2.1; have ms5 := ms.2.2.2.2.1; have tg6 := hpre4; have tgn : tg.toNat = (mI S 91 6).toNatClampNeg := (by rw [← tg6]; rfl); have k9 := congrArg Int32.toInt (t9 (mI S 91 6).toNatClampNeg); have le := rp0_S1; rw [hpre1] at le; have tl := To_l (a := ab) (t := tg) (sz := (ab 128 y.toNatClampNeg).toInt) (by rw [tgn]; omega); exact Or.inl ⟨rfl, hpre1, tg6, by rw [tl]; omega⟩) | (exfalso; omega))
    · skip
      have g9 := i_ne h7
      refine zd (fun h10 => ?_) (fun h10 => ?_)
      · skip
        have g11 := i_lt h10
        have f12 := zG_s hI (0) (1500) (c := 91) (k := 2) (by decide)
        first | have f13 := i_muln (x := v2) (y := (mI S 91 2)) (by omega) (by omega) (by omega) (by omega) | have b14 := i_bd (v2 * (mI S 91 2))
        first | have e15 : ((v2 * (mI S 91 2)) + (0 : Int32)).toInt = (v2 * (mI S 91 2)).toInt + (0) := i_addk rfl (by omega) (by omega) | have b16 := i_bd ((v2 * (mI S 91 2)) + (0 : Int32))
        have hI17 : zL91 f r C Z N (ma_put S 91 6 (.inl v2)) := zG_sp hI (-1) (92) rfl (by decide) (by decide) (by decide) trivial (by omega) (by omega)
        refine sp_90_69_s (ab := (aS 75 (ma_put S 91 6 (.inl v2)))) (R := (mR (ma_put S 91 6 (.inl v2)) 70)) (y := (y)) t (((v2 * (mI S 91 2)) + (0 : Int32))) (by omega) (by omega) (zL91_dn hI17) th_t (show xB (ma_put S 91 6 (.inl v2)) (mR (ma_put S 91 6 (.inl v2)) 70) from by first | (exact xB_x (xC_n (c := 91) (k := 6) (x := v2) (xC_o (W := 75) hpre0) ⟨by decide, Or.inl ⟨rfl, rfl⟩⟩).2)) (show aS 75 (ma_put S 91 6 (.inl v2)) = (aS 75 (ma_put S 91 6 (.inl v2))) from by first | (exact rfl)) (show zTa (mR (ma_put S 91 6 (.inl v2)) 70) (y) = some t from by first | (exact hpre2)) (show qMv (aS 75 (ma_put S 91 6 (.inl v2))) (y).toNatClampNeg ((v2 * (mI S 91 2)) + (0 : Int32)) from by first | (exfalso; omega) | (have ty := xB_th (W := 75) hpre0 hpre2; have f2 : mI S t 2 = ab 128 y.toNatClampNeg := ty.2.2.2.2.1.trans ((aZ_o (by decide) (by decide) (by decide)).symm.trans (congrFun (congrFun hpre1 128) _)); have i2 := congrArg Int32.toInt f2; have s3 : mI S 91 2 = ab 87 3 := (by rw [← hpre1]; rfl); have i3 := congrArg Int32.toInt s3; have t9 : ∀ k, mI S 92 k = ab 92 k := fun k => (aZ_9 (Or.inl rfl)).symm.trans (congrFun (congrFun hpre1 92) k); have ms := Mq_s hpre3; have ms1 := ms.1; have ms2 := ms.2.1; have ms4 := ms.2.2.2.1; have ms5 := ms.2.2.2.2.1; have tg6 := hpre4; have tgn : tg.toNat = (mI S 91 6).toNatClampNeg := (by rw [← tg6]; rfl); have k9 := congrArg Int32.toInt (t9 (mI S 91 6).toNatClampNeg); have le := rp0_S1; rw [hpre1] at le; have tl := To_l (a := ab) (t := tg) (sz := (ab 128 y.toNatClampNeg).toInt) (by rw [tgn]; omega); have u0 : (v2).toInt = rTo ab tg (ab 128 y.toNatClampNeg).toInt := (by rw [tl]; omega); have mm := i_muln (x := v2) (y := mI S 91 2) (by omega) (by omega) (by omega) (by omega); have un9 : (rTo ab tg (ab 128 y.toNatClampNeg).toInt).toNat = (v2).toNatClampNeg := (by rw [← u0]; rfl); have k8 := congrArg Int32.toInt (t9 (v2).toNatClampNeg); have mt := ms.2.2.1 (v2).toNatClampNeg (by have := tn_cast (x := v2) (by omega); omega); have he : (v2 * mI S 91 2 + mI S 92 (v2).toNatClampNeg).toInt = rTo ab tg (ab 128 y.toNatClampNeg).toInt * (ab 87 3).toInt + (ab 92 (rTo ab tg (ab 128 y.toNatClampNeg).toInt).toNat).toInt := (by rw [i_add (by omega) (by omega), mm.2.2, un9, ← u0, i3, k8]); have qv := (Mq_to hpre3 (by rw [← u0]; omega) he).1; rw [← hpre1, ← Z_p6 (x := v2) hpre0] at qv; exact Mv_Z qv)) (by omega) (fun S3 hL_S3 rp0_S3 rp1_S3 => zv_n ⟨zG_T hL_S3, ?_⟩)
        have hI_S3 := zL91_up hI17 hL_S3
        have rp0_S3 : xB S3 (mR (ma_put S 91 6 (.inl v2)) 70) := by
          have z := rp0_S3
          (try rw [show mI (ma_put S 91 6 (.inl v2)) 65 = f 65 from funext (fun k => zG_z hI17 rfl)] at z)
          (try rw [show mI (ma_put S 91 6 (.inl v2)) 64 1 = f 64 1 from zG_z hI17 rfl] at z)
          exact z
        have rp1_S3 : aS 75 S3 = aMo (aS 75 (ma_put S 91 6 (.inl v2))) (y).toNatClampNeg ((v2 * (mI S 91 2)) + (0 : Int32)) := by
          have z := rp1_S3
          (try rw [show mI (ma_put S 91 6 (.inl v2)) 65 = f 65 from funext (fun k => zG_z hI17 rfl)] at z)
          (try rw [show mI (ma_put S 91 6 (.inl v2)) 64 1 = f 64 1 from zG_z hI17 rfl] at z)
          exact z
        refine ⟨zG_n hI_S3 th_t, ?_⟩
        refine zd (fun h18 => ?_) (fun h18 => ?_)
        · skip
          have g19 := i_lt h18
          have li20 : (1 : Int32).toInt = 1 := rfl
          have q21 : (mI S3 91 6).toInt = v2.toInt := zG_zi (f := mI (ma_put S 91 6 (.inl v2))) hL_S3 rfl
          have f22 := zG_s hI_S3 (-1) (92) (c := 91) (k := 6) (by decide)
          exact K ((1 : Int32)) _ hI_S3 (by decide) (show xB S3 (mR S3 70) from by first | (exact xB_x (xC_o (W := 75) rp0_S3).2)) (show ((1 : Int32) = 0 ∧ aZ S3 = ab ∧ (mI S3 91 6).toInt = tg ∧ rTo ab tg (ab 128 y.toNatClampNeg).toInt = -1) ∨ ((1 : Int32) = 1 ∧ rTo ab tg (ab 128 y.toNatClampNeg).toInt ≠ -1 ∧ aZ S3 = rM1 ab y.toNatClampNeg (rTo ab tg (ab 128 y.toNatClampNeg).toInt) ∧ (mI S3 91 6).toInt = rTo ab tg (ab 128 y.toNatClampNeg).toInt) from by first | (exfalso; omega) | (have ty := xB_th (W := 75) hpre0 hpre2; have f2 : mI S t 2 = ab 128 y.toNatClampNeg := ty.2.2.2.2.1.trans ((aZ_o (by decide) (by decide) (by decide)).symm.trans (congrFun (congrFun hpre1 128) _)); have i2 := congrArg Int32.toInt f2; have s3 : mI S 91 2 = ab 87 3 := (by rw [← hpre1]; rfl); have i3 := congrArg Int32.toInt s3; have t9 : ∀ k, mI S 92 k = ab 92 k := fun k => (aZ_9 (Or.inl rfl)).symm.trans (congrFun (congrFun hpre1 92) k); have ms := Mq_s hpre3; have ms1 := ms.1; have ms2 := ms.2.1; have ms4 := ms.2.2.2.1; have ms5 := ms.2.2.2.2.1; have tg6 := hpre4; have tgn : tg.toNat = (mI S 91 6).toNatClampNeg := (by rw [← tg6]; rfl); have k9 := congrArg Int32.toInt (t9 (mI S 91 6).toNatClampNeg); have le := rp0_S1; rw [hpre1] at le; have tl := To_l (a := ab) (t := tg) (sz := (ab 128 y.toNatClampNeg).toInt) (by rw [tgn]; omega); have u0 : (v2).toInt = rTo ab tg (ab 128 y.toNatClampNeg).toInt := (by rw [tl]; omega); have mm := i_muln (x := v2) (y := mI S 91 2) (by omega) (by omega) (by omega) (by omega); have un9 : (rTo ab tg (ab 128 y.toNatClampNeg).toInt).toNat = (v2).toNatClampNeg := (by rw [← u0]; rfl); have k8 := congrArg Int32.toInt (t9 (v2).toNatClampNeg); have mt := ms.2.2.1 (v2).toNatClampNeg (by have := tn_cast (x := v2) (by omega); omega); have he : (v2 * mI S 91 2 + mI S 92 (v2).toNatClampNeg).toInt = rTo ab tg (ab 128 y.toNatClampNeg).toInt * (ab 87 3).toInt + (ab 92 (rTo ab tg (ab 128 y.toNatClampNeg).toInt).toNat).toInt := (by rw [i_add (by omega) (by omega), mm.2.2, un9, ← u0, i3, k8]); have a0 : aZ (ma_put S 91 6 (.inl v2)) = ab := (Z_p6 hpre0).trans hpre1; have a1 := Mo_z rp1_S3 (show mI S3 91 = mI (ma_put S 91 6 (.inl v2)) 91 from funext (fun _ => zG_z hL_S3 rfl)) (show mI S3 92 = mI (ma_put S 91 6 (.inl v2)) 92 from funext (fun _ => zG_z hL_S3 rfl)) (show mI S3 93 = mI (ma_put S 91 6 (.inl v2)) 93 from funext (fun _ => zG_z hL_S3 rfl)); rw [a0] at a1; have u := xB_th (W := 75) rp0_S3 hpre2; have u2 := u.2.2.2.2.1; rw [← aZ_o (c := 128) (by decide) (by decide) (by decide), a1, Mo_r (by decide) (by decide)] at u2; have w9 : mI S3 92 (v2).toNatClampNeg = ab 92 (v2).toNatClampNeg := (congrFun (show mI S3 92 = mI (ma_put S 91 6 (.inl v2)) 92 from funext (fun _ => zG_z hL_S3 rfl)) _).trans (t9 _); refine Or.inr ⟨rfl, by rw [← u0]; omega, ?_, ?_⟩; (rw [(show aZ S3 = aZ S3 from rfl), a1, u2, w9, ← un9]; rw [← un9] at he; exact M1_e he); (rw [← u0]; first | rfl | omega)))
        · skip
          have g23 := i_nlt h18
          have li24 : (93 : Int32).toInt = 93 := rfl
          refine zd (fun h25 => ?_) (fun h25 => ?_)
          · skip
            have g26 := i_le h25
            have li27 : (1 : Int32).toInt = 1 := rfl
            have q28 : (mI S3 91 6).toInt = v2.toInt := zG_zi (f := mI (ma_put S 91 6 (.inl v2))) hL_S3 rfl
            have f29 := zG_s hI_S3 (-1) (92) (c := 91) (k := 6) (by decide)
            exact K ((1 : Int32)) _ hI_S3 (by decide) (show xB S3 (mR S3 70) from by first | (exact xB_x (xC_o (W := 75) rp0_S3).2)) (show ((1 : Int32) = 0 ∧ aZ S3 = ab ∧ (mI S3 91 6).toInt = tg ∧ rTo ab tg (ab 128 y.toNatClampNeg).toInt = -1) ∨ ((1 : Int32) = 1 ∧ rTo ab tg (ab 128 y.toNatClampNeg).toInt ≠ -1 ∧ aZ S3 = rM1 ab y.toNatClampNeg (rTo ab tg (ab 128 y.toNatClampNeg).toInt) ∧ (mI S3 91 6).toInt = rTo ab tg (ab 128 y.toNatClampNeg).toInt) from by first | (exfalso; omega) | (have ty := xB_th (W := 75) hpre0 hpre2; have f2 : mI S t 2 = ab 128 y.toNatClampNeg := ty.2.2.2.2.1.trans ((aZ_o (by decide) (by decide) (by decide)).symm.trans (congrFun (congrFun hpre1 128) _)); have i2 := congrArg Int32.toInt f2; have s3 : mI S 91 2 = ab 87 3 := (by rw [← hpre1]; rfl); have i3 := congrArg Int32.toInt s3; have t9 : ∀ k, mI S 92 k = ab 92 k := fun k => (aZ_9 (Or.inl rfl)).symm.trans (congrFun (congrFun hpre1 92) k); have ms := Mq_s hpre3; have ms1 := ms.1; have ms2 := ms.2.1; have ms4 := ms.2.2.2.1; have ms5 := ms.2.2.2.2.1; have tg6 := hpre4; have tgn : tg.toNat = (mI S 91 6).toNatClampNeg := (by rw [← tg6]; rfl); have k9 := congrArg Int32.toInt (t9 (mI S 91 6).toNatClampNeg); have le := rp0_S1; rw [hpre1] at le; have tl := To_l (a := ab) (t := tg) (sz := (ab 128 y.toNatClampNeg).toInt) (by rw [tgn]; omega); have u0 : (v2).toInt = rTo ab tg (ab 128 y.toNatClampNeg).toInt := (by rw [tl]; omega); have mm := i_muln (x := v2) (y := mI S 91 2) (by omega) (by omega) (by omega) (by omega); have un9 : (rTo ab tg (ab 128 y.toNatClampNeg).toInt).toNat = (v2).toNatClampNeg := (by rw [← u0]; rfl); have k8 := congrArg Int32.toInt (t9 (v2).toNatClampNeg); have mt := ms.2.2.1 (v2).toNatClampNeg (by have := tn_cast (x := v2) (by omega); omega); have he : (v2 * mI S 91 2 + mI S 92 (v2).toNatClampNeg).toInt = rTo ab tg (ab 128 y.toNatClampNeg).toInt * (ab 87 3).toInt + (ab 92 (rTo ab tg (ab 128 y.toNatClampNeg).toInt).toNat).toInt := (by rw [i_add (by omega) (by omega), mm.2.2, un9, ← u0, i3, k8]); have a0 : aZ (ma_put S 91 6 (.inl v2)) = ab := (Z_p6 hpre0).trans hpre1; have a1 := Mo_z rp1_S3 (show mI S3 91 = mI (ma_put S 91 6 (.inl v2)) 91 from funext (fun _ => zG_z hL_S3 rfl)) (show mI S3 92 = mI (ma_put S 91 6 (.inl v2)) 92 from funext (fun _ => zG_z hL_S3 rfl)) (show mI S3 93 = mI (ma_put S 91 6 (.inl v2)) 93 from funext (fun _ => zG_z hL_S3 rfl)); rw [a0] at a1; have u := xB_th (W := 75) rp0_S3 hpre2; have u2 := u.2.2.2.2.1; rw [← aZ_o (c := 128) (by decide) (by decide) (by decide), a1, Mo_r (by decide) (by decide)] at u2; have w9 : mI S3 92 (v2).toNatClampNeg = ab 92 (v2).toNatClampNeg := (congrFun (show mI S3 92 = mI (ma_put S 91 6 (.inl v2)) 92 from funext (fun _ => zG_z hL_S3 rfl)) _).trans (t9 _); refine Or.inr ⟨rfl, by rw [← u0]; omega, ?_, ?_⟩; (rw [(show aZ S3 = aZ S3 from rfl), a1, u2, w9, ← un9]; rw [← un9] at he; exact M1_e he); (rw [← u0]; first | rfl | omega)))
          · skip
            have g30 := i_nle h25
            refine ⟨i_ix (by omega) (by omega), ?_⟩
            refine ⟨i_ix (by omega) (by omega), ?_⟩
            first | have f32 := zG_a hI 93 (0) (3000) (c := 92) (k := v2.toNatClampNeg) (by decide) (i_ix (n := 93) (by omega) (by omega)).2 | have b33 := i_bd (mI S 92 v2.toNatClampNeg)
            have q34 : (mI S3 92 v2.toNatClampNeg).toInt = (mI S 92 v2.toNatClampNeg).toInt := zG_zi (f := mI (ma_put S 91 6 (.inl v2))) hL_S3 rfl
            first | have f35 := zG_a hI_S3 93 (0) (3000) (c := 92) (k := v2.toNatClampNeg) (by decide) (i_ix (n := 93) (by omega) (by omega)).2 | have b36 := i_bd (mI S3 92 v2.toNatClampNeg)
            have f37 := zG_th hI_S3 th_t
            first | have e38 : ((mI S3 92 v2.toNatClampNeg) + (mI S3 t 2)).toInt = (mI S3 92 v2.toNatClampNeg).toInt + (mI S3 t 2).toInt := i_add (by omega) (by omega) | have b39 := i_bd ((mI S3 92 v2.toNatClampNeg) + (mI S3 t 2))
            have hI31 : zL91 f r C Z N (ma_put S3 92 v2.toNatClampNeg (.inl ((mI S3 92 v2.toNatClampNeg) + (mI S3 t 2)))) := zG_sa hI_S3 (0) (3000) rfl (by decide) (by decide) (by decide) trivial (by omega) (by omega)
            have li40 : (1 : Int32).toInt = 1 := rfl
            have q41 : (mI S3 91 6).toInt = v2.toInt := zG_zi (f := mI (ma_put S 91 6 (.inl v2))) hL_S3 rfl
            have f42 := zG_s hI_S3 (-1) (92) (c := 91) (k := 6) (by decide)
            exact K ((1 : Int32)) _ hI31 (by decide) (show xB (ma_put S3 92 v2.toNatClampNeg (.inl ((mI S3 92 v2.toNatClampNeg) + (mI S3 t 2)))) (mR (ma_put S3 92 v2.toNatClampNeg (.inl ((mI S3 92 v2.toNatClampNeg) + (mI S3 t 2)))) 70) from by first | (exact xB_x (xC_n (c := 92) (k := v2.toNatClampNeg) (x := ((mI S3 92 v2.toNatClampNeg) + (mI S3 t 2))) (xC_o (W := 75) rp0_S3) ⟨by decide, Or.inl ⟨rfl, rfl⟩⟩).2)) (show ((1 : Int32) = 0 ∧ aZ (ma_put S3 92 v2.toNatClampNeg (.inl ((mI S3 92 v2.toNatClampNeg) + (mI S3 t 2)))) = ab ∧ (mI S3 91 6).toInt = tg ∧ rTo ab tg (ab 128 y.toNatClampNeg).toInt = -1) ∨ ((1 : Int32) = 1 ∧ rTo ab tg (ab 128 y.toNatClampNeg).toInt ≠ -1 ∧ aZ (ma_put S3 92 v2.toNatClampNeg (.inl ((mI S3 92 v2.toNatClampNeg) + (mI S3 t 2)))) = rM1 ab y.toNatClampNeg (rTo ab tg (ab 128 y.toNatClampNeg).toInt) ∧ (mI S3 91 6).toInt = rTo ab tg (ab 128 y.toNatClampNeg).toInt) from by first | (exfalso; omega) | (have ty := xB_th (W := 75) hpre0 hpre2; have f2 : mI S t 2 = ab 128 y.toNatClampNeg := ty.2.2.2.2.1.trans ((aZ_o (by decide) (by decide) (by decide)).symm.trans (congrFun (congrFun hpre1 128) _)); have i2 := congrArg Int32.toInt f2; have s3 : mI S 91 2 = ab 87 3 := (by rw [← hpre1]; rfl); have i3 := congrArg Int32.toInt s3; have t9 : ∀ k, mI S 92 k = ab 92 k := fun k => (aZ_9 (Or.inl rfl)).symm.trans (congrFun (congrFun hpre1 92) k); have ms := Mq_s hpre3; have ms1 := ms.1; have ms2 := ms.2.1; have ms4 := ms.2.2.2.1; have ms5 := ms.2.2.2.2.1; have tg6 := hpre4; have tgn : tg.toNat = (mI S 91 6).toNatClampNeg := (by rw [← tg6]; rfl); have k9 := congrArg Int32.toInt (t9 (mI S 91 6).toNatClampNeg); have le := rp0_S1; rw [hpre1] at le; have tl := To_l (a := ab) (t := tg) (sz := (ab 128 y.toNatClampNeg).toInt) (by rw [tgn]; omega); have u0 : (v2).toInt = rTo ab tg (ab 128 y.toNatClampNeg).toInt := (by rw [tl]; omega); have mm := i_muln (x := v2) (y := mI S 91 2) (by omega) (by omega) (by omega) (by omega); have un9 : (rTo ab tg (ab 128 y.toNatClampNeg).toInt).toNat = (v2).toNatClampNeg := (by rw [← u0]; rfl); have k8 := congrArg Int32.toInt (t9 (v2).toNatClampNeg); have mt := ms.2.2.1 (v2).toNatClampNeg (by have := tn_cast (x := v2) (by omega); omega); have he : (v2 * mI S 91 2 + mI S 92 (v2).toNatClampNeg).toInt = rTo ab tg (ab 128 y.toNatClampNeg).toInt * (ab 87 3).toInt + (ab 92 (rTo ab tg (ab 128 y.toNatClampNeg).toInt).toNat).toInt := (by rw [i_add (by omega) (by omega), mm.2.2, un9, ← u0, i3, k8]); have a0 : aZ (ma_put S 91 6 (.inl v2)) = ab := (Z_p6 hpre0).trans hpre1; have a1 := Mo_z rp1_S3 (show mI S3 91 = mI (ma_put S 91 6 (.inl v2)) 91 from funext (fun _ => zG_z hL_S3 rfl)) (show mI S3 92 = mI (ma_put S 91 6 (.inl v2)) 92 from funext (fun _ => zG_z hL_S3 rfl)) (show mI S3 93 = mI (ma_put S 91 6 (.inl v2)) 93 from funext (fun _ => zG_z hL_S3 rfl)); rw [a0] at a1; have u := xB_th (W := 75) rp0_S3 hpre2; have u2 := u.2.2.2.2.1; rw [← aZ_o (c := 128) (by decide) (by decide) (by decide), a1, Mo_r (by decide) (by decide)] at u2; have w9 : mI S3 92 (v2).toNatClampNeg = ab 92 (v2).toNatClampNeg := (congrFun (show mI S3 92 = mI (ma_put S 91 6 (.inl v2)) 92 from funext (fun _ => zG_z hL_S3 rfl)) _).trans (t9 _); refine Or.inr ⟨rfl, by rw [← u0]; omega, ?_, ?_⟩; (rw [((Z_p9 (c := 92) (n := v2.toNatClampNeg) (x := ((mI S3 92 v2.toNatClampNeg) + (mI S3 t 2))) (xC_o (W := 75) rp0_S3).2 (by decide)).trans (congrArg (fun q => ma_u q 92 v2.toNatClampNeg ((mI S3 92 v2.toNatClampNeg) + (mI S3 t 2))) (show aZ S3 = aZ S3 from rfl))), a1, u2, w9, ← un9]; rw [← un9] at he; exact M1_e he); (rw [← u0]; first | rfl | omega)))
      · skip
        have g43 := i_nlt h10
        have li44 : (93 : Int32).toInt = 93 := rfl
        refine zd (fun h45 => ?_) (fun h45 => ?_)
        · skip
          have g46 := i_le h45
          have f47 := zG_s hI (0) (1500) (c := 91) (k := 2) (by decide)
          first | have f48 := i_muln (x := v2) (y := (mI S 91 2)) (by omega) (by omega) (by omega) (by omega) | have b49 := i_bd (v2 * (mI S 91 2))
          first | have e50 : ((v2 * (mI S 91 2)) + (0 : Int32)).toInt = (v2 * (mI S 91 2)).toInt + (0) := i_addk rfl (by omega) (by omega) | have b51 := i_bd ((v2 * (mI S 91 2)) + (0 : Int32))
          have hI52 : zL91 f r C Z N (ma_put S 91 6 (.inl v2)) := zG_sp hI (-1) (92) rfl (by decide) (by decide) (by decide) trivial (by omega) (by omega)
          refine sp_90_69_s (ab := (aS 75 (ma_put S 91 6 (.inl v2)))) (R := (mR (ma_put S 91 6 (.inl v2)) 70)) (y := (y)) t (((v2 * (mI S 91 2)) + (0 : Int32))) (by omega) (by omega) (zL91_dn hI52) th_t (show xB (ma_put S 91 6 (.inl v2)) (mR (ma_put S 91 6 (.inl v2)) 70) from by first | (exact xB_x (xC_n (c := 91) (k := 6) (x := v2) (xC_o (W := 75) hpre0) ⟨by decide, Or.inl ⟨rfl, rfl⟩⟩).2)) (show aS 75 (ma_put S 91 6 (.inl v2)) = (aS 75 (ma_put S 91 6 (.inl v2))) from by first | (exact rfl)) (show zTa (mR (ma_put S 91 6 (.inl v2)) 70) (y) = some t from by first | (exact hpre2)) (show qMv (aS 75 (ma_put S 91 6 (.inl v2))) (y).toNatClampNeg ((v2 * (mI S 91 2)) + (0 : Int32)) from by first | (exfalso; omega) | (have ty := xB_th (W := 75) hpre0 hpre2; have f2 : mI S t 2 = ab 128 y.toNatClampNeg := ty.2.2.2.2.1.trans ((aZ_o (by decide) (by decide) (by decide)).symm.trans (congrFun (congrFun hpre1 128) _)); have i2 := congrArg Int32.toInt f2; have s3 : mI S 91 2 = ab 87 3 := (by rw [← hpre1]; rfl); have i3 := congrArg Int32.toInt s3; have t9 : ∀ k, mI S 92 k = ab 92 k := fun k => (aZ_9 (Or.inl rfl)).symm.trans (congrFun (congrFun hpre1 92) k); have ms := Mq_s hpre3; have ms1 := ms.1; have ms2 := ms.2.1; have ms4 := ms.2.2.2.1; have ms5 := ms.2.2.2.2.1; have tg6 := hpre4; have tgn : tg.toNat = (mI S 91 6).toNatClampNeg := (by rw [← tg6]; rfl); have k9 := congrArg Int32.toInt (t9 (mI S 91 6).toNatClampNeg); have le := rp0_S1; rw [hpre1] at le; have tl := To_l (a := ab) (t := tg) (sz := (ab 128 y.toNatClampNeg).toInt) (by rw [tgn]; omega); have u0 : (v2).toInt = rTo ab tg (ab 128 y.toNatClampNeg).toInt := (by rw [tl]; omega); have mm := i_muln (x := v2) (y := mI S 91 2) (by omega) (by omega) (by omega) (by omega); have un9 : (rTo ab tg (ab 128 y.toNatClampNeg).toInt).toNat = (v2).toNatClampNeg := (by rw [← u0]; rfl); have k8 := congrArg Int32.toInt (t9 (v2).toNatClampNeg); have mt := ms.2.2.1 (v2).toNatClampNeg (by have := tn_cast (x := v2) (by omega); omega); have he : (v2 * mI S 91 2 + mI S 92 (v2).toNatClampNeg).toInt = rTo ab tg (ab 128 y.toNatClampNeg).toInt * (ab 87 3).toInt + (ab 92 (rTo ab tg (ab 128 y.toNatClampNeg).toInt).toNat).toInt := (by rw [i_add (by omega) (by omega), mm.2.2, un9, ← u0, i3, k8]); have qv := (Mq_to hpre3 (by rw [← u0]; omega) he).1; rw [← hpre1, ← Z_p6 (x := v2) hpre0] at qv; exact Mv_Z qv)) (by omega) (fun S5 hL_S5 rp0_S5 rp1_S5 => zv_n ⟨zG_T hL_S5, ?_⟩)
          have hI_S5 := zL91_up hI52 hL_S5
          have rp0_S5 : xB S5 (mR (ma_put S 91 6 (.inl v2)) 70) := by
            have z := rp0_S5
            (try rw [show mI (ma_put S 91 6 (.inl v2)) 65 = f 65 from funext (fun k => zG_z hI52 rfl)] at z)
            (try rw [show mI (ma_put S 91 6 (.inl v2)) 64 1 = f 64 1 from zG_z hI52 rfl] at z)
            exact z
          have rp1_S5 : aS 75 S5 = aMo (aS 75 (ma_put S 91 6 (.inl v2))) (y).toNatClampNeg ((v2 * (mI S 91 2)) + (0 : Int32)) := by
            have z := rp1_S5
            (try rw [show mI (ma_put S 91 6 (.inl v2)) 65 = f 65 from funext (fun k => zG_z hI52 rfl)] at z)
            (try rw [show mI (ma_put S 91 6 (.inl v2)) 64 1 = f 64 1 from zG_z hI52 rfl] at z)
            exact z
          refine ⟨zG_n hI_S5 th_t, ?_⟩
          refine zd (fun h53 => ?_) (fun h53 => ?_)
          · skip
            have g54 := i_lt h53
            have li55 : (1 : Int32).toInt = 1 := rfl
            have q56 : (mI S5 91 6).toInt = v2.toInt := zG_zi (f := mI (ma_put S 91 6 (.inl v2))) hL_S5 rfl
            have f57 := zG_s hI_S5 (-1) (92) (c := 91) (k := 6) (by decide)
            exact K ((1 : Int32)) _ hI_S5 (by decide) (show xB S5 (mR S5 70) from by first | (exact xB_x (xC_o (W := 75) rp0_S5).2)) (show ((1 : Int32) = 0 ∧ aZ S5 = ab ∧ (mI S5 91 6).toInt = tg ∧ rTo ab tg (ab 128 y.toNatClampNeg).toInt = -1) ∨ ((1 : Int32) = 1 ∧ rTo ab tg (ab 128 y.toNatClampNeg).toInt ≠ -1 ∧ aZ S5 = rM1 ab y.toNatClampNeg (rTo ab tg (ab 128 y.toNatClampNeg).toInt) ∧ (mI S5 91 6).toInt = rTo ab tg (ab 128 y.toNatClampNeg).toInt) from by first | (exfalso; omega) | (have ty := xB_th (W := 75) hpre0 hpre2; have f2 : mI S t 2 = ab 128 y.toNatClampNeg := ty.2.2.2.2.1.trans ((aZ_o (by decide) (by decide) (by decide)).symm.trans (congrFun (congrFun hpre1 128) _)); have i2 := congrArg Int32.toInt f2; have s3 : mI S 91 2 = ab 87 3 := (by rw [← hpre1]; rfl); have i3 := congrArg Int32.toInt s3; have t9 : ∀ k, mI S 92 k = ab 92 k := fun k => (aZ_9 (Or.inl rfl)).symm.trans (congrFun (congrFun hpre1 92) k); have ms := Mq_s hpre3; have ms1 := ms.1; have ms2 := ms.2.1; have ms4 := ms.2.2.2.1; have ms5 := ms.2.2.2.2.1; have tg6 := hpre4; have tgn : tg.toNat = (mI S 91 6).toNatClampNeg := (by rw [← tg6]; rfl); have k9 := congrArg Int32.toInt (t9 (mI S 91 6).toNatClampNeg); have le := rp0_S1; rw [hpre1] at le; have tl := To_l (a := ab) (t := tg) (sz := (ab 128 y.toNatClampNeg).toInt) (by rw [tgn]; omega); have u0 : (v2).toInt = rTo ab tg (ab 128 y.toNatClampNeg).toInt := (by rw [tl]; omega); have mm := i_muln (x := v2) (y := mI S 91 2) (by omega) (by omega) (by omega) (by omega); have un9 : (rTo ab tg (ab 128 y.toNatClampNeg).toInt).toNat = (v2).toNatClampNeg := (by rw [← u0]; rfl); have k8 := congrArg Int32.toInt (t9 (v2).toNatClampNeg); have mt := ms.2.2.1 (v2).toNatClampNeg (by have := tn_cast (x := v2) (by omega); omega); have he : (v2 * mI S 91 2 + mI S 92 (v2).toNatClampNeg).toInt = rTo ab tg (ab 128 y.toNatClampNeg).toInt * (ab 87 3).toInt + (ab 92 (rTo ab tg (ab 128 y.toNatClampNeg).toInt).toNat).toInt := (by rw [i_add (by omega) (by omega), mm.2.2, un9, ← u0, i3, k8]); have a0 : aZ (ma_put S 91 6 (.inl v2)) = ab := (Z_p6 hpre0).trans hpre1; have a1 := Mo_z rp1_S5 (show mI S5 91 = mI (ma_put S 91 6 (.inl v2)) 91 from funext (fun _ => zG_z hL_S5 rfl)) (show mI S5 92 = mI (ma_put S 91 6 (.inl v2)) 92 from funext (fun _ => zG_z hL_S5 rfl)) (show mI S5 93 = mI (ma_put S 91 6 (.inl v2)) 93 from funext (fun _ => zG_z hL_S5 rfl)); rw [a0] at a1; have u := xB_th (W := 75) rp0_S5 hpre2; have u2 := u.2.2.2.2.1; rw [← aZ_o (c := 128) (by decide) (by decide) (by decide), a1, Mo_r (by decide) (by decide)] at u2; have w9 : mI S5 92 (v2).toNatClampNeg = ab 92 (v2).toNatClampNeg := (congrFun (show mI S5 92 = mI (ma_put S 91 6 (.inl v2)) 92 from funext (fun _ => zG_z hL_S5 rfl)) _).trans (t9 _); refine Or.inr ⟨rfl, by rw [← u0]; omega, ?_, ?_⟩; (rw [(show aZ S5 = aZ S5 from rfl), a1, u2, w9, ← un9]; rw [← un9] at he; exact M1_e he); (rw [← u0]; first | rfl | omega)))
          · skip
            have g58 := i_nlt h53
            refine zd (fun h59 => ?_) (fun h59 => ?_)
            · skip
              have g60 := i_le h59
              have li61 : (1 : Int32).toInt = 1 := rfl
              have q62 : (mI S5 91 6).toInt = v2.toInt := zG_zi (f := mI (ma_put S 91 6 (.inl v2))) hL_S5 rfl
              have f63 := zG_s hI_S5 (-1) (92) (c := 91) (k := 6) (by decide)
              exact K ((1 : Int32)) _ hI_S5 (by decide) (show xB S5 (mR S5 70) from by first | (exact xB_x (xC_o (W := 75) rp0_S5).2)) (show ((1 : Int32) = 0 ∧ aZ S5 = ab ∧ (mI S5 91 6).toInt = tg ∧ rTo ab tg (ab 128 y.toNatClampNeg).toInt = -1) ∨ ((1 : Int32) = 1 ∧ rTo ab tg (ab 128 y.toNatClampNeg).toInt ≠ -1 ∧ aZ S5 = rM1 ab y.toNatClampNeg (rTo ab tg (ab 128 y.toNatClampNeg).toInt) ∧ (mI S5 91 6).toInt = rTo ab tg (ab 128 y.toNatClampNeg).toInt) from by first | (exfalso; omega) | (have ty := xB_th (W := 75) hpre0 hpre2; have f2 : mI S t 2 = ab 128 y.toNatClampNeg := ty.2.2.2.2.1.trans ((aZ_o (by decide) (by decide) (by decide)).symm.trans (congrFun (congrFun hpre1 128) _)); have i2 := congrArg Int32.toInt f2; have s3 : mI S 91 2 = ab 87 3 := (by rw [← hpre1]; rfl); have i3 := congrArg Int32.toInt s3; have t9 : ∀ k, mI S 92 k = ab 92 k := fun k => (aZ_9 (Or.inl rfl)).symm.trans (congrFun (congrFun hpre1 92) k); have ms := Mq_s hpre3; have ms1 := ms.1; have ms2 := ms.2.1; have ms4 := ms.2.2.2.1; have ms5 := ms.2.2.2.2.1; have tg6 := hpre4; have tgn : tg.toNat = (mI S 91 6).toNatClampNeg := (by rw [← tg6]; rfl); have k9 := congrArg Int32.toInt (t9 (mI S 91 6).toNatClampNeg); have le := rp0_S1; rw [hpre1] at le; have tl := To_l (a := ab) (t := tg) (sz := (ab 128 y.toNatClampNeg).toInt) (by rw [tgn]; omega); have u0 : (v2).toInt = rTo ab tg (ab 128 y.toNatClampNeg).toInt := (by rw [tl]; omega); have mm := i_muln (x := v2) (y := mI S 91 2) (by omega) (by omega) (by omega) (by omega); have un9 : (rTo ab tg (ab 128 y.toNatClampNeg).toInt).toNat = (v2).toNatClampNeg := (by rw [← u0]; rfl); have k8 := congrArg Int32.toInt (t9 (v2).toNatClampNeg); have mt := ms.2.2.1 (v2).toNatClampNeg (by have := tn_cast (x := v2) (by omega); omega); have he : (v2 * mI S 91 2 + mI S 92 (v2).toNatClampNeg).toInt = rTo ab tg (ab 128 y.toNatClampNeg).toInt * (ab 87 3).toInt + (ab 92 (rTo ab tg (ab 128 y.toNatClampNeg).toInt).toNat).toInt := (by rw [i_add (by omega) (by omega), mm.2.2, un9, ← u0, i3, k8]); have a0 : aZ (ma_put S 91 6 (.inl v2)) = ab := (Z_p6 hpre0).trans hpre1; have a1 := Mo_z rp1_S5 (show mI S5 91 = mI (ma_put S 91 6 (.inl v2)) 91 from funext (fun _ => zG_z hL_S5 rfl)) (show mI S5 92 = mI (ma_put S 91 6 (.inl v2)) 92 from funext (fun _ => zG_z hL_S5 rfl)) (show mI S5 93 = mI (ma_put S 91 6 (.inl v2)) 93 from funext (fun _ => zG_z hL_S5 rfl)); rw [a0] at a1; have u := xB_th (W := 75) rp0_S5 hpre2; have u2 := u.2.2.2.2.1; rw [← aZ_o (c := 128) (by decide) (by decide) (by decide), a1, Mo_r (by decide) (by decide)] at u2; have w9 : mI S5 92 (v2).toNatClampNeg = ab 92 (v2).toNatClampNeg := (congrFun (show mI S5 92 = mI (ma_put S 91 6 (.inl v2)) 92 from funext (fun _ => zG_z hL_S5 rfl)) _).trans (t9 _); refine Or.inr ⟨rfl, by rw [← u0]; omega, ?_, ?_⟩; (rw [(show aZ S5 = aZ S5 from rfl), a1, u2, w9, ← un9]; rw [← un9] at he; exact M1_e he); (rw [← u0]; first | rfl | omega)))
            · skip
              have g64 := i_nle h59
              refine ⟨i_ix (by omega) (by omega), ?_⟩
              refine ⟨i_ix (by omega) (by omega), ?_⟩
              first | have f66 := zG_a hI 93 (0) (3000) (c := 92) (k := v2.toNatClampNeg) (by decide) (i_ix (n := 93) (by omega) (by omega)).2 | have b67 := i_bd (mI S 92 v2.toNatClampNeg)
              have q68 : (mI S5 92 v2.toNatClampNeg).toInt = (mI S 92 v2.toNatClampNeg).toInt := zG_zi (f := mI (ma_put S 91 6 (.inl v2))) hL_S5 rfl
              first | have f69 := zG_a hI_S5 93 (0) (3000) (c := 92) (k := v2.toNatClampNeg) (by decide) (i_ix (n := 93) (by omega) (by omega)).2 | have b70 := i_bd (mI S5 92 v2.toNatClampNeg)
              have f71 := zG_th hI_S5 th_t
              first | have e72 : ((mI S5 92 v2.toNatClampNeg) + (mI S5 t 2)).toInt = (mI S5 92 v2.toNatClampNeg).toInt + (mI S5 t 2).toInt := i_add (by omega) (by omega) | have b73 := i_bd ((mI S5 92 v2.toNatClampNeg) + (mI S5 t 2))
              have hI65 : zL91 f r C Z N (ma_put S5 92 v2.toNatClampNeg (.inl ((mI S5 92 v2.toNatClampNeg) + (mI S5 t 2)))) := zG_sa hI_S5 (0) (3000) rfl (by decide) (by decide) (by decide) trivial (by omega) (by omega)
              have li74 : (1 : Int32).toInt = 1 := rfl
              have q75 : (mI S5 91 6).toInt = v2.toInt := zG_zi (f := mI (ma_put S 91 6 (.inl v2))) hL_S5 rfl
              have f76 := zG_s hI_S5 (-1) (92) (c := 91) (k := 6) (by decide)
              exact K ((1 : Int32)) _ hI65 (by decide) (show xB (ma_put S5 92 v2.toNatClampNeg (.inl ((mI S5 92 v2.toNatClampNeg) + (mI S5 t 2)))) (mR (ma_put S5 92 v2.toNatClampNeg (.inl ((mI S5 92 v2.toNatClampNeg) + (mI S5 t 2)))) 70) from by first | (exact xB_x (xC_n (c := 92) (k := v2.toNatClampNeg) (x := ((mI S5 92 v2.toNatClampNeg) + (mI S5 t 2))) (xC_o (W := 75) rp0_S5) ⟨by decide, Or.inl ⟨rfl, rfl⟩⟩).2)) (show ((1 : Int32) = 0 ∧ aZ (ma_put S5 92 v2.toNatClampNeg (.inl ((mI S5 92 v2.toNatClampNeg) + (mI S5 t 2)))) = ab ∧ (mI S5 91 6).toInt = tg ∧ rTo ab tg (ab 128 y.toNatClampNeg).toInt = -1) ∨ ((1 : Int32) = 1 ∧ rTo ab tg (ab 128 y.toNatClampNeg).toInt ≠ -1 ∧ aZ (ma_put S5 92 v2.toNatClampNeg (.inl ((mI S5 92 v2.toNatClampNeg) + (mI S5 t 2)))) = rM1 ab y.toNatClampNeg (rTo ab tg (ab 128 y.toNatClampNeg).toInt) ∧ (mI S5 91 6).toInt = rTo ab tg (ab 128 y.toNatClampNeg).toInt) from by first | (exfalso; omega) | (have ty := xB_th (W := 75) hpre0 hpre2; have f2 : mI S t 2 = ab 128 y.toNatClampNeg := ty.2.2.2.2.1.trans ((aZ_o (by decide) (by decide) (by decide)).symm.trans (congrFun (congrFun hpre1 128) _)); have i2 := congrArg Int32.toInt f2; have s3 : mI S 91 2 = ab 87 3 := (by rw [← hpre1]; rfl); have i3 := congrArg Int32.toInt s3; have t9 : ∀ k, mI S 92 k = ab 92 k := fun k => (aZ_9 (Or.inl rfl)).symm.trans (congrFun (congrFun hpre1 92) k); have ms := Mq_s hpre3; have ms1 := ms.1; have ms2 := ms.2.1; have ms4 := ms.2.2.2.1; have ms5 := ms.2.2.2.2.1; have tg6 := hpre4; have tgn : tg.toNat = (mI S 91 6).toNatClampNeg := (by rw [← tg6]; rfl); have k9 := congrArg Int32.toInt (t9 (mI S 91 6).toNatClampNeg); have le := rp0_S1; rw [hpre1] at le; have tl := To_l (a := ab) (t := tg) (sz := (ab 128 y.toNatClampNeg).toInt) (by rw [tgn]; omega); have u0 : (v2).toInt = rTo ab tg (ab 128 y.toNatClampNeg).toInt := (by rw [tl]; omega); have mm := i_muln (x := v2) (y := mI S 91 2) (by omega) (by omega) (by omega) (by omega); have un9 : (rTo ab tg (ab 128 y.toNatClampNeg).toInt).toNat = (v2).toNatClampNeg := (by rw [← u0]; rfl); have k8 := congrArg Int32.toInt (t9 (v2).toNatClampNeg); have mt := ms.2.2.1 (v2).toNatClampNeg (by have := tn_cast (x := v2) (by omega); omega); have he : (v2 * mI S 91 2 + mI S 92 (v2).toNatClampNeg).toInt = rTo ab tg (ab 128 y.toNatClampNeg).toInt * (ab 87 3).toInt + (ab 92 (rTo ab tg (ab 128 y.toNatClampNeg).toInt).toNat).toInt := (by rw [i_add (by omega) (by omega), mm.2.2, un9, ← u0, i3, k8]); have a0 : aZ (ma_put S 91 6 (.inl v2)) = ab := (Z_p6 hpre0).trans hpre1; have a1 := Mo_z rp1_S5 (show mI S5 91 = mI (ma_put S 91 6 (.inl v2)) 91 from funext (fun _ => zG_z hL_S5 rfl)) (show mI S5 92 = mI (ma_put S 91 6 (.inl v2)) 92 from funext (fun _ => zG_z hL_S5 rfl)) (show mI S5 93 = mI (ma_put S 91 6 (.inl v2)) 93 from funext (fun _ => zG_z hL_S5 rfl)); rw [a0] at a1; have u := xB_th (W := 75) rp0_S5 hpre2; have u2 := u.2.2.2.2.1; rw [← aZ_o (c := 128) (by decide) (by decide) (by decide), a1, Mo_r (by decide) (by decide)] at u2; have w9 : mI S5 92 (v2).toNatClampNeg = ab 92 (v2).toNatClampNeg := (congrFun (show mI S5 92 = mI (ma_put S 91 6 (.inl v2)) 92 from funext (fun _ => zG_z hL_S5 rfl)) _).trans (t9 _); refine Or.inr ⟨rfl, by rw [← u0]; omega, ?_, ?_⟩; (rw [((Z_p9 (c := 92) (n := v2.toNatClampNeg) (x := ((mI S5 92 v2.toNatClampNeg) + (mI S5 t 2))) (xC_o (W := 75) rp0_S5).2 (by decide)).trans (congrArg (fun q => ma_u q 92 v2.toNatClampNeg ((mI S5 92 v2.toNatClampNeg) + (mI S5 t 2))) (show aZ S5 = aZ S5 from rfl))), a1, u2, w9, ← un9]; rw [← un9] at he; exact M1_e he); (rw [← u0]; first | rfl | omega)))
        · skip
          have g77 := i_nle h45
          refine ⟨i_ix (by omega) (by omega), ?_⟩
          have f78 := zG_s hI (0) (1500) (c := 91) (k := 2) (by decide)
          first | have f79 := i_muln (x := v2) (y := (mI S 91 2)) (by omega) (by omega) (by omega) (by omega) | have b80 := i_bd (v2 * (mI S 91 2))
          first | have f81 := zG_a hI 93 (0) (3000) (c := 92) (k := v2.toNatClampNeg) (by decide) (i_ix (n := 93) (by omega) (by omega)).2 | have b82 := i_bd (mI S 92 v2.toNatClampNeg)
          first | have e83 : ((v2 * (mI S 91 2)) + (mI S 92 v2.toNatClampNeg)).toInt = (v2 * (mI S 91 2)).toInt + (mI S 92 v2.toNatClampNeg).toInt := i_add (by omega) (by omega) | have b84 := i_bd ((v2 * (mI S 91 2)) + (mI S 92 v2.toNatClampNeg))
          have hI85 : zL91 f r C Z N (ma_put S 91 6 (.inl v2)) := zG_sp hI (-1) (92) rfl (by decide) (by decide) (by decide) trivial (by omega) (by omega)
          refine sp_90_69_s (ab := (aS 75 (ma_put S 91 6 (.inl v2)))) (R := (mR (ma_put S 91 6 (.inl v2)) 70)) (y := (y)) t (((v2 * (mI S 91 2)) + (mI S 92 v2.toNatClampNeg))) (by omega) (by omega) (zL91_dn hI85) th_t (show xB (ma_put S 91 6 (.inl v2)) (mR (ma_put S 91 6 (.inl v2)) 70) from by first | (exact xB_x (xC_n (c := 91) (k := 6) (x := v2) (xC_o (W := 75) hpre0) ⟨by decide, Or.inl ⟨rfl, rfl⟩⟩).2)) (show aS 75 (ma_put S 91 6 (.inl v2)) = (aS 75 (ma_put S 91 6 (.inl v2))) from by first | (exact rfl)) (show zTa (mR (ma_put S 91 6 (.inl v2)) 70) (y) = some t from by first | (exact hpre2)) (show qMv (aS 75 (ma_put S 91 6 (.inl v2))) (y).toNatClampNeg ((v2 * (mI S 91 2)) + (mI S 92 v2.toNatClampNeg)) from by first | (have ty := xB_th (W := 75) hpre0 hpre2; have f2 : mI S t 2 = ab 128 y.toNatClampNeg := ty.2.2.2.2.1.trans ((aZ_o (by decide) (by decide) (by decide)).symm.trans (congrFun (congrFun hpre1 128) _)); have i2 := congrArg Int32.toInt f2; have s3 : mI S 91 2 = ab 87 3 := (by rw [← hpre1]; rfl); have i3 := congrArg Int32.toInt s3; have t9 : ∀ k, mI S 92 k = ab 92 k := fun k => (aZ_9 (Or.inl rfl)).symm.trans (congrFun (congrFun hpre1 92) k); have ms := Mq_s hpre3; have ms1 := ms.1; have ms2 := ms.2.1; have ms4 := ms.2.2.2.1; have ms5 := ms.2.2.2.2.1; have tg6 := hpre4; have tgn : tg.toNat = (mI S 91 6).toNatClampNeg := (by rw [← tg6]; rfl); have k9 := congrArg Int32.toInt (t9 (mI S 91 6).toNatClampNeg); have le := rp0_S1; rw [hpre1] at le; have tl := To_l (a := ab) (t := tg) (sz := (ab 128 y.toNatClampNeg).toInt) (by rw [tgn]; omega); have u0 : (v2).toInt = rTo ab tg (ab 128 y.toNatClampNeg).toInt := (by rw [tl]; omega); have mm := i_muln (x := v2) (y := mI S 91 2) (by omega) (by omega) (by omega) (by omega); have un9 : (rTo ab tg (ab 128 y.toNatClampNeg).toInt).toNat = (v2).toNatClampNeg := (by rw [← u0]; rfl); have k8 := congrArg Int32.toInt (t9 (v2).toNatClampNeg); have mt := ms.2.2.1 (v2).toNatClampNeg (by have := tn_cast (x := v2) (by omega); omega); have he : (v2 * mI S 91 2 + mI S 92 (v2).toNatClampNeg).toInt = rTo ab tg (ab 128 y.toNatClampNeg).toInt * (ab 87 3).toInt + (ab 92 (rTo ab tg (ab 128 y.toNatClampNeg).toInt).toNat).toInt := (by rw [i_add (by omega) (by omega), mm.2.2, un9, ← u0, i3, k8]); have qv := (Mq_to hpre3 (by rw [← u0]; omega) he).1; rw [← hpre1, ← Z_p6 (x := v2) hpre0] at qv; exact Mv_Z qv) | (exfalso; omega)) (by omega) (fun S7 hL_S7 rp0_S7 rp1_S7 => zv_n ⟨zG_T hL_S7, ?_⟩)
          have hI_S7 := zL91_up hI85 hL_S7
          have rp0_S7 : xB S7 (mR (ma_put S 91 6 (.inl v2)) 70) := by
            have z := rp0_S7
            (try rw [show mI (ma_put S 91 6 (.inl v2)) 65 = f 65 from funext (fun k => zG_z hI85 rfl)] at z)
            (try rw [show mI (ma_put S 91 6 (.inl v2)) 64 1 = f 64 1 from zG_z hI85 rfl] at z)
            exact z
          have rp1_S7 : aS 75 S7 = aMo (aS 75 (ma_put S 91 6 (.inl v2))) (y).toNatClampNeg ((v2 * (mI S 91 2)) + (mI S 92 v2.toNatClampNeg)) := by
            have z := rp1_S7
            (try rw [show mI (ma_put S 91 6 (.inl v2)) 65 = f 65 from funext (fun k => zG_z hI85 rfl)] at z)
            (try rw [show mI (ma_put S 91 6 (.inl v2)) 64 1 = f 64 1 from zG_z hI85 rfl] at z)
            exact z
          refine ⟨zG_n hI_S7 th_t, ?_⟩
          refine zd (fun h86 => ?_) (fun h86 => ?_)
          · skip
            have g87 := i_lt h86
            have li88 : (1 : Int32).toInt = 1 := rfl
            have q89 : (mI S7 91 6).toInt = v2.toInt := zG_zi (f := mI (ma_put S 91 6 (.inl v2))) hL_S7 rfl
            have f90 := zG_s hI_S7 (-1) (92) (c := 91) (k := 6) (by decide)
            exact K ((1 : Int32)) _ hI_S7 (by decide) (show xB S7 (mR S7 70) from by first | (exact xB_x (xC_o (W := 75) rp0_S7).2)) (show ((1 : Int32) = 0 ∧ aZ S7 = ab ∧ (mI S7 91 6).toInt = tg ∧ rTo ab tg (ab 128 y.toNatClampNeg).toInt = -1) ∨ ((1 : Int32) = 1 ∧ rTo ab tg (ab 128 y.toNatClampNeg).toInt ≠ -1 ∧ aZ S7 = rM1 ab y.toNatClampNeg (rTo ab tg (ab 128 y.toNatClampNeg).toInt) ∧ (mI S7 91 6).toInt = rTo ab tg (ab 128 y.toNatClampNeg).toInt) from by first | (exfalso; omega) | (have ty := xB_th (W := 75) hpre0 hpre2; have f2 : mI S t 2 = ab 128 y.toNatClampNeg := ty.2.2.2.2.1.trans ((aZ_o (by decide) (by decide) (by decide)).symm.trans (congrFun (congrFun hpre1 128) _)); have i2 := congrArg Int32.toInt f2; have s3 : mI S 91 2 = ab 87 3 := (by rw [← hpre1]; rfl); have i3 := congrArg Int32.toInt s3; have t9 : ∀ k, mI S 92 k = ab 92 k := fun k => (aZ_9 (Or.inl rfl)).symm.trans (congrFun (congrFun hpre1 92) k); have ms := Mq_s hpre3; have ms1 := ms.1; have ms2 := ms.2.1; have ms4 := ms.2.2.2.1; have ms5 := ms.2.2.2.2.1; have tg6 := hpre4; have tgn : tg.toNat = (mI S 91 6).toNatClampNeg := (by rw [← tg6]; rfl); have k9 := congrArg Int32.toInt (t9 (mI S 91 6).toNatClampNeg); have le := rp0_S1; rw [hpre1] at le; have tl := To_l (a := ab) (t := tg) (sz := (ab 128 y.toNatClampNeg).toInt) (by rw [tgn]; omega); have u0 : (v2).toInt = rTo ab tg (ab 128 y.toNatClampNeg).toInt := (by rw [tl]; omega); have mm := i_muln (x := v2) (y := mI S 91 2) (by omega) (by omega) (by omega) (by omega); have un9 : (rTo ab tg (ab 128 y.toNatClampNeg).toInt).toNat = (v2).toNatClampNeg := (by rw [← u0]; rfl); have k8 := congrArg Int32.toInt (t9 (v2).toNatClampNeg); have mt := ms.2.2.1 (v2).toNatClampNeg (by have := tn_cast (x := v2) (by omega); omega); have he : (v2 * mI S 91 2 + mI S 92 (v2).toNatClampNeg).toInt = rTo ab tg (ab 128 y.toNatClampNeg).toInt * (ab 87 3).toInt + (ab 92 (rTo ab tg (ab 128 y.toNatClampNeg).toInt).toNat).toInt := (by rw [i_add (by omega) (by omega), mm.2.2, un9, ← u0, i3, k8]); have a0 : aZ (ma_put S 91 6 (.inl v2)) = ab := (Z_p6 hpre0).trans hpre1; have a1 := Mo_z rp1_S7 (show mI S7 91 = mI (ma_put S 91 6 (.inl v2)) 91 from funext (fun _ => zG_z hL_S7 rfl)) (show mI S7 92 = mI (ma_put S 91 6 (.inl v2)) 92 from funext (fun _ => zG_z hL_S7 rfl)) (show mI S7 93 = mI (ma_put S 91 6 (.inl v2)) 93 from funext (fun _ => zG_z hL_S7 rfl)); rw [a0] at a1; have u := xB_th (W := 75) rp0_S7 hpre2; have u2 := u.2.2.2.2.1; rw [← aZ_o (c := 128) (by decide) (by decide) (by decide), a1, Mo_r (by decide) (by decide)] at u2; have w9 : mI S7 92 (v2).toNatClampNeg = ab 92 (v2).toNatClampNeg := (congrFun (show mI S7 92 = mI (ma_put S 91 6 (.inl v2)) 92 from funext (fun _ => zG_z hL_S7 rfl)) _).trans (t9 _); refine Or.inr ⟨rfl, by rw [← u0]; omega, ?_, ?_⟩; (rw [(show aZ S7 = aZ S7 from rfl), a1, u2, w9, ← un9]; rw [← un9] at he; exact M1_e he); (rw [← u0]; first | rfl | omega)))
          · skip
            have g91 := i_nlt h86
            refine zd (fun h92 => ?_) (fun h92 => ?_)
            · skip
              have g93 := i_le h92
              have li94 : (1 : Int32).toInt = 1 := rfl
              have q95 : (mI S7 91 6).toInt = v2.toInt := zG_zi (f := mI (ma_put S 91 6 (.inl v2))) hL_S7 rfl
              have f96 := zG_s hI_S7 (-1) (92) (c := 91) (k := 6) (by decide)
              exact K ((1 : Int32)) _ hI_S7 (by decide) (show xB S7 (mR S7 70) from by first | (exact xB_x (xC_o (W := 75) rp0_S7).2)) (show ((1 : Int32) = 0 ∧ aZ S7 = ab ∧ (mI S7 91 6).toInt = tg ∧ rTo ab tg (ab 128 y.toNatClampNeg).toInt = -1) ∨ ((1 : Int32) = 1 ∧ rTo ab tg (ab 128 y.toNatClampNeg).toInt ≠ -1 ∧ aZ S7 = rM1 ab y.toNatClampNeg (rTo ab tg (ab 128 y.toNatClampNeg).toInt) ∧ (mI S7 91 6).toInt = rTo ab tg (ab 128 y.toNatClampNeg).toInt) from by first | (exfalso; omega) | (have ty := xB_th (W := 75) hpre0 hpre2; have f2 : mI S t 2 = ab 128 y.toNatClampNeg := ty.2.2.2.2.1.trans ((aZ_o (by decide) (by decide) (by decide)).symm.trans (congrFun (congrFun hpre1 128) _)); have i2 := congrArg Int32.toInt f2; have s3 : mI S 91 2 = ab 87 3 := (by rw [← hpre1]; rfl); have i3 := congrArg Int32.toInt s3; have t9 : ∀ k, mI S 92 k = ab 92 k := fun k => (aZ_9 (Or.inl rfl)).symm.trans (congrFun (congrFun hpre1 92) k); have ms := Mq_s hpre3; have ms1 := ms.1; have ms2 := ms.2.1; have ms4 := ms.2.2.2.1; have ms5 := ms.2.2.2.2.1; have tg6 := hpre4; have tgn : tg.toNat = (mI S 91 6).toNatClampNeg := (by rw [← tg6]; rfl); have k9 := congrArg Int32.toInt (t9 (mI S 91 6).toNatClampNeg); have le := rp0_S1; rw [hpre1] at le; have tl := To_l (a := ab) (t := tg) (sz := (ab 128 y.toNatClampNeg).toInt) (by rw [tgn]; omega); have u0 : (v2).toInt = rTo ab tg (ab 128 y.toNatClampNeg).toInt := (by rw [tl]; omega); have mm := i_muln (x := v2) (y := mI S 91 2) (by omega) (by omega) (by omega) (by omega); have un9 : (rTo ab tg (ab 128 y.toNatClampNeg).toInt).toNat = (v2).toNatClampNeg := (by rw [← u0]; rfl); have k8 := congrArg Int32.toInt (t9 (v2).toNatClampNeg); have mt := ms.2.2.1 (v2).toNatClampNeg (by have := tn_cast (x := v2) (by omega); omega); have he : (v2 * mI S 91 2 + mI S 92 (v2).toNatClampNeg).toInt = rTo ab tg (ab 128 y.toNatClampNeg).toInt * (ab 87 3).toInt + (ab 92 (rTo ab tg (ab 128 y.toNatClampNeg).toInt).toNat).toInt := (by rw [i_add (by omega) (by omega), mm.2.2, un9, ← u0, i3, k8]); have a0 : aZ (ma_put S 91 6 (.inl v2)) = ab := (Z_p6 hpre0).trans hpre1; have a1 := Mo_z rp1_S7 (show mI S7 91 = mI (ma_put S 91 6 (.inl v2)) 91 from funext (fun _ => zG_z hL_S7 rfl)) (show mI S7 92 = mI (ma_put S 91 6 (.inl v2)) 92 from funext (fun _ => zG_z hL_S7 rfl)) (show mI S7 93 = mI (ma_put S 91 6 (.inl v2)) 93 from funext (fun _ => zG_z hL_S7 rfl)); rw [a0] at a1; have u := xB_th (W := 75) rp0_S7 hpre2; have u2 := u.2.2.2.2.1; rw [← aZ_o (c := 128) (by decide) (by decide) (by decide), a1, Mo_r (by decide) (by decide)] at u2; have w9 : mI S7 92 (v2).toNatClampNeg = ab 92 (v2).toNatClampNeg := (congrFun (show mI S7 92 = mI (ma_put S 91 6 (.inl v2)) 92 from funext (fun _ => zG_z hL_S7 rfl)) _).trans (t9 _); refine Or.inr ⟨rfl, by rw [← u0]; omega, ?_, ?_⟩; (rw [(show aZ S7 = aZ S7 from rfl), a1, u2, w9, ← un9]; rw [← un9] at he; exact M1_e he); (rw [← u0]; first | rfl | omega)))
            · skip
              have g97 := i_nle h92
              refine ⟨i_ix (by omega) (by omega), ?_⟩
              refine ⟨i_ix (by omega) (by omega), ?_⟩
              have q99 : (mI S7 92 v2.toNatClampNeg).toInt = (mI S 92 v2.toNatClampNeg).toInt := zG_zi (f := mI (ma_put S 91 6 (.inl v2))) hL_S7 rfl
              first | have f100 := zG_a hI_S7 93 (0) (3000) (c := 92) (k := v2.toNatClampNeg) (by decide) (i_ix (n := 93) (by omega) (by omega)).2 | have b101 := i_bd (mI S7 92 v2.toNatClampNeg)
              have f102 := zG_th hI_S7 th_t
              first | have e103 : ((mI S7 92 v2.toNatClampNeg) + (mI S7 t 2)).toInt = (mI S7 92 v2.toNatClampNeg).toInt + (mI S7 t 2).toInt := i_add (by omega) (by omega) | have b104 := i_bd ((mI S7 92 v2.toNatClampNeg) + (mI S7 t 2))
              have hI98 : zL91 f r C Z N (ma_put S7 92 v2.toNatClampNeg (.inl ((mI S7 92 v2.toNatClampNeg) + (mI S7 t 2)))) := zG_sa hI_S7 (0) (3000) rfl (by decide) (by decide) (by decide) trivial (by omega) (by omega)
              have li105 : (1 : Int32).toInt = 1 := rfl
              have q106 : (mI S7 91 6).toInt = v2.toInt := zG_zi (f := mI (ma_put S 91 6 (.inl v2))) hL_S7 rfl
              have f107 := zG_s hI_S7 (-1) (92) (c := 91) (k := 6) (by decide)
              exact K ((1 : Int32)) _ hI98 (by decide) (show xB (ma_put S7 92 v2.toNatClampNeg (.inl ((mI S7 92 v2.toNatClampNeg) + (mI S7 t 2)))) (mR (ma_put S7 92 v2.toNatClampNeg (.inl ((mI S7 92 v2.toNatClampNeg) + (mI S7 t 2)))) 70) from by first | (exact xB_x (xC_n (c := 92) (k := v2.toNatClampNeg) (x := ((mI S7 92 v2.toNatClampNeg) + (mI S7 t 2))) (xC_o (W := 75) rp0_S7) ⟨by decide, Or.inl ⟨rfl, rfl⟩⟩).2)) (show ((1 : Int32) = 0 ∧ aZ (ma_put S7 92 v2.toNatClampNeg (.inl ((mI S7 92 v2.toNatClampNeg) + (mI S7 t 2)))) = ab ∧ (mI S7 91 6).toInt = tg ∧ rTo ab tg (ab 128 y.toNatClampNeg).toInt = -1) ∨ ((1 : Int32) = 1 ∧ rTo ab tg (ab 128 y.toNatClampNeg).toInt ≠ -1 ∧ aZ (ma_put S7 92 v2.toNatClampNeg (.inl ((mI S7 92 v2.toNatClampNeg) + (mI S7 t 2)))) = rM1 ab y.toNatClampNeg (rTo ab tg (ab 128 y.toNatClampNeg).toInt) ∧ (mI S7 91 6).toInt = rTo ab tg (ab 128 y.toNatClampNeg).toInt) from by first | (have ty := xB_th (W := 75) hpre0 hpre2; have f2 : mI S t 2 = ab 128 y.toNatClampNeg := ty.2.2.2.2.1.trans ((aZ_o (by decide) (by decide) (by decide)).symm.trans (congrFun (congrFun hpre1 128) _)); have i2 := congrArg Int32.toInt f2; have s3 : mI S 91 2 = ab 87 3 := (by rw [← hpre1]; rfl); have i3 := congrArg Int32.toInt s3; have t9 : ∀ k, mI S 92 k = ab 92 k := fun k => (aZ_9 (Or.inl rfl)).symm.trans (congrFun (congrFun hpre1 92) k); have ms := Mq_s hpre3; have ms1 := ms.1; have ms2 := ms.2.1; have ms4 := ms.2.2.2.1; have ms5 := ms.2.2.2.2.1; have tg6 := hpre4; have tgn : tg.toNat = (mI S 91 6).toNatClampNeg := (by rw [← tg6]; rfl); have k9 := congrArg Int32.toInt (t9 (mI S 91 6).toNatClampNeg); have le := rp0_S1; rw [hpre1] at le; have tl := To_l (a := ab) (t := tg) (sz := (ab 128 y.toNatClampNeg).toInt) (by rw [tgn]; omega); have u0 : (v2).toInt = rTo ab tg (ab 128 y.toNatClampNeg).toInt := (by rw [tl]; omega); have mm := i_muln (x := v2) (y := mI S 91 2) (by omega) (by omega) (by omega) (by omega); have un9 : (rTo ab tg (ab 128 y.toNatClampNeg).toInt).toNat = (v2).toNatClampNeg := (by rw [← u0]; rfl); have k8 := congrArg Int32.toInt (t9 (v2).toNatClampNeg); have mt := ms.2.2.1 (v2).toNatClampNeg (by have := tn_cast (x := v2) (by omega); omega); have he : (v2 * mI S 91 2 + mI S 92 (v2).toNatClampNeg).toInt = rTo ab tg (ab 128 y.toNatClampNeg).toInt * (ab 87 3).toInt + (ab 92 (rTo ab tg (ab 128 y.toNatClampNeg).toInt).toNat).toInt := (by rw [i_add (by omega) (by omega), mm.2.2, un9, ← u0, i3, k8]); have a0 : aZ (ma_put S 91 6 (.inl v2)) = ab := (Z_p6 hpre0).trans hpre1; have a1 := Mo_z rp1_S7 (show mI S7 91 = mI (ma_put S 91 6 (.inl v2)) 91 from funext (fun _ => zG_z hL_S7 rfl)) (show mI S7 92 = mI (ma_put S 91 6 (.inl v2)) 92 from funext (fun _ => zG_z hL_S7 rfl)) (show mI S7 93 = mI (ma_put S 91 6 (.inl v2)) 93 from funext (fun _ => zG_z hL_S7 rfl)); rw [a0] at a1; have u := xB_th (W := 75) rp0_S7 hpre2; have u2 := u.2.2.2.2.1; rw [← aZ_o (c := 128) (by decide) (by decide) (by decide), a1, Mo_r (by decide) (by decide)] at u2; have w9 : mI S7 92 (v2).toNatClampNeg = ab 92 (v2).toNatClampNeg := (congrFun (show mI S7 92 = mI (ma_put S 91 6 (.inl v2)) 92 from funext (fun _ => zG_z hL_S7 rfl)) _).trans (t9 _); refine Or.inr ⟨rfl, by rw [← u0]; omega, ?_, ?_⟩; (rw [((Z_p9 (c := 92) (n := v2.toNatClampNeg) (x := ((mI S7 92 v2.toNatClampNeg) + (mI S7 t 2))) (xC_o (W := 75) rp0_S7).2 (by decide)).trans (congrArg (fun q => ma_u q 92 v2.toNatClampNeg ((mI S7 92 v2.toNatClampNeg) + (mI S7 t 2))) (show aZ S7 = aZ S7 from rfl))), a1, u2, w9, ← un9]; rw [← un9] at he; exact M1_e he); (rw [← u0]; first | omega | rfl)) | (exfalso; omega))
  · skip
    have g108 := i_nlt h3
    have li109 : (93 : Int32).toInt = 93 := rfl
    refine zd (fun h110 => ?_) (fun h110 => ?_)
    · skip
      have g111 := i_le h110
      refine sp_52_91_sz  (by omega) (by omega) hI  (fun v10 S9 eS_S9 hp_v10 rp0_S9 => zi_n ⟨(by rw [eS_S9]; exact zG_T hI), ?_⟩)
      replace eS_S9 := eS_S9.symm; subst eS_S9
      have rp0_S9 : v10.toInt = rLe (aZ S) := rp0_S9
      have b112 := i_bd v10
      have li113 : (-1 : Int32).toInt = -1 := rfl
      refine zd (fun h114 => ?_) (fun h114 => ?_)
      · skip
        have g115 := i_eq h114
        exact K ((0 : Int32)) _ hI (by decide) (show xB S (mR S 70) from by first | (exact xB_x (xC_o (W := 75) hpre0).2)) (show ((0 : Int32) = 0 ∧ aZ S = ab ∧ (mI S 91 6).toInt = tg ∧ rTo ab tg (ab 128 y.toNatClampNeg).toInt = -1) ∨ ((0 : Int32) = 1 ∧ rTo ab tg (ab 128 y.toNatClampNeg).toInt ≠ -1 ∧ aZ S = rM1 ab y.toNatClampNeg (rTo ab tg (ab 128 y.toNatClampNeg).toInt) ∧ (mI S 91 6).toInt = rTo ab tg (ab 128 y.toNatClampNeg).toInt) from by first | (exfalso; omega) | (have ty := xB_th (W := 75) hpre0 hpre2; have f2 : mI S t 2 = ab 128 y.toNatClampNeg := ty.2.2.2.2.1.trans ((aZ_o (by decide) (by decide) (by decide)).symm.trans (congrFun (congrFun hpre1 128) _)); have i2 := congrArg Int32.toInt f2; have s3 : mI S 91 2 = ab 87 3 := (by rw [← hpre1]; rfl); have i3 := congrArg Int32.toInt s3; have t9 : ∀ k, mI S 92 k = ab 92 k := fun k => (aZ_9 (Or.inl rfl)).symm.trans (congrFun (congrFun hpre1 92) k); have ms := Mq_s hpre3; have ms1 := ms.1; have ms2 := ms.2.1; have ms4 := ms.2.2.2.1; have ms5 := ms.2.2.2.2.1; have tg6 := hpre4; have tgn : tg.toNat = (mI S 91 6).toNatClampNeg := (by rw [← tg6]; rfl); have k9 := congrArg Int32.toInt (t9 (mI S 91 6).toNatClampNeg); have le := rp0_S9; rw [hpre1] at le; have tl := To_l (a := ab) (t := tg) (sz := (ab 128 y.toNatClampNeg).toInt) (by rw [tgn]; omega); exact Or.inl ⟨rfl, hpre1, tg6, by rw [tl]; omega⟩))
      · skip
        have g116 := i_ne h114
        refine zd (fun h117 => ?_) (fun h117 => ?_)
        · skip
          have g118 := i_lt h117
          have f119 := zG_s hI (0) (1500) (c := 91) (k := 2) (by decide)
          first | have f120 := i_muln (x := v10) (y := (mI S 91 2)) (by omega) (by omega) (by omega) (by omega) | have b121 := i_bd (v10 * (mI S 91 2))
          first | have e122 : ((v10 * (mI S 91 2)) + (0 : Int32)).toInt = (v10 * (mI S 91 2)).toInt + (0) := i_addk rfl (by omega) (by omega) | have b123 := i_bd ((v10 * (mI S 91 2)) + (0 : Int32))
          have hI124 : zL91 f r C Z N (ma_put S 91 6 (.inl v10)) := zG_sp hI (-1) (92) rfl (by decide) (by decide) (by decide) trivial (by omega) (by omega)
          refine sp_90_69_s (ab := (aS 75 (ma_put S 91 6 (.inl v10)))) (R := (mR (ma_put S 91 6 (.inl v10)) 70)) (y := (y)) t (((v10 * (mI S 91 2)) + (0 : Int32))) (by omega) (by omega) (zL91_dn hI124) th_t (show xB (ma_put S 91 6 (.inl v10)) (mR (ma_put S 91 6 (.inl v10)) 70) from by first | (exact xB_x (xC_n (c := 91) (k := 6) (x := v10) (xC_o (W := 75) hpre0) ⟨by decide, Or.inl ⟨rfl, rfl⟩⟩).2)) (show aS 75 (ma_put S 91 6 (.inl v10)) = (aS 75 (ma_put S 91 6 (.inl v10))) from by first | (exact rfl)) (show zTa (mR (ma_put S 91 6 (.inl v10)) 70) (y) = some t from by first | (exact hpre2)) (show qMv (aS 75 (ma_put S 91 6 (.inl v10))) (y).toNatClampNeg ((v10 * (mI S 91 2)) + (0 : Int32)) from by first | (exfalso; omega) | (have ty := xB_th (W := 75) hpre0 hpre2; have f2 : mI S t 2 = ab 128 y.toNatClampNeg := ty.2.2.2.2.1.trans ((aZ_o (by decide) (by decide) (by decide)).symm.trans (congrFun (congrFun hpre1 128) _)); have i2 := congrArg Int32.toInt f2; have s3 : mI S 91 2 = ab 87 3 := (by rw [← hpre1]; rfl); have i3 := congrArg Int32.toInt s3; have t9 : ∀ k, mI S 92 k = ab 92 k := fun k => (aZ_9 (Or.inl rfl)).symm.trans (congrFun (congrFun hpre1 92) k); have ms := Mq_s hpre3; have ms1 := ms.1; have ms2 := ms.2.1; have ms4 := ms.2.2.2.1; have ms5 := ms.2.2.2.2.1; have tg6 := hpre4; have tgn : tg.toNat = (mI S 91 6).toNatClampNeg := (by rw [← tg6]; rfl); have k9 := congrArg Int32.toInt (t9 (mI S 91 6).toNatClampNeg); have le := rp0_S9; rw [hpre1] at le; have tl := To_l (a := ab) (t := tg) (sz := (ab 128 y.toNatClampNeg).toInt) (by rw [tgn]; omega); have u0 : (v10).toInt = rTo ab tg (ab 128 y.toNatClampNeg).toInt := (by rw [tl]; omega); have mm := i_muln (x := v10) (y := mI S 91 2) (by omega) (by omega) (by omega) (by omega); have un9 : (rTo ab tg (ab 128 y.toNatClampNeg).toInt).toNat = (v10).toNatClampNeg := (by rw [← u0]; rfl); have k8 := congrArg Int32.toInt (t9 (v10).toNatClampNeg); have mt := ms.2.2.1 (v10).toNatClampNeg (by have := tn_cast (x := v10) (by omega); omega); have he : (v10 * mI S 91 2 + mI S 92 (v10).toNatClampNeg).toInt = rTo ab tg (ab 128 y.toNatClampNeg).toInt * (ab 87 3).toInt + (ab 92 (rTo ab tg (ab 128 y.toNatClampNeg).toInt).toNat).toInt := (by rw [i_add (by omega) (by omega), mm.2.2, un9, ← u0, i3, k8]); have qv := (Mq_to hpre3 (by rw [← u0]; omega) he).1; rw [← hpre1, ← Z_p6 (x := v10) hpre0] at qv; exact Mv_Z qv)) (by omega) (fun S11 hL_S11 rp0_S11 rp1_S11 => zv_n ⟨zG_T hL_S11, ?_⟩)
          have hI_S11 := zL91_up hI124 hL_S11
          have rp0_S11 : xB S11 (mR (ma_put S 91 6 (.inl v10)) 70) := by
            have z := rp0_S11
            (try rw [show mI (ma_put S 91 6 (.inl v10)) 65 = f 65 from funext (fun k => zG_z hI124 rfl)] at z)
            (try rw [show mI (ma_put S 91 6 (.inl v10)) 64 1 = f 64 1 from zG_z hI124 rfl] at z)
            exact z
          have rp1_S11 : aS 75 S11 = aMo (aS 75 (ma_put S 91 6 (.inl v10))) (y).toNatClampNeg ((v10 * (mI S 91 2)) + (0 : Int32)) := by
            have z := rp1_S11
            (try rw [show mI (ma_put S 91 6 (.inl v10)) 65 = f 65 from funext (fun k => zG_z hI124 rfl)] at z)
            (try rw [show mI (ma_put S 91 6 (.inl v10)) 64 1 = f 64 1 from zG_z hI124 rfl] at z)
            exact z
          refine ⟨zG_n hI_S11 th_t, ?_⟩
          refine zd (fun h125 => ?_) (fun h125 => ?_)
          · skip
            have g126 := i_lt h125
            have li127 : (1 : Int32).toInt = 1 := rfl
            have q128 : (mI S11 91 6).toInt = v10.toInt := zG_zi (f := mI (ma_put S 91 6 (.inl v10))) hL_S11 rfl
            have f129 := zG_s hI_S11 (-1) (92) (c := 91) (k := 6) (by decide)
            exact K ((1 : Int32)) _ hI_S11 (by decide) (show xB S11 (mR S11 70) from by first | (exact xB_x (xC_o (W := 75) rp0_S11).2)) (show ((1 : Int32) = 0 ∧ aZ S11 = ab ∧ (mI S11 91 6).toInt = tg ∧ rTo ab tg (ab 128 y.toNatClampNeg).toInt = -1) ∨ ((1 : Int32) = 1 ∧ rTo ab tg (ab 128 y.toNatClampNeg).toInt ≠ -1 ∧ aZ S11 = rM1 ab y.toNatClampNeg (rTo ab tg (ab 128 y.toNatClampNeg).toInt) ∧ (mI S11 91 6).toInt = rTo ab tg (ab 128 y.toNatClampNeg).toInt) from by first | (exfalso; omega) | (have ty := xB_th (W := 75) hpre0 hpre2; have f2 : mI S t 2 = ab 128 y.toNatClampNeg := ty.2.2.2.2.1.trans ((aZ_o (by decide) (by decide) (by decide)).symm.trans (congrFun (congrFun hpre1 128) _)); have i2 := congrArg Int32.toInt f2; have s3 : mI S 91 2 = ab 87 3 := (by rw [← hpre1]; rfl); have i3 := congrArg Int32.toInt s3; have t9 : ∀ k, mI S 92 k = ab 92 k := fun k => (aZ_9 (Or.inl rfl)).symm.trans (congrFun (congrFun hpre1 92) k); have ms := Mq_s hpre3; have ms1 := ms.1; have ms2 := ms.2.1; have ms4 := ms.2.2.2.1; have ms5 := ms.2.2.2.2.1; have tg6 := hpre4; have tgn : tg.toNat = (mI S 91 6).toNatClampNeg := (by rw [← tg6]; rfl); have k9 := congrArg Int32.toInt (t9 (mI S 91 6).toNatClampNeg); have le := rp0_S9; rw [hpre1] at le; have tl := To_l (a := ab) (t := tg) (sz := (ab 128 y.toNatClampNeg).toInt) (by rw [tgn]; omega); have u0 : (v10).toInt = rTo ab tg (ab 128 y.toNatClampNeg).toInt := (by rw [tl]; omega); have mm := i_muln (x := v10) (y := mI S 91 2) (by omega) (by omega) (by omega) (by omega); have un9 : (rTo ab tg (ab 128 y.toNatClampNeg).toInt).toNat = (v10).toNatClampNeg := (by rw [← u0]; rfl); have k8 := congrArg Int32.toInt (t9 (v10).toNatClampNeg); have mt := ms.2.2.1 (v10).toNatClampNeg (by have := tn_cast (x := v10) (by omega); omega); have he : (v10 * mI S 91 2 + mI S 92 (v10).toNatClampNeg).toInt = rTo ab tg (ab 128 y.toNatClampNeg).toInt * (ab 87 3).toInt + (ab 92 (rTo ab tg (ab 128 y.toNatClampNeg).toInt).toNat).toInt := (by rw [i_add (by omega) (by omega), mm.2.2, un9, ← u0, i3, k8]); have a0 : aZ (ma_put S 91 6 (.inl v10)) = ab := (Z_p6 hpre0).trans hpre1; have a1 := Mo_z rp1_S11 (show mI S11 91 = mI (ma_put S 91 6 (.inl v10)) 91 from funext (fun _ => zG_z hL_S11 rfl)) (show mI S11 92 = mI (ma_put S 91 6 (.inl v10)) 92 from funext (fun _ => zG_z hL_S11 rfl)) (show mI S11 93 = mI (ma_put S 91 6 (.inl v10)) 93 from funext (fun _ => zG_z hL_S11 rfl)); rw [a0] at a1; have u := xB_th (W := 75) rp0_S11 hpre2; have u2 := u.2.2.2.2.1; rw [← aZ_o (c := 128) (by decide) (by decide) (by decide), a1, Mo_r (by decide) (by decide)] at u2; have w9 : mI S11 92 (v10).toNatClampNeg = ab 92 (v10).toNatClampNeg := (congrFun (show mI S11 92 = mI (ma_put S 91 6 (.inl v10)) 92 from funext (fun _ => zG_z hL_S11 rfl)) _).trans (t9 _); refine Or.inr ⟨rfl, by rw [← u0]; omega, ?_, ?_⟩; (rw [(show aZ S11 = aZ S11 from rfl), a1, u2, w9, ← un9]; rw [← un9] at he; exact M1_e he); (rw [← u0]; first | rfl | omega)))
          · skip
            have g130 := i_nlt h125
            refine zd (fun h131 => ?_) (fun h131 => ?_)
            · skip
              have g132 := i_le h131
              have li133 : (1 : Int32).toInt = 1 := rfl
              have q134 : (mI S11 91 6).toInt = v10.toInt := zG_zi (f := mI (ma_put S 91 6 (.inl v10))) hL_S11 rfl
              have f135 := zG_s hI_S11 (-1) (92) (c := 91) (k := 6) (by decide)
              exact K ((1 : Int32)) _ hI_S11 (by decide) (show xB S11 (mR S11 70) from by first | (exact xB_x (xC_o (W := 75) rp0_S11).2)) (show ((1 : Int32) = 0 ∧ aZ S11 = ab ∧ (mI S11 91 6).toInt = tg ∧ rTo ab tg (ab 128 y.toNatClampNeg).toInt = -1) ∨ ((1 : Int32) = 1 ∧ rTo ab tg (ab 128 y.toNatClampNeg).toInt ≠ -1 ∧ aZ S11 = rM1 ab y.toNatClampNeg (rTo ab tg (ab 128 y.toNatClampNeg).toInt) ∧ (mI S11 91 6).toInt = rTo ab tg (ab 128 y.toNatClampNeg).toInt) from by first | (exfalso; omega) | (have ty := xB_th (W := 75) hpre0 hpre2; have f2 : mI S t 2 = ab 128 y.toNatClampNeg := ty.2.2.2.2.1.trans ((aZ_o (by decide) (by decide) (by decide)).symm.trans (congrFun (congrFun hpre1 128) _)); have i2 := congrArg Int32.toInt f2; have s3 : mI S 91 2 = ab 87 3 := (by rw [← hpre1]; rfl); have i3 := congrArg Int32.toInt s3; have t9 : ∀ k, mI S 92 k = ab 92 k := fun k => (aZ_9 (Or.inl rfl)).symm.trans (congrFun (congrFun hpre1 92) k); have ms := Mq_s hpre3; have ms1 := ms.1; have ms2 := ms.2.1; have ms4 := ms.2.2.2.1; have ms5 := ms.2.2.2.2.1; have tg6 := hpre4; have tgn : tg.toNat = (mI S 91 6).toNatClampNeg := (by rw [← tg6]; rfl); have k9 := congrArg Int32.toInt (t9 (mI S 91 6).toNatClampNeg); have le := rp0_S9; rw [hpre1] at le; have tl := To_l (a := ab) (t := tg) (sz := (ab 128 y.toNatClampNeg).toInt) (by rw [tgn]; omega); have u0 : (v10).toInt = rTo ab tg (ab 128 y.toNatClampNeg).toInt := (by rw [tl]; omega); have mm := i_muln (x := v10) (y := mI S 91 2) (by omega) (by omega) (by omega) (by omega); have un9 : (rTo ab tg (ab 128 y.toNatClampNeg).toInt).toNat = (v10).toNatClampNeg := (by rw [← u0]; rfl); have k8 := congrArg Int32.toInt (t9 (v10).toNatClampNeg); have mt := ms.2.2.1 (v10).toNatClampNeg (by have := tn_cast (x := v10) (by omega); omega); have he : (v10 * mI S 91 2 + mI S 92 (v10).toNatClampNeg).toInt = rTo ab tg (ab 128 y.toNatClampNeg).toInt * (ab 87 3).toInt + (ab 92 (rTo ab tg (ab 128 y.toNatClampNeg).toInt).toNat).toInt := (by rw [i_add (by omega) (by omega), mm.2.2, un9, ← u0, i3, k8]); have a0 : aZ (ma_put S 91 6 (.inl v10)) = ab := (Z_p6 hpre0).trans hpre1; have a1 := Mo_z rp1_S11 (show mI S11 91 = mI (ma_put S 91 6 (.inl v10)) 91 from funext (fun _ => zG_z hL_S11 rfl)) (show mI S11 92 = mI (ma_put S 91 6 (.inl v10)) 92 from funext (fun _ => zG_z hL_S11 rfl)) (show mI S11 93 = mI (ma_put S 91 6 (.inl v10)) 93 from funext (fun _ => zG_z hL_S11 rfl)); rw [a0] at a1; have u := xB_th (W := 75) rp0_S11 hpre2; have u2 := u.2.2.2.2.1; rw [← aZ_o (c := 128) (by decide) (by decide) (by decide), a1, Mo_r (by decide) (by decide)] at u2; have w9 : mI S11 92 (v10).toNatClampNeg = ab 92 (v10).toNatClampNeg := (congrFun (show mI S11 92 = mI (ma_put S 91 6 (.inl v10)) 92 from funext (fun _ => zG_z hL_S11 rfl)) _).trans (t9 _); refine Or.inr ⟨rfl, by rw [← u0]; omega, ?_, ?_⟩; (rw [(show aZ S11 = aZ S11 from rfl), a1, u2, w9, ← un9]; rw [← un9] at he; exact M1_e he); (rw [← u0]; first | rfl | omega)))
            · skip
              have g136 := i_nle h131
              refine ⟨i_ix (by omega) (by omega), ?_⟩
              refine ⟨i_ix (by omega) (by omega), ?_⟩
              first | have f138 := zG_a hI 93 (0) (3000) (c := 92) (k := v10.toNatClampNeg) (by decide) (i_ix (n := 93) (by omega) (by omega)).2 | have b139 := i_bd (mI S 92 v10.toNatClampNeg)
              have q140 : (mI S11 92 v10.toNatClampNeg).toInt = (mI S 92 v10.toNatClampNeg).toInt := zG_zi (f := mI (ma_put S 91 6 (.inl v10))) hL_S11 rfl
              first | have f141 := zG_a hI_S11 93 (0) (3000) (c := 92) (k := v10.toNatClampNeg) (by decide) (i_ix (n := 93) (by omega) (by omega)).2 | have b142 := i_bd (mI S11 92 v10.toNatClampNeg)
              have f143 := zG_th hI_S11 th_t
              first | have e144 : ((mI S11 92 v10.toNatClampNeg) + (mI S11 t 2)).toInt = (mI S11 92 v10.toNatClampNeg).toInt + (mI S11 t 2).toInt := i_add (by omega) (by omega) | have b145 := i_bd ((mI S11 92 v10.toNatClampNeg) + (mI S11 t 2))
              have hI137 : zL91 f r C Z N (ma_put S11 92 v10.toNatClampNeg (.inl ((mI S11 92 v10.toNatClampNeg) + (mI S11 t 2)))) := zG_sa hI_S11 (0) (3000) rfl (by decide) (by decide) (by decide) trivial (by omega) (by omega)
              have li146 : (1 : Int32).toInt = 1 := rfl
              have q147 : (mI S11 91 6).toInt = v10.toInt := zG_zi (f := mI (ma_put S 91 6 (.inl v10))) hL_S11 rfl
              have f148 := zG_s hI_S11 (-1) (92) (c := 91) (k := 6) (by decide)
              exact K ((1 : Int32)) _ hI137 (by decide) (show xB (ma_put S11 92 v10.toNatClampNeg (.inl ((mI S11 92 v10.toNatClampNeg) + (mI S11 t 2)))) (mR (ma_put S11 92 v10.toNatClampNeg (.inl ((mI S11 92 v10.toNatClampNeg) + (mI S11 t 2)))) 70) from by first | (exact xB_x (xC_n (c := 92) (k := v10.toNatClampNeg) (x := ((mI S11 92 v10.toNatClampNeg) + (mI S11 t 2))) (xC_o (W := 75) rp0_S11) ⟨by decide, Or.inl ⟨rfl, rfl⟩⟩).2)) (show ((1 : Int32) = 0 ∧ aZ (ma_put S11 92 v10.toNatClampNeg (.inl ((mI S11 92 v10.toNatClampNeg) + (mI S11 t 2)))) = ab ∧ (mI S11 91 6).toInt = tg ∧ rTo ab tg (ab 128 y.toNatClampNeg).toInt = -1) ∨ ((1 : Int32) = 1 ∧ rTo ab tg (ab 128 y.toNatClampNeg).toInt ≠ -1 ∧ aZ (ma_put S11 92 v10.toNatClampNeg (.inl ((mI S11 92 v10.toNatClampNeg) + (mI S11 t 2)))) = rM1 ab y.toNatClampNeg (rTo ab tg (ab 128 y.toNatClampNeg).toInt) ∧ (mI S11 91 6).toInt = rTo ab tg (ab 128 y.toNatClampNeg).toInt) from by first | (exfalso; omega) | (have ty := xB_th (W := 75) hpre0 hpre2; have f2 : mI S t 2 = ab 128 y.toNatClampNeg := ty.2.2.2.2.1.trans ((aZ_o (by decide) (by decide) (by decide)).symm.trans (congrFun (congrFun hpre1 128) _)); have i2 := congrArg Int32.toInt f2; have s3 : mI S 91 2 = ab 87 3 := (by rw [← hpre1]; rfl); have i3 := congrArg Int32.toInt s3; have t9 : ∀ k, mI S 92 k = ab 92 k := fun k => (aZ_9 (Or.inl rfl)).symm.trans (congrFun (congrFun hpre1 92) k); have ms := Mq_s hpre3; have ms1 := ms.1; have ms2 := ms.2.1; have ms4 := ms.2.2.2.1; have ms5 := ms.2.2.2.2.1; have tg6 := hpre4; have tgn : tg.toNat = (mI S 91 6).toNatClampNeg := (by rw [← tg6]; rfl); have k9 := congrArg Int32.toInt (t9 (mI S 91 6).toNatClampNeg); have le := rp0_S9; rw [hpre1] at le; have tl := To_l (a := ab) (t := tg) (sz := (ab 128 y.toNatClampNeg).toInt) (by rw [tgn]; omega); have u0 : (v10).toInt = rTo ab tg (ab 128 y.toNatClampNeg).toInt := (by rw [tl]; omega); have mm := i_muln (x := v10) (y := mI S 91 2) (by omega) (by omega) (by omega) (by omega); have un9 : (rTo ab tg (ab 128 y.toNatClampNeg).toInt).toNat = (v10).toNatClampNeg := (by rw [← u0]; rfl); have k8 := congrArg Int32.toInt (t9 (v10).toNatClampNeg); have mt := ms.2.2.1 (v10).toNatClampNeg (by have := tn_cast (x := v10) (by omega); omega); have he : (v10 * mI S 91 2 + mI S 92 (v10).toNatClampNeg).toInt = rTo ab tg (ab 128 y.toNatClampNeg).toInt * (ab 87 3).toInt + (ab 92 (rTo ab tg (ab 128 y.toNatClampNeg).toInt).toNat).toInt := (by rw [i_add (by omega) (by omega), mm.2.2, un9, ← u0, i3, k8]); have a0 : aZ (ma_put S 91 6 (.inl v10)) = ab := (Z_p6 hpre0).trans hpre1; have a1 := Mo_z rp1_S11 (show mI S11 91 = mI (ma_put S 91 6 (.inl v10)) 91 from funext (fun _ => zG_z hL_S11 rfl)) (show mI S11 92 = mI (ma_put S 91 6 (.inl v10)) 92 from funext (fun _ => zG_z hL_S11 rfl)) (show mI S11 93 = mI (ma_put S 91 6 (.inl v10)) 93 from funext (fun _ => zG_z hL_S11 rfl)); rw [a0] at a1; have u := xB_th (W := 75) rp0_S11 hpre2; have u2 := u.2.2.2.2.1; rw [← aZ_o (c := 128) (by decide) (by decide) (by decide), a1, Mo_r (by decide) (by decide)] at u2; have w9 : mI S11 92 (v10).toNatClampNeg = ab 92 (v10).toNatClampNeg := (congrFun (show mI S11 92 = mI (ma_put S 91 6 (.inl v10)) 92 from funext (fun _ => zG_z hL_S11 rfl)) _).trans (t9 _); refine Or.inr ⟨rfl, by rw [← u0]; omega, ?_, ?_⟩; (rw [((Z_p9 (c := 92) (n := v10.toNatClampNeg) (x := ((mI S11 92 v10.toNatClampNeg) + (mI S11 t 2))) (xC_o (W := 75) rp0_S11).2 (by decide)).trans (congrArg (fun q => ma_u q 92 v10.toNatClampNeg ((mI S11 92 v10.toNatClampNeg) + (mI S11 t 2))) (show aZ S11 = aZ S11 from rfl))), a1, u2, w9, ← un9]; rw [← un9] at he; exact M1_e he); (rw [← u0]; first | rfl | omega)))
        · skip
          have g149 := i_nlt h117
          refine zd (fun h150 => ?_) (fun h150 => ?_)
          · skip
            have g151 := i_le h150
            have f152 := zG_s hI (0) (1500) (c := 91) (k := 2) (by decide)
            first | have f153 := i_muln (x := v10) (y := (mI S 91 2)) (by omega) (by omega) (by omega) (by omega) | have b154 := i_bd (v10 * (mI S 91 2))
            first | have e155 : ((v10 * (mI S 91 2)) + (0 : Int32)).toInt = (v10 * (mI S 91 2)).toInt + (0) := i_addk rfl (by omega) (by omega) | have b156 := i_bd ((v10 * (mI S 91 2)) + (0 : Int32))
            have hI157 : zL91 f r C Z N (ma_put S 91 6 (.inl v10)) := zG_sp hI (-1) (92) rfl (by decide) (by decide) (by decide) trivial (by omega) (by omega)
            refine sp_90_69_s (ab := (aS 75 (ma_put S 91 6 (.inl v10)))) (R := (mR (ma_put S 91 6 (.inl v10)) 70)) (y := (y)) t (((v10 * (mI S 91 2)) + (0 : Int32))) (by omega) (by omega) (zL91_dn hI157) th_t (show xB (ma_put S 91 6 (.inl v10)) (mR (ma_put S 91 6 (.inl v10)) 70) from by first | (exact xB_x (xC_n (c := 91) (k := 6) (x := v10) (xC_o (W := 75) hpre0) ⟨by decide, Or.inl ⟨rfl, rfl⟩⟩).2)) (show aS 75 (ma_put S 91 6 (.inl v10)) = (aS 75 (ma_put S 91 6 (.inl v10))) from by first | (exact rfl)) (show zTa (mR (ma_put S 91 6 (.inl v10)) 70) (y) = some t from by first | (exact hpre2)) (show qMv (aS 75 (ma_put S 91 6 (.inl v10))) (y).toNatClampNeg ((v10 * (mI S 91 2)) + (0 : Int32)) from by first | (exfalso; omega) | (have ty := xB_th (W := 75) hpre0 hpre2; have f2 : mI S t 2 = ab 128 y.toNatClampNeg := ty.2.2.2.2.1.trans ((aZ_o (by decide) (by decide) (by decide)).symm.trans (congrFun (congrFun hpre1 128) _)); have i2 := congrArg Int32.toInt f2; have s3 : mI S 91 2 = ab 87 3 := (by rw [← hpre1]; rfl); have i3 := congrArg Int32.toInt s3; have t9 : ∀ k, mI S 92 k = ab 92 k := fun k => (aZ_9 (Or.inl rfl)).symm.trans (congrFun (congrFun hpre1 92) k); have ms := Mq_s hpre3; have ms1 := ms.1; have ms2 := ms.2.1; have ms4 := ms.2.2.2.1; have ms5 := ms.2.2.2.2.1; have tg6 := hpre4; have tgn : tg.toNat = (mI S 91 6).toNatClampNeg := (by rw [← tg6]; rfl); have k9 := congrArg Int32.toInt (t9 (mI S 91 6).toNatClampNeg); have le := rp0_S9; rw [hpre1] at le; have tl := To_l (a := ab) (t := tg) (sz := (ab 128 y.toNatClampNeg).toInt) (by rw [tgn]; omega); have u0 : (v10).toInt = rTo ab tg (ab 128 y.toNatClampNeg).toInt := (by rw [tl]; omega); have mm := i_muln (x := v10) (y := mI S 91 2) (by omega) (by omega) (by omega) (by omega); have un9 : (rTo ab tg (ab 128 y.toNatClampNeg).toInt).toNat = (v10).toNatClampNeg := (by rw [← u0]; rfl); have k8 := congrArg Int32.toInt (t9 (v10).toNatClampNeg); have mt := ms.2.2.1 (v10).toNatClampNeg (by have := tn_cast (x := v10) (by omega); omega); have he : (v10 * mI S 91 2 + mI S 92 (v10).toNatClampNeg).toInt = rTo ab tg (ab 128 y.toNatClampNeg).toInt * (ab 87 3).toInt + (ab 92 (rTo ab tg (ab 128 y.toNatClampNeg).toInt).toNat).toInt := (by rw [i_add (by omega) (by omega), mm.2.2, un9, ← u0, i3, k8]); have qv := (Mq_to hpre3 (by rw [← u0]; omega) he).1; rw [← hpre1, ← Z_p6 (x := v10) hpre0] at qv; exact Mv_Z qv)) (by omega) (fun S13 hL_S13 rp0_S13 rp1_S13 => zv_n ⟨zG_T hL_S13, ?_⟩)
            have hI_S13 := zL91_up hI157 hL_S13
            have rp0_S13 : xB S13 (mR (ma_put S 91 6 (.inl v10)) 70) := by
              have z := rp0_S13
              (try rw [show mI (ma_put S 91 6 (.inl v10)) 65 = f 65 from funext (fun k => zG_z hI157 rfl)] at z)
              (try rw [show mI (ma_put S 91 6 (.inl v10)) 64 1 = f 64 1 from zG_z hI157 rfl] at z)
              exact z
            have rp1_S13 : aS 75 S13 = aMo (aS 75 (ma_put S 91 6 (.inl v10))) (y).toNatClampNeg ((v10 * (mI S 91 2)) + (0 : Int32)) := by
              have z := rp1_S13
              (try rw [show mI (ma_put S 91 6 (.inl v10)) 65 = f 65 from funext (fun k => zG_z hI157 rfl)] at z)
              (try rw [show mI (ma_put S 91 6 (.inl v10)) 64 1 = f 64 1 from zG_z hI157 rfl] at z)
              exact z
            refine ⟨zG_n hI_S13 th_t, ?_⟩
            refine zd (fun h158 => ?_) (fun h158 => ?_)
            · skip
              have g159 := i_lt h158
              have li160 : (1 : Int32).toInt = 1 := rfl
              have q161 : (mI S13 91 6).toInt = v10.toInt := zG_zi (f := mI (ma_put S 91 6 (.inl v10))) hL_S13 rfl
              have f162 := zG_s hI_S13 (-1) (92) (c := 91) (k := 6) (by decide)
              exact K ((1 : Int32)) _ hI_S13 (by decide) (show xB S13 (mR S13 70) from by first | (exact xB_x (xC_o (W := 75) rp0_S13).2)) (show ((1 : Int32) = 0 ∧ aZ S13 = ab ∧ (mI S13 91 6).toInt = tg ∧ rTo ab tg (ab 128 y.toNatClampNeg).toInt = -1) ∨ ((1 : Int32) = 1 ∧ rTo ab tg (ab 128 y.toNatClampNeg).toInt ≠ -1 ∧ aZ S13 = rM1 ab y.toNatClampNeg (rTo ab tg (ab 128 y.toNatClampNeg).toInt) ∧ (mI S13 91 6).toInt = rTo ab tg (ab 128 y.toNatClampNeg).toInt) from by first | (exfalso; omega) | (have ty := xB_th (W := 75) hpre0 hpre2; have f2 : mI S t 2 = ab 128 y.toNatClampNeg := ty.2.2.2.2.1.trans ((aZ_o (by decide) (by decide) (by decide)).symm.trans (congrFun (congrFun hpre1 128) _)); have i2 := congrArg Int32.toInt f2; have s3 : mI S 91 2 = ab 87 3 := (by rw [← hpre1]; rfl); have i3 := congrArg Int32.toInt s3; have t9 : ∀ k, mI S 92 k = ab 92 k := fun k => (aZ_9 (Or.inl rfl)).symm.trans (congrFun (congrFun hpre1 92) k); have ms := Mq_s hpre3; have ms1 := ms.1; have ms2 := ms.2.1; have ms4 := ms.2.2.2.1; have ms5 := ms.2.2.2.2.1; have tg6 := hpre4; have tgn : tg.toNat = (mI S 91 6).toNatClampNeg := (by rw [← tg6]; rfl); have k9 := congrArg Int32.toInt (t9 (mI S 91 6).toNatClampNeg); have le := rp0_S9; rw [hpre1] at le; have tl := To_l (a := ab) (t := tg) (sz := (ab 128 y.toNatClampNeg).toInt) (by rw [tgn]; omega); have u0 : (v10).toInt = rTo ab tg (ab 128 y.toNatClampNeg).toInt := (by rw [tl]; omega); have mm := i_muln (x := v10) (y := mI S 91 2) (by omega) (by omega) (by omega) (by omega); have un9 : (rTo ab tg (ab 128 y.toNatClampNeg).toInt).toNat = (v10).toNatClampNeg := (by rw [← u0]; rfl); have k8 := congrArg Int32.toInt (t9 (v10).toNatClampNeg); have mt := ms.2.2.1 (v10).toNatClampNeg (by have := tn_cast (x := v10) (by omega); omega); have he : (v10 * mI S 91 2 + mI S 92 (v10).toNatClampNeg).toInt = rTo ab tg (ab 128 y.toNatClampNeg).toInt * (ab 87 3).toInt + (ab 92 (rTo ab tg (ab 128 y.toNatClampNeg).toInt).toNat).toInt := (by rw [i_add (by omega) (by omega), mm.2.2, un9, ← u0, i3, k8]); have a0 : aZ (ma_put S 91 6 (.inl v10)) = ab := (Z_p6 hpre0).trans hpre1; have a1 := Mo_z rp1_S13 (show mI S13 91 = mI (ma_put S 91 6 (.inl v10)) 91 from funext (fun _ => zG_z hL_S13 rfl)) (show mI S13 92 = mI (ma_put S 91 6 (.inl v10)) 92 from funext (fun _ => zG_z hL_S13 rfl)) (show mI S13 93 = mI (ma_put S 91 6 (.inl v10)) 93 from funext (fun _ => zG_z hL_S13 rfl)); rw [a0] at a1; have u := xB_th (W := 75) rp0_S13 hpre2; have u2 := u.2.2.2.2.1; rw [← aZ_o (c := 128) (by decide) (by decide) (by decide), a1, Mo_r (by decide) (by decide)] at u2; have w9 : mI S13 92 (v10).toNatClampNeg = ab 92 (v10).toNatClampNeg := (congrFun (show mI S13 92 = mI (ma_put S 91 6 (.inl v10)) 92 from funext (fun _ => zG_z hL_S13 rfl)) _).trans (t9 _); refine Or.inr ⟨rfl, by rw [← u0]; omega, ?_, ?_⟩; (rw [(show aZ S13 = aZ S13 from rfl), a1, u2, w9, ← un9]; rw [← un9] at he; exact M1_e he); (rw [← u0]; first | rfl | omega)))
            · skip
              have g163 := i_nlt h158
              refine zd (fun h164 => ?_) (fun h164 => ?_)
              · skip
                have g165 := i_le h164
                have li166 : (1 : Int32).toInt = 1 := rfl
                have q167 : (mI S13 91 6).toInt = v10.toInt := zG_zi (f := mI (ma_put S 91 6 (.inl v10))) hL_S13 rfl
                have f168 := zG_s hI_S13 (-1) (92) (c := 91) (k := 6) (by decide)
                exact K ((1 : Int32)) _ hI_S13 (by decide) (show xB S13 (mR S13 70) from by first | (exact xB_x (xC_o (W := 75) rp0_S13).2)) (show ((1 : Int32) = 0 ∧ aZ S13 = ab ∧ (mI S13 91 6).toInt = tg ∧ rTo ab tg (ab 128 y.toNatClampNeg).toInt = -1) ∨ ((1 : Int32) = 1 ∧ rTo ab tg (ab 128 y.toNatClampNeg).toInt ≠ -1 ∧ aZ S13 = rM1 ab y.toNatClampNeg (rTo ab tg (ab 128 y.toNatClampNeg).toInt) ∧ (mI S13 91 6).toInt = rTo ab tg (ab 128 y.toNatClampNeg).toInt) from by first | (exfalso; omega) | (have ty := xB_th (W := 75) hpre0 hpre2; have f2 : mI S t 2 = ab 128 y.toNatClampNeg := ty.2.2.2.2.1.trans ((aZ_o (by decide) (by decide) (by decide)).symm.trans (congrFun (congrFun hpre1 128) _)); have i2 := congrArg Int32.toInt f2; have s3 : mI S 91 2 = ab 87 3 := (by rw [← hpre1]; rfl); have i3 := congrArg Int32.toInt s3; have t9 : ∀ k, mI S 92 k = ab 92 k := fun k => (aZ_9 (Or.inl rfl)).symm.trans (congrFun (congrFun hpre1 92) k); have ms := Mq_s hpre3; have ms1 := ms.1; have ms2 := ms.2.1; have ms4 := ms.2.2.2.1; have ms5 := ms.2.2.2.2.1; have tg6 := hpre4; have tgn : tg.toNat = (mI S 91 6).toNatClampNeg := (by rw [← tg6]; rfl); have k9 := congrArg Int32.toInt (t9 (mI S 91 6).toNatClampNeg); have le := rp0_S9; rw [hpre1] at le; have tl := To_l (a := ab) (t := tg) (sz := (ab 128 y.toNatClampNeg).toInt) (by rw [tgn]; omega); have u0 : (v10).toInt = rTo ab tg (ab 128 y.toNatClampNeg).toInt := (by rw [tl]; omega); have mm := i_muln (x := v10) (y := mI S 91 2) (by omega) (by omega) (by omega) (by omega); have un9 : (rTo ab tg (ab 128 y.toNatClampNeg).toInt).toNat = (v10).toNatClampNeg := (by rw [← u0]; rfl); have k8 := congrArg Int32.toInt (t9 (v10).toNatClampNeg); have mt := ms.2.2.1 (v10).toNatClampNeg (by have := tn_cast (x := v10) (by omega); omega); have he : (v10 * mI S 91 2 + mI S 92 (v10).toNatClampNeg).toInt = rTo ab tg (ab 128 y.toNatClampNeg).toInt * (ab 87 3).toInt + (ab 92 (rTo ab tg (ab 128 y.toNatClampNeg).toInt).toNat).toInt := (by rw [i_add (by omega) (by omega), mm.2.2, un9, ← u0, i3, k8]); have a0 : aZ (ma_put S 91 6 (.inl v10)) = ab := (Z_p6 hpre0).trans hpre1; have a1 := Mo_z rp1_S13 (show mI S13 91 = mI (ma_put S 91 6 (.inl v10)) 91 from funext (fun _ => zG_z hL_S13 rfl)) (show mI S13 92 = mI (ma_put S 91 6 (.inl v10)) 92 from funext (fun _ => zG_z hL_S13 rfl)) (show mI S13 93 = mI (ma_put S 91 6 (.inl v10)) 93 from funext (fun _ => zG_z hL_S13 rfl)); rw [a0] at a1; have u := xB_th (W := 75) rp0_S13 hpre2; have u2 := u.2.2.2.2.1; rw [← aZ_o (c := 128) (by decide) (by decide) (by decide), a1, Mo_r (by decide) (by decide)] at u2; have w9 : mI S13 92 (v10).toNatClampNeg = ab 92 (v10).toNatClampNeg := (congrFun (show mI S13 92 = mI (ma_put S 91 6 (.inl v10)) 92 from funext (fun _ => zG_z hL_S13 rfl)) _).trans (t9 _); refine Or.inr ⟨rfl, by rw [← u0]; omega, ?_, ?_⟩; (rw [(show aZ S13 = aZ S13 from rfl), a1, u2, w9, ← un9]; rw [← un9] at he; exact M1_e he); (rw [← u0]; first | rfl | omega)))
              · skip
                have g169 := i_nle h164
                refine ⟨i_ix (by omega) (by omega), ?_⟩
                refine ⟨i_ix (by omega) (by omega), ?_⟩
                first | have f171 := zG_a hI 93 (0) (3000) (c := 92) (k := v10.toNatClampNeg) (by decide) (i_ix (n := 93) (by omega) (by omega)).2 | have b172 := i_bd (mI S 92 v10.toNatClampNeg)
                have q173 : (mI S13 92 v10.toNatClampNeg).toInt = (mI S 92 v10.toNatClampNeg).toInt := zG_zi (f := mI (ma_put S 91 6 (.inl v10))) hL_S13 rfl
                first | have f174 := zG_a hI_S13 93 (0) (3000) (c := 92) (k := v10.toNatClampNeg) (by decide) (i_ix (n := 93) (by omega) (by omega)).2 | have b175 := i_bd (mI S13 92 v10.toNatClampNeg)
                have f176 := zG_th hI_S13 th_t
                first | have e177 : ((mI S13 92 v10.toNatClampNeg) + (mI S13 t 2)).toInt = (mI S13 92 v10.toNatClampNeg).toInt + (mI S13 t 2).toInt := i_add (by omega) (by omega) | have b178 := i_bd ((mI S13 92 v10.toNatClampNeg) + (mI S13 t 2))
                have hI170 : zL91 f r C Z N (ma_put S13 92 v10.toNatClampNeg (.inl ((mI S13 92 v10.toNatClampNeg) + (mI S13 t 2)))) := zG_sa hI_S13 (0) (3000) rfl (by decide) (by decide) (by decide) trivial (by omega) (by omega)
                have li179 : (1 : Int32).toInt = 1 := rfl
                have q180 : (mI S13 91 6).toInt = v10.toInt := zG_zi (f := mI (ma_put S 91 6 (.inl v10))) hL_S13 rfl
                have f181 := zG_s hI_S13 (-1) (92) (c := 91) (k := 6) (by decide)
                exact K ((1 : Int32)) _ hI170 (by decide) (show xB (ma_put S13 92 v10.toNatClampNeg (.inl ((mI S13 92 v10.toNatClampNeg) + (mI S13 t 2)))) (mR (ma_put S13 92 v10.toNatClampNeg (.inl ((mI S13 92 v10.toNatClampNeg) + (mI S13 t 2)))) 70) from by first | (exact xB_x (xC_n (c := 92) (k := v10.toNatClampNeg) (x := ((mI S13 92 v10.toNatClampNeg) + (mI S13 t 2))) (xC_o (W := 75) rp0_S13) ⟨by decide, Or.inl ⟨rfl, rfl⟩⟩).2)) (show ((1 : Int32) = 0 ∧ aZ (ma_put S13 92 v10.toNatClampNeg (.inl ((mI S13 92 v10.toNatClampNeg) + (mI S13 t 2)))) = ab ∧ (mI S13 91 6).toInt = tg ∧ rTo ab tg (ab 128 y.toNatClampNeg).toInt = -1) ∨ ((1 : Int32) = 1 ∧ rTo ab tg (ab 128 y.toNatClampNeg).toInt ≠ -1 ∧ aZ (ma_put S13 92 v10.toNatClampNeg (.inl ((mI S13 92 v10.toNatClampNeg) + (mI S13 t 2)))) = rM1 ab y.toNatClampNeg (rTo ab tg (ab 128 y.toNatClampNeg).toInt) ∧ (mI S13 91 6).toInt = rTo ab tg (ab 128 y.toNatClampNeg).toInt) from by first | (exfalso; omega) | (have ty := xB_th (W := 75) hpre0 hpre2; have f2 : mI S t 2 = ab 128 y.toNatClampNeg := ty.2.2.2.2.1.trans ((aZ_o (by decide) (by decide) (by decide)).symm.trans (congrFun (congrFun hpre1 128) _)); have i2 := congrArg Int32.toInt f2; have s3 : mI S 91 2 = ab 87 3 := (by rw [← hpre1]; rfl); have i3 := congrArg Int32.toInt s3; have t9 : ∀ k, mI S 92 k = ab 92 k := fun k => (aZ_9 (Or.inl rfl)).symm.trans (congrFun (congrFun hpre1 92) k); have ms := Mq_s hpre3; have ms1 := ms.1; have ms2 := ms.2.1; have ms4 := ms.2.2.2.1; have ms5 := ms.2.2.2.2.1; have tg6 := hpre4; have tgn : tg.toNat = (mI S 91 6).toNatClampNeg := (by rw [← tg6]; rfl); have k9 := congrArg Int32.toInt (t9 (mI S 91 6).toNatClampNeg); have le := rp0_S9; rw [hpre1] at le; have tl := To_l (a := ab) (t := tg) (sz := (ab 128 y.toNatClampNeg).toInt) (by rw [tgn]; omega); have u0 : (v10).toInt = rTo ab tg (ab 128 y.toNatClampNeg).toInt := (by rw [tl]; omega); have mm := i_muln (x := v10) (y := mI S 91 2) (by omega) (by omega) (by omega) (by omega); have un9 : (rTo ab tg (ab 128 y.toNatClampNeg).toInt).toNat = (v10).toNatClampNeg := (by rw [← u0]; rfl); have k8 := congrArg Int32.toInt (t9 (v10).toNatClampNeg); have mt := ms.2.2.1 (v10).toNatClampNeg (by have := tn_cast (x := v10) (by omega); omega); have he : (v10 * mI S 91 2 + mI S 92 (v10).toNatClampNeg).toInt = rTo ab tg (ab 128 y.toNatClampNeg).toInt * (ab 87 3).toInt + (ab 92 (rTo ab tg (ab 128 y.toNatClampNeg).toInt).toNat).toInt := (by rw [i_add (by omega) (by omega), mm.2.2, un9, ← u0, i3, k8]); have a0 : aZ (ma_put S 91 6 (.inl v10)) = ab := (Z_p6 hpre0).trans hpre1; have a1 := Mo_z rp1_S13 (show mI S13 91 = mI (ma_put S 91 6 (.inl v10)) 91 from funext (fun _ => zG_z hL_S13 rfl)) (show mI S13 92 = mI (ma_put S 91 6 (.inl v10)) 92 from funext (fun _ => zG_z hL_S13 rfl)) (show mI S13 93 = mI (ma_put S 91 6 (.inl v10)) 93 from funext (fun _ => zG_z hL_S13 rfl)); rw [a0] at a1; have u := xB_th (W := 75) rp0_S13 hpre2; have u2 := u.2.2.2.2.1; rw [← aZ_o (c := 128) (by decide) (by decide) (by decide), a1, Mo_r (by decide) (by decide)] at u2; have w9 : mI S13 92 (v10).toNatClampNeg = ab 92 (v10).toNatClampNeg := (congrFun (show mI S13 92 = mI (ma_put S 91 6 (.inl v10)) 92 from funext (fun _ => zG_z hL_S13 rfl)) _).trans (t9 _); refine Or.inr ⟨rfl, by rw [← u0]; omega, ?_, ?_⟩; (rw [((Z_p9 (c := 92) (n := v10.toNatClampNeg) (x := ((mI S13 92 v10.toNatClampNeg) + (mI S13 t 2))) (xC_o (W := 75) rp0_S13).2 (by decide)).trans (congrArg (fun q => ma_u q 92 v10.toNatClampNeg ((mI S13 92 v10.toNatClampNeg) + (mI S13 t 2))) (show aZ S13 = aZ S13 from rfl))), a1, u2, w9, ← un9]; rw [← un9] at he; exact M1_e he); (rw [← u0]; first | rfl | omega)))
          · skip
            have g182 := i_nle h150
            refine ⟨i_ix (by omega) (by omega), ?_⟩
            have f183 := zG_s hI (0) (1500) (c := 91) (k := 2) (by decide)
            first | have f184 := i_muln (x := v10) (y := (mI S 91 2)) (by omega) (by omega) (by omega) (by omega) | have b185 := i_bd (v10 * (mI S 91 2))
            first | have f186 := zG_a hI 93 (0) (3000) (c := 92) (k := v10.toNatClampNeg) (by decide) (i_ix (n := 93) (by omega) (by omega)).2 | have b187 := i_bd (mI S 92 v10.toNatClampNeg)
            first | have e188 : ((v10 * (mI S 91 2)) + (mI S 92 v10.toNatClampNeg)).toInt = (v10 * (mI S 91 2)).toInt + (mI S 92 v10.toNatClampNeg).toInt := i_add (by omega) (by omega) | have b189 := i_bd ((v10 * (mI S 91 2)) + (mI S 92 v10.toNatClampNeg))
            have hI190 : zL91 f r C Z N (ma_put S 91 6 (.inl v10)) := zG_sp hI (-1) (92) rfl (by decide) (by decide) (by decide) trivial (by omega) (by omega)
            refine sp_90_69_s (ab := (aS 75 (ma_put S 91 6 (.inl v10)))) (R := (mR (ma_put S 91 6 (.inl v10)) 70)) (y := (y)) t (((v10 * (mI S 91 2)) + (mI S 92 v10.toNatClampNeg))) (by omega) (by omega) (zL91_dn hI190) th_t (show xB (ma_put S 91 6 (.inl v10)) (mR (ma_put S 91 6 (.inl v10)) 70) from by first | (exact xB_x (xC_n (c := 91) (k := 6) (x := v10) (xC_o (W := 75) hpre0) ⟨by decide, Or.inl ⟨rfl, rfl⟩⟩).2)) (show aS 75 (ma_put S 91 6 (.inl v10)) = (aS 75 (ma_put S 91 6 (.inl v10))) from by first | (exact rfl)) (show zTa (mR (ma_put S 91 6 (.inl v10)) 70) (y) = some t from by first | (exact hpre2)) (show qMv (aS 75 (ma_put S 91 6 (.inl v10))) (y).toNatClampNeg ((v10 * (mI S 91 2)) + (mI S 92 v10.toNatClampNeg)) from by first | (have ty := xB_th (W := 75) hpre0 hpre2; have f2 : mI S t 2 = ab 128 y.toNatClampNeg := ty.2.2.2.2.1.trans ((aZ_o (by decide) (by decide) (by decide)).symm.trans (congrFun (congrFun hpre1 128) _)); have i2 := congrArg Int32.toInt f2; have s3 : mI S 91 2 = ab 87 3 := (by rw [← hpre1]; rfl); have i3 := congrArg Int32.toInt s3; have t9 : ∀ k, mI S 92 k = ab 92 k := fun k => (aZ_9 (Or.inl rfl)).symm.trans (congrFun (congrFun hpre1 92) k); have ms := Mq_s hpre3; have ms1 := ms.1; have ms2 := ms.2.1; have ms4 := ms.2.2.2.1; have ms5 := ms.2.2.2.2.1; have tg6 := hpre4; have tgn : tg.toNat = (mI S 91 6).toNatClampNeg := (by rw [← tg6]; rfl); have k9 := congrArg Int32.toInt (t9 (mI S 91 6).toNatClampNeg); have le := rp0_S9; rw [hpre1] at le; have tl := To_l (a := ab) (t := tg) (sz := (ab 128 y.toNatClampNeg).toInt) (by rw [tgn]; omega); have u0 : (v10).toInt = rTo ab tg (ab 128 y.toNatClampNeg).toInt := (by rw [tl]; omega); have mm := i_muln (x := v10) (y := mI S 91 2) (by omega) (by omega) (by omega) (by omega); have un9 : (rTo ab tg (ab 128 y.toNatClampNeg).toInt).toNat = (v10).toNatClampNeg := (by rw [← u0]; rfl); have k8 := congrArg Int32.toInt (t9 (v10).toNatClampNeg); have mt := ms.2.2.1 (v10).toNatClampNeg (by have := tn_cast (x := v10) (by omega); omega); have he : (v10 * mI S 91 2 + mI S 92 (v10).toNatClampNeg).toInt = rTo ab tg (ab 128 y.toNatClampNeg).toInt * (ab 87 3).toInt + (ab 92 (rTo ab tg (ab 128 y.toNatClampNeg).toInt).toNat).toInt := (by rw [i_add (by omega) (by omega), mm.2.2, un9, ← u0, i3, k8]); have qv := (Mq_to hpre3 (by rw [← u0]; omega) he).1; rw [← hpre1, ← Z_p6 (x := v10) hpre0] at qv; exact Mv_Z qv) | (exfalso; omega)) (by omega) (fun S15 hL_S15 rp0_S15 rp1_S15 => zv_n ⟨zG_T hL_S15, ?_⟩)
            have hI_S15 := zL91_up hI190 hL_S15
            have rp0_S15 : xB S15 (mR (ma_put S 91 6 (.inl v10)) 70) := by
              have z := rp0_S15
              (try rw [show mI (ma_put S 91 6 (.inl v10)) 65 = f 65 from funext (fun k => zG_z hI190 rfl)] at z)
              (try rw [show mI (ma_put S 91 6 (.inl v10)) 64 1 = f 64 1 from zG_z hI190 rfl] at z)
              exact z
            have rp1_S15 : aS 75 S15 = aMo (aS 75 (ma_put S 91 6 (.inl v10))) (y).toNatClampNeg ((v10 * (mI S 91 2)) + (mI S 92 v10.toNatClampNeg)) := by
              have z := rp1_S15
              (try rw [show mI (ma_put S 91 6 (.inl v10)) 65 = f 65 from funext (fun k => zG_z hI190 rfl)] at z)
              (try rw [show mI (ma_put S 91 6 (.inl v10)) 64 1 = f 64 1 from zG_z hI190 rfl] at z)
              exact z
            refine ⟨zG_n hI_S15 th_t, ?_⟩
            refine zd (fun h191 => ?_) (fun h191 => ?_)
            · skip
              have g192 := i_lt h191
              have li193 : (1 : Int32).toInt = 1 := rfl
              have q194 : (mI S15 91 6).toInt = v10.toInt := zG_zi (f := mI (ma_put S 91 6 (.inl v10))) hL_S15 rfl
              have f195 := zG_s hI_S15 (-1) (92) (c := 91) (k := 6) (by decide)
              exact K ((1 : Int32)) _ hI_S15 (by decide) (show xB S15 (mR S15 70) from by first | (exact xB_x (xC_o (W := 75) rp0_S15).2)) (show ((1 : Int32) = 0 ∧ aZ S15 = ab ∧ (mI S15 91 6).toInt = tg ∧ rTo ab tg (ab 128 y.toNatClampNeg).toInt = -1) ∨ ((1 : Int32) = 1 ∧ rTo ab tg (ab 128 y.toNatClampNeg).toInt ≠ -1 ∧ aZ S15 = rM1 ab y.toNatClampNeg (rTo ab tg (ab 128 y.toNatClampNeg).toInt) ∧ (mI S15 91 6).toInt = rTo ab tg (ab 128 y.toNatClampNeg).toInt) from by first | (exfalso; omega) | (have ty := xB_th (W := 75) hpre0 hpre2; have f2 : mI S t 2 = ab 128 y.toNatClampNeg := ty.2.2.2.2.1.trans ((aZ_o (by decide) (by decide) (by decide)).symm.trans (congrFun (congrFun hpre1 128) _)); have i2 := congrArg Int32.toInt f2; have s3 : mI S 91 2 = ab 87 3 := (by rw [← hpre1]; rfl); have i3 := congrArg Int32.toInt s3; have t9 : ∀ k, mI S 92 k = ab 92 k := fun k => (aZ_9 (Or.inl rfl)).symm.trans (congrFun (congrFun hpre1 92) k); have ms := Mq_s hpre3; have ms1 := ms.1; have ms2 := ms.2.1; have ms4 := ms.2.2.2.1; have ms5 := ms.2.2.2.2.1; have tg6 := hpre4; have tgn : tg.toNat = (mI S 91 6).toNatClampNeg := (by rw [← tg6]; rfl); have k9 := congrArg Int32.toInt (t9 (mI S 91 6).toNatClampNeg); have le := rp0_S9; rw [hpre1] at le; have tl := To_l (a := ab) (t := tg) (sz := (ab 128 y.toNatClampNeg).toInt) (by rw [tgn]; omega); have u0 : (v10).toInt = rTo ab tg (ab 128 y.toNatClampNeg).toInt := (by rw [tl]; omega); have mm := i_muln (x := v10) (y := mI S 91 2) (by omega) (by omega) (by omega) (by omega); have un9 : (rTo ab tg (ab 128 y.toNatClampNeg).toInt).toNat = (v10).toNatClampNeg := (by rw [← u0]; rfl); have k8 := congrArg Int32.toInt (t9 (v10).toNatClampNeg); have mt := ms.2.2.1 (v10).toNatClampNeg (by have := tn_cast (x := v10) (by omega); omega); have he : (v10 * mI S 91 2 + mI S 92 (v10).toNatClampNeg).toInt = rTo ab tg (ab 128 y.toNatClampNeg).toInt * (ab 87 3).toInt + (ab 92 (rTo ab tg (ab 128 y.toNatClampNeg).toInt).toNat).toInt := (by rw [i_add (by omega) (by omega), mm.2.2, un9, ← u0, i3, k8]); have a0 : aZ (ma_put S 91 6 (.inl v10)) = ab := (Z_p6 hpre0).trans hpre1; have a1 := Mo_z rp1_S15 (show mI S15 91 = mI (ma_put S 91 6 (.inl v10)) 91 from funext (fun _ => zG_z hL_S15 rfl)) (show mI S15 92 = mI (ma_put S 91 6 (.inl v10)) 92 from funext (fun _ => zG_z hL_S15 rfl)) (show mI S15 93 = mI (ma_put S 91 6 (.inl v10)) 93 from funext (fun _ => zG_z hL_S15 rfl)); rw [a0] at a1; have u := xB_th (W := 75) rp0_S15 hpre2; have u2 := u.2.2.2.2.1; rw [← aZ_o (c := 128) (by decide) (by decide) (by decide), a1, Mo_r (by decide) (by decide)] at u2; have w9 : mI S15 92 (v10).toNatClampNeg = ab 92 (v10).toNatClampNeg := (congrFun (show mI S15 92 = mI (ma_put S 91 6 (.inl v10)) 92 from funext (fun _ => zG_z hL_S15 rfl)) _).trans (t9 _); refine Or.inr ⟨rfl, by rw [← u0]; omega, ?_, ?_⟩; (rw [(show aZ S15 = aZ S15 from rfl), a1, u2, w9, ← un9]; rw [← un9] at he; exact M1_e he); (rw [← u0]; first | rfl | omega)))
            · skip
              have g196 := i_nlt h191
              refine zd (fun h197 => ?_) (fun h197 => ?_)
              · skip
                have g198 := i_le h197
                have li199 : (1 : Int32).toInt = 1 := rfl
                have q200 : (mI S15 91 6).toInt = v10.toInt := zG_zi (f := mI (ma_put S 91 6 (.inl v10))) hL_S15 rfl
                have f201 := zG_s hI_S15 (-1) (92) (c := 91) (k := 6) (by decide)
                exact K ((1 : Int32)) _ hI_S15 (by decide) (show xB S15 (mR S15 70) from by first | (exact xB_x (xC_o (W := 75) rp0_S15).2)) (show ((1 : Int32) = 0 ∧ aZ S15 = ab ∧ (mI S15 91 6).toInt = tg ∧ rTo ab tg (ab 128 y.toNatClampNeg).toInt = -1) ∨ ((1 : Int32) = 1 ∧ rTo ab tg (ab 128 y.toNatClampNeg).toInt ≠ -1 ∧ aZ S15 = rM1 ab y.toNatClampNeg (rTo ab tg (ab 128 y.toNatClampNeg).toInt) ∧ (mI S15 91 6).toInt = rTo ab tg (ab 128 y.toNatClampNeg).toInt) from by first | (exfalso; omega) | (have ty := xB_th (W := 75) hpre0 hpre2; have f2 : mI S t 2 = ab 128 y.toNatClampNeg := ty.2.2.2.2.1.trans ((aZ_o (by decide) (by decide) (by decide)).symm.trans (congrFun (congrFun hpre1 128) _)); have i2 := congrArg Int32.toInt f2; have s3 : mI S 91 2 = ab 87 3 := (by rw [← hpre1]; rfl); have i3 := congrArg Int32.toInt s3; have t9 : ∀ k, mI S 92 k = ab 92 k := fun k => (aZ_9 (Or.inl rfl)).symm.trans (congrFun (congrFun hpre1 92) k); have ms := Mq_s hpre3; have ms1 := ms.1; have ms2 := ms.2.1; have ms4 := ms.2.2.2.1; have ms5 := ms.2.2.2.2.1; have tg6 := hpre4; have tgn : tg.toNat = (mI S 91 6).toNatClampNeg := (by rw [← tg6]; rfl); have k9 := congrArg Int32.toInt (t9 (mI S 91 6).toNatClampNeg); have le := rp0_S9; rw [hpre1] at le; have tl := To_l (a := ab) (t := tg) (sz := (ab 128 y.toNatClampNeg).toInt) (by rw [tgn]; omega); have u0 : (v10).toInt = rTo ab tg (ab 128 y.toNatClampNeg).toInt := (by rw [tl]; omega); have mm := i_muln (x := v10) (y := mI S 91 2) (by omega) (by omega) (by omega) (by omega); have un9 : (rTo ab tg (ab 128 y.toNatClampNeg).toInt).toNat = (v10).toNatClampNeg := (by rw [← u0]; rfl); have k8 := congrArg Int32.toInt (t9 (v10).toNatClampNeg); have mt := ms.2.2.1 (v10).toNatClampNeg (by have := tn_cast (x := v10) (by omega); omega); have he : (v10 * mI S 91 2 + mI S 92 (v10).toNatClampNeg).toInt = rTo ab tg (ab 128 y.toNatClampNeg).toInt * (ab 87 3).toInt + (ab 92 (rTo ab tg (ab 128 y.toNatClampNeg).toInt).toNat).toInt := (by rw [i_add (by omega) (by omega), mm.2.2, un9, ← u0, i3, k8]); have a0 : aZ (ma_put S 91 6 (.inl v10)) = ab := (Z_p6 hpre0).trans hpre1; have a1 := Mo_z rp1_S15 (show mI S15 91 = mI (ma_put S 91 6 (.inl v10)) 91 from funext (fun _ => zG_z hL_S15 rfl)) (show mI S15 92 = mI (ma_put S 91 6 (.inl v10)) 92 from funext (fun _ => zG_z hL_S15 rfl)) (show mI S15 93 = mI (ma_put S 91 6 (.inl v10)) 93 from funext (fun _ => zG_z hL_S15 rfl)); rw [a0] at a1; have u := xB_th (W := 75) rp0_S15 hpre2; have u2 := u.2.2.2.2.1; rw [← aZ_o (c := 128) (by decide) (by decide) (by decide), a1, Mo_r (by decide) (by decide)] at u2; have w9 : mI S15 92 (v10).toNatClampNeg = ab 92 (v10).toNatClampNeg := (congrFun (show mI S15 92 = mI (ma_put S 91 6 (.inl v10)) 92 from funext (fun _ => zG_z hL_S15 rfl)) _).trans (t9 _); refine Or.inr ⟨rfl, by rw [← u0]; omega, ?_, ?_⟩; (rw [(show aZ S15 = aZ S15 from rfl), a1, u2, w9, ← un9]; rw [← un9] at he; exact M1_e he); (rw [← u0]; first | rfl | omega)))
              · skip
                have g202 := i_nle h197
                refine ⟨i_ix (by omega) (by omega), ?_⟩
                refine ⟨i_ix (by omega) (by omega), ?_⟩
                have q204 : (mI S15 92 v10.toNatClampNeg).toInt = (mI S 92 v10.toNatClampNeg).toInt := zG_zi (f := mI (ma_put S 91 6 (.inl v10))) hL_S15 rfl
                first | have f205 := zG_a hI_S15 93 (0) (3000) (c := 92) (k := v10.toNatClampNeg) (by decide) (i_ix (n := 93) (by omega) (by omega)).2 | have b206 := i_bd (mI S15 92 v10.toNatClampNeg)
                have f207 := zG_th hI_S15 th_t
                first | have e208 : ((mI S15 92 v10.toNatClampNeg) + (mI S15 t 2)).toInt = (mI S15 92 v10.toNatClampNeg).toInt + (mI S15 t 2).toInt := i_add (by omega) (by omega) | have b209 := i_bd ((mI S15 92 v10.toNatClampNeg) + (mI S15 t 2))
                have hI203 : zL91 f r C Z N (ma_put S15 92 v10.toNatClampNeg (.inl ((mI S15 92 v10.toNatClampNeg) + (mI S15 t 2)))) := zG_sa hI_S15 (0) (3000) rfl (by decide) (by decide) (by decide) trivial (by omega) (by omega)
                have li210 : (1 : Int32).toInt = 1 := rfl
                have q211 : (mI S15 91 6).toInt = v10.toInt := zG_zi (f := mI (ma_put S 91 6 (.inl v10))) hL_S15 rfl
                have f212 := zG_s hI_S15 (-1) (92) (c := 91) (k := 6) (by decide)
                exact K ((1 : Int32)) _ hI203 (by decide) (show xB (ma_put S15 92 v10.toNatClampNeg (.inl ((mI S15 92 v10.toNatClampNeg) + (mI S15 t 2)))) (mR (ma_put S15 92 v10.toNatClampNeg (.inl ((mI S15 92 v10.toNatClampNeg) + (mI S15 t 2)))) 70) from by first | (exact xB_x (xC_n (c := 92) (k := v10.toNatClampNeg) (x := ((mI S15 92 v10.toNatClampNeg) + (mI S15 t 2))) (xC_o (W := 75) rp0_S15) ⟨by decide, Or.inl ⟨rfl, rfl⟩⟩).2)) (show ((1 : Int32) = 0 ∧ aZ (ma_put S15 92 v10.toNatClampNeg (.inl ((mI S15 92 v10.toNatClampNeg) + (mI S15 t 2)))) = ab ∧ (mI S15 91 6).toInt = tg ∧ rTo ab tg (ab 128 y.toNatClampNeg).toInt = -1) ∨ ((1 : Int32) = 1 ∧ rTo ab tg (ab 128 y.toNatClampNeg).toInt ≠ -1 ∧ aZ (ma_put S15 92 v10.toNatClampNeg (.inl ((mI S15 92 v10.toNatClampNeg) + (mI S15 t 2)))) = rM1 ab y.toNatClampNeg (rTo ab tg (ab 128 y.toNatClampNeg).toInt) ∧ (mI S15 91 6).toInt = rTo ab tg (ab 128 y.toNatClampNeg).toInt) from by first | (exfalso; omega) | (have ty := xB_th (W := 75) hpre0 hpre2; have f2 : mI S t 2 = ab 128 y.toNatClampNeg := ty.2.2.2.2.1.trans ((aZ_o (by decide) (by decide) (by decide)).symm.trans (congrFun (congrFun hpre1 128) _)); have i2 := congrArg Int32.toInt f2; have s3 : mI S 91 2 = ab 87 3 := (by rw [← hpre1]; rfl); have i3 := congrArg Int32.toInt s3; have t9 : ∀ k, mI S 92 k = ab 92 k := fun k => (aZ_9 (Or.inl rfl)).symm.trans (congrFun (congrFun hpre1 92) k); have ms := Mq_s hpre3; have ms1 := ms.1; have ms2 := ms.2.1; have ms4 := ms.2.2.2.1; have ms5 := ms.2.2.2.2.1; have tg6 := hpre4; have tgn : tg.toNat = (mI S 91 6).toNatClampNeg := (by rw [← tg6]; rfl); have k9 := congrArg Int32.toInt (t9 (mI S 91 6).toNatClampNeg); have le := rp0_S9; rw [hpre1] at le; have tl := To_l (a := ab) (t := tg) (sz := (ab 128 y.toNatClampNeg).toInt) (by rw [tgn]; omega); have u0 : (v10).toInt = rTo ab tg (ab 128 y.toNatClampNeg).toInt := (by rw [tl]; omega); have mm := i_muln (x := v10) (y := mI S 91 2) (by omega) (by omega) (by omega) (by omega); have un9 : (rTo ab tg (ab 128 y.toNatClampNeg).toInt).toNat = (v10).toNatClampNeg := (by rw [← u0]; rfl); have k8 := congrArg Int32.toInt (t9 (v10).toNatClampNeg); have mt := ms.2.2.1 (v10).toNatClampNeg (by have := tn_cast (x := v10) (by omega); omega); have he : (v10 * mI S 91 2 + mI S 92 (v10).toNatClampNeg).toInt = rTo ab tg (ab 128 y.toNatClampNeg).toInt * (ab 87 3).toInt + (ab 92 (rTo ab tg (ab 128 y.toNatClampNeg).toInt).toNat).toInt := (by rw [i_add (by omega) (by omega), mm.2.2, un9, ← u0, i3, k8]); have a0 : aZ (ma_put S 91 6 (.inl v10)) = ab := (Z_p6 hpre0).trans hpre1; have a1 := Mo_z rp1_S15 (show mI S15 91 = mI (ma_put S 91 6 (.inl v10)) 91 from funext (fun _ => zG_z hL_S15 rfl)) (show mI S15 92 = mI (ma_put S 91 6 (.inl v10)) 92 from funext (fun _ => zG_z hL_S15 rfl)) (show mI S15 93 = mI (ma_put S 91 6 (.inl v10)) 93 from funext (fun _ => zG_z hL_S15 rfl)); rw [a0] at a1; have u := xB_th (W := 75) rp0_S15 hpre2; have u2 := u.2.2.2.2.1; rw [← aZ_o (c := 128) (by decide) (by decide) (by decide), a1, Mo_r (by decide) (by decide)] at u2; have w9 : mI S15 92 (v10).toNatClampNeg = ab 92 (v10).toNatClampNeg := (congrFun (show mI S15 92 = mI (ma_put S 91 6 (.inl v10)) 92 from funext (fun _ => zG_z hL_S15 rfl)) _).trans (t9 _); refine Or.inr ⟨rfl, by rw [← u0]; omega, ?_, ?_⟩; (rw [((Z_p9 (c := 92) (n := v10.toNatClampNeg) (x := ((mI S15 92 v10.toNatClampNeg) + (mI S15 t 2))) (xC_o (W := 75) rp0_S15).2 (by decide)).trans (congrArg (fun q => ma_u q 92 v10.toNatClampNeg ((mI S15 92 v10.toNatClampNeg) + (mI S15 t 2))) (show aZ S15 = aZ S15 from rfl))), a1, u2, w9, ← un9]; rw [← un9] at he; exact M1_e he); (rw [← u0]; first | rfl | omega)))
    · skip
      have g213 := i_nle h110
      refine ⟨i_ix (by omega) (by omega), ?_⟩
      have f214 := zG_s hI (0) (1500) (c := 91) (k := 2) (by decide)
      first | have f215 := zG_a hI 93 (0) (3000) (c := 92) (k := (mI S 91 6).toNatClampNeg) (by decide) (i_ix (n := 93) (by omega) (by omega)).2 | have b216 := i_bd (mI S 92 (mI S 91 6).toNatClampNeg)
      have f217 := zG_th hI th_t
      first | have e218 : ((mI S 92 (mI S 91 6).toNatClampNeg) + (mI S t 2)).toInt = (mI S 92 (mI S 91 6).toNatClampNeg).toInt + (mI S t 2).toInt := i_add (by omega) (by omega) | have b219 := i_bd ((mI S 92 (mI S 91 6).toNatClampNeg) + (mI S t 2))
      refine zd (fun h220 => ?_) (fun h220 => ?_)
      · skip
        have g221 := i_lt h220
        refine sp_52_91_sz  (by omega) (by omega) hI  (fun v18 S17 eS_S17 hp_v18 rp0_S17 => zi_n ⟨(by rw [eS_S17]; exact zG_T hI), ?_⟩)
        replace eS_S17 := eS_S17.symm; subst eS_S17
        have rp0_S17 : v18.toInt = rLe (aZ S) := rp0_S17
        have b222 := i_bd v18
        have li223 : (-1 : Int32).toInt = -1 := rfl
        refine zd (fun h224 => ?_) (fun h224 => ?_)
        · skip
          have g225 := i_eq h224
          exact K ((0 : Int32)) _ hI (by decide) (show xB S (mR S 70) from by first | (exact xB_x (xC_o (W := 75) hpre0).2)) (show ((0 : Int32) = 0 ∧ aZ S = ab ∧ (mI S 91 6).toInt = tg ∧ rTo ab tg (ab 128 y.toNatClampNeg).toInt = -1) ∨ ((0 : Int32) = 1 ∧ rTo ab tg (ab 128 y.toNatClampNeg).toInt ≠ -1 ∧ aZ S = rM1 ab y.toNatClampNeg (rTo ab tg (ab 128 y.toNatClampNeg).toInt) ∧ (mI S 91 6).toInt = rTo ab tg (ab 128 y.toNatClampNeg).toInt) from by first | (have ty := xB_th (W := 75) hpre0 hpre2; have f2 : mI S t 2 = ab 128 y.toNatClampNeg := ty.2.2.2.2.1.trans ((aZ_o (by decide) (by decide) (by decide)).symm.trans (congrFun (congrFun hpre1 128) _)); have i2 := congrArg Int32.toInt f2; have s3 : mI S 91 2 = ab 87 3 := (by rw [← hpre1]; rfl); have i3 := congrArg Int32.toInt s3; have t9 : ∀ k, mI S 92 k = ab 92 k := fun k => (aZ_9 (Or.inl rfl)).symm.trans (congrFun (congrFun hpre1 92) k); have ms := Mq_s hpre3; have ms1 := ms.1; have ms2 := ms.2.1; have ms4 := ms.2.2.2.1; have ms5 := ms.2.2.2.2.1; have tg6 := hpre4; have tgn : tg.toNat = (mI S 91 6).toNatClampNeg := (by rw [← tg6]; rfl); have k9 := congrArg Int32.toInt (t9 (mI S 91 6).toNatClampNeg); have le := rp0_S17; rw [hpre1] at le; have tl := To_l (a := ab) (t := tg) (sz := (ab 128 y.toNatClampNeg).toInt) (by rw [tgn]; omega); exact Or.inl ⟨rfl, hpre1, tg6, by rw [tl]; omega⟩) | (exfalso; omega))
        · skip
          have g226 := i_ne h224
          refine zd (fun h227 => ?_) (fun h227 => ?_)
          · skip
            have g228 := i_lt h227
            first | have f229 := i_muln (x := v18) (y := (mI S 91 2)) (by omega) (by omega) (by omega) (by omega) | have b230 := i_bd (v18 * (mI S 91 2))
            first | have e231 : ((v18 * (mI S 91 2)) + (0 : Int32)).toInt = (v18 * (mI S 91 2)).toInt + (0) := i_addk rfl (by omega) (by omega) | have b232 := i_bd ((v18 * (mI S 91 2)) + (0 : Int32))
            have hI233 : zL91 f r C Z N (ma_put S 91 6 (.inl v18)) := zG_sp hI (-1) (92) rfl (by decide) (by decide) (by decide) trivial (by omega) (by omega)
            refine sp_90_69_s (ab := (aS 75 (ma_put S 91 6 (.inl v18)))) (R := (mR (ma_put S 91 6 (.inl v18)) 70)) (y := (y)) t (((v18 * (mI S 91 2)) + (0 : Int32))) (by omega) (by omega) (zL91_dn hI233) th_t (show xB (ma_put S 91 6 (.inl v18)) (mR (ma_put S 91 6 (.inl v18)) 70) from by first | (exact xB_x (xC_n (c := 91) (k := 6) (x := v18) (xC_o (W := 75) hpre0) ⟨by decide, Or.inl ⟨rfl, rfl⟩⟩).2)) (show aS 75 (ma_put S 91 6 (.inl v18)) = (aS 75 (ma_put S 91 6 (.inl v18))) from by first | (exact rfl)) (show zTa (mR (ma_put S 91 6 (.inl v18)) 70) (y) = some t from by first | (exact hpre2)) (show qMv (aS 75 (ma_put S 91 6 (.inl v18))) (y).toNatClampNeg ((v18 * (mI S 91 2)) + (0 : Int32)) from by first | (exfalso; omega) | (have ty := xB_th (W := 75) hpre0 hpre2; have f2 : mI S t 2 = ab 128 y.toNatClampNeg := ty.2.2.2.2.1.trans ((aZ_o (by decide) (by decide) (by decide)).symm.trans (congrFun (congrFun hpre1 128) _)); have i2 := congrArg Int32.toInt f2; have s3 : mI S 91 2 = ab 87 3 := (by rw [← hpre1]; rfl); have i3 := congrArg Int32.toInt s3; have t9 : ∀ k, mI S 92 k = ab 92 k := fun k => (aZ_9 (Or.inl rfl)).symm.trans (congrFun (congrFun hpre1 92) k); have ms := Mq_s hpre3; have ms1 := ms.1; have ms2 := ms.2.1; have ms4 := ms.2.2.2.1; have ms5 := ms.2.2.2.2.1; have tg6 := hpre4; have tgn : tg.toNat = (mI S 91 6).toNatClampNeg := (by rw [← tg6]; rfl); have k9 := congrArg Int32.toInt (t9 (mI S 91 6).toNatClampNeg); have le := rp0_S17; rw [hpre1] at le; have tl := To_l (a := ab) (t := tg) (sz := (ab 128 y.toNatClampNeg).toInt) (by rw [tgn]; omega); have u0 : (v18).toInt = rTo ab tg (ab 128 y.toNatClampNeg).toInt := (by rw [tl]; omega); have mm := i_muln (x := v18) (y := mI S 91 2) (by omega) (by omega) (by omega) (by omega); have un9 : (rTo ab tg (ab 128 y.toNatClampNeg).toInt).toNat = (v18).toNatClampNeg := (by rw [← u0]; rfl); have k8 := congrArg Int32.toInt (t9 (v18).toNatClampNeg); have mt := ms.2.2.1 (v18).toNatClampNeg (by have := tn_cast (x := v18) (by omega); omega); have he : (v18 * mI S 91 2 + mI S 92 (v18).toNatClampNeg).toInt = rTo ab tg (ab 128 y.toNatClampNeg).toInt * (ab 87 3).toInt + (ab 92 (rTo ab tg (ab 128 y.toNatClampNeg).toInt).toNat).toInt := (by rw [i_add (by omega) (by omega), mm.2.2, un9, ← u0, i3, k8]); have qv := (Mq_to hpre3 (by rw [← u0]; omega) he).1; rw [← hpre1, ← Z_p6 (x := v18) hpre0] at qv; exact Mv_Z qv)) (by omega) (fun S19 hL_S19 rp0_S19 rp1_S19 => zv_n ⟨zG_T hL_S19, ?_⟩)
            have hI_S19 := zL91_up hI233 hL_S19
            have rp0_S19 : xB S19 (mR (ma_put S 91 6 (.inl v18)) 70) := by
              have z := rp0_S19
              (try rw [show mI (ma_put S 91 6 (.inl v18)) 65 = f 65 from funext (fun k => zG_z hI233 rfl)] at z)
              (try rw [show mI (ma_put S 91 6 (.inl v18)) 64 1 = f 64 1 from zG_z hI233 rfl] at z)
              exact z
            have rp1_S19 : aS 75 S19 = aMo (aS 75 (ma_put S 91 6 (.inl v18))) (y).toNatClampNeg ((v18 * (mI S 91 2)) + (0 : Int32)) := by
              have z := rp1_S19
              (try rw [show mI (ma_put S 91 6 (.inl v18)) 65 = f 65 from funext (fun k => zG_z hI233 rfl)] at z)
              (try rw [show mI (ma_put S 91 6 (.inl v18)) 64 1 = f 64 1 from zG_z hI233 rfl] at z)
              exact z
            refine ⟨zG_n hI_S19 th_t, ?_⟩
            refine zd (fun h234 => ?_) (fun h234 => ?_)
            · skip
              have g235 := i_lt h234
              have li236 : (1 : Int32).toInt = 1 := rfl
              have q237 : (mI S19 91 6).toInt = v18.toInt := zG_zi (f := mI (ma_put S 91 6 (.inl v18))) hL_S19 rfl
              have f238 := zG_s hI_S19 (-1) (92) (c := 91) (k := 6) (by decide)
              exact K ((1 : Int32)) _ hI_S19 (by decide) (show xB S19 (mR S19 70) from by first | (exact xB_x (xC_o (W := 75) rp0_S19).2)) (show ((1 : Int32) = 0 ∧ aZ S19 = ab ∧ (mI S19 91 6).toInt = tg ∧ rTo ab tg (ab 128 y.toNatClampNeg).toInt = -1) ∨ ((1 : Int32) = 1 ∧ rTo ab tg (ab 128 y.toNatClampNeg).toInt ≠ -1 ∧ aZ S19 = rM1 ab y.toNatClampNeg (rTo ab tg (ab 128 y.toNatClampNeg).toInt) ∧ (mI S19 91 6).toInt = rTo ab tg (ab 128 y.toNatClampNeg).toInt) from by first | (exfalso; omega) | (have ty := xB_th (W := 75) hpre0 hpre2; have f2 : mI S t 2 = ab 128 y.toNatClampNeg := ty.2.2.2.2.1.trans ((aZ_o (by decide) (by decide) (by decide)).symm.trans (congrFun (congrFun hpre1 128) _)); have i2 := congrArg Int32.toInt f2; have s3 : mI S 91 2 = ab 87 3 := (by rw [← hpre1]; rfl); have i3 := congrArg Int32.toInt s3; have t9 : ∀ k, mI S 92 k = ab 92 k := fun k => (aZ_9 (Or.inl rfl)).symm.trans (congrFun (congrFun hpre1 92) k); have ms := Mq_s hpre3; have ms1 := ms.1; have ms2 := ms.2.1; have ms4 := ms.2.2.2.1; have ms5 := ms.2.2.2.2.1; have tg6 := hpre4; have tgn : tg.toNat = (mI S 91 6).toNatClampNeg := (by rw [← tg6]; rfl); have k9 := congrArg Int32.toInt (t9 (mI S 91 6).toNatClampNeg); have le := rp0_S17; rw [hpre1] at le; have tl := To_l (a := ab) (t := tg) (sz := (ab 128 y.toNatClampNeg).toInt) (by rw [tgn]; omega); have u0 : (v18).toInt = rTo ab tg (ab 128 y.toNatClampNeg).toInt := (by rw [tl]; omega); have mm := i_muln (x := v18) (y := mI S 91 2) (by omega) (by omega) (by omega) (by omega); have un9 : (rTo ab tg (ab 128 y.toNatClampNeg).toInt).toNat = (v18).toNatClampNeg := (by rw [← u0]; rfl); have k8 := congrArg Int32.toInt (t9 (v18).toNatClampNeg); have mt := ms.2.2.1 (v18).toNatClampNeg (by have := tn_cast (x := v18) (by omega); omega); have he : (v18 * mI S 91 2 + mI S 92 (v18).toNatClampNeg).toInt = rTo ab tg (ab 128 y.toNatClampNeg).toInt * (ab 87 3).toInt + (ab 92 (rTo ab tg (ab 128 y.toNatClampNeg).toInt).toNat).toInt := (by rw [i_add (by omega) (by omega), mm.2.2, un9, ← u0, i3, k8]); have a0 : aZ (ma_put S 91 6 (.inl v18)) = ab := (Z_p6 hpre0).trans hpre1; have a1 := Mo_z rp1_S19 (show mI S19 91 = mI (ma_put S 91 6 (.inl v18)) 91 from funext (fun _ => zG_z hL_S19 rfl)) (show mI S19 92 = mI (ma_put S 91 6 (.inl v18)) 92 from funext (fun _ => zG_z hL_S19 rfl)) (show mI S19 93 = mI (ma_put S 91 6 (.inl v18)) 93 from funext (fun _ => zG_z hL_S19 rfl)); rw [a0] at a1; have u := xB_th (W := 75) rp0_S19 hpre2; have u2 := u.2.2.2.2.1; rw [← aZ_o (c := 128) (by decide) (by decide) (by decide), a1, Mo_r (by decide) (by decide)] at u2; have w9 : mI S19 92 (v18).toNatClampNeg = ab 92 (v18).toNatClampNeg := (congrFun (show mI S19 92 = mI (ma_put S 91 6 (.inl v18)) 92 from funext (fun _ => zG_z hL_S19 rfl)) _).trans (t9 _); refine Or.inr ⟨rfl, by rw [← u0]; omega, ?_, ?_⟩; (rw [(show aZ S19 = aZ S19 from rfl), a1, u2, w9, ← un9]; rw [← un9] at he; exact M1_e he); (rw [← u0]; first | rfl | omega)))
            · skip
              have g239 := i_nlt h234
              refine zd (fun h240 => ?_) (fun h240 => ?_)
              · skip
                have g241 := i_le h240
                have li242 : (1 : Int32).toInt = 1 := rfl
                have q243 : (mI S19 91 6).toInt = v18.toInt := zG_zi (f := mI (ma_put S 91 6 (.inl v18))) hL_S19 rfl
                have f244 := zG_s hI_S19 (-1) (92) (c := 91) (k := 6) (by decide)
                exact K ((1 : Int32)) _ hI_S19 (by decide) (show xB S19 (mR S19 70) from by first | (exact xB_x (xC_o (W := 75) rp0_S19).2)) (show ((1 : Int32) = 0 ∧ aZ S19 = ab ∧ (mI S19 91 6).toInt = tg ∧ rTo ab tg (ab 128 y.toNatClampNeg).toInt = -1) ∨ ((1 : Int32) = 1 ∧ rTo ab tg (ab 128 y.toNatClampNeg).toInt ≠ -1 ∧ aZ S19 = rM1 ab y.toNatClampNeg (rTo ab tg (ab 128 y.toNatClampNeg).toInt) ∧ (mI S19 91 6).toInt = rTo ab tg (ab 128 y.toNatClampNeg).toInt) from by first | (exfalso; omega) | (have ty := xB_th (W := 75) hpre0 hpre2; have f2 : mI S t 2 = ab 128 y.toNatClampNeg := ty.2.2.2.2.1.trans ((aZ_o (by decide) (by decide) (by decide)).symm.trans (congrFun (congrFun hpre1 128) _)); have i2 := congrArg Int32.toInt f2; have s3 : mI S 91 2 = ab 87 3 := (by rw [← hpre1]; rfl); have i3 := congrArg Int32.toInt s3; have t9 : ∀ k, mI S 92 k = ab 92 k := fun k => (aZ_9 (Or.inl rfl)).symm.trans (congrFun (congrFun hpre1 92) k); have ms := Mq_s hpre3; have ms1 := ms.1; have ms2 := ms.2.1; have ms4 := ms.2.2.2.1; have ms5 := ms.2.2.2.2.1; have tg6 := hpre4; have tgn : tg.toNat = (mI S 91 6).toNatClampNeg := (by rw [← tg6]; rfl); have k9 := congrArg Int32.toInt (t9 (mI S 91 6).toNatClampNeg); have le := rp0_S17; rw [hpre1] at le; have tl := To_l (a := ab) (t := tg) (sz := (ab 128 y.toNatClampNeg).toInt) (by rw [tgn]; omega); have u0 : (v18).toInt = rTo ab tg (ab 128 y.toNatClampNeg).toInt := (by rw [tl]; omega); have mm := i_muln (x := v18) (y := mI S 91 2) (by omega) (by omega) (by omega) (by omega); have un9 : (rTo ab tg (ab 128 y.toNatClampNeg).toInt).toNat = (v18).toNatClampNeg := (by rw [← u0]; rfl); have k8 := congrArg Int32.toInt (t9 (v18).toNatClampNeg); have mt := ms.2.2.1 (v18).toNatClampNeg (by have := tn_cast (x := v18) (by omega); omega); have he : (v18 * mI S 91 2 + mI S 92 (v18).toNatClampNeg).toInt = rTo ab tg (ab 128 y.toNatClampNeg).toInt * (ab 87 3).toInt + (ab 92 (rTo ab tg (ab 128 y.toNatClampNeg).toInt).toNat).toInt := (by rw [i_add (by omega) (by omega), mm.2.2, un9, ← u0, i3, k8]); have a0 : aZ (ma_put S 91 6 (.inl v18)) = ab := (Z_p6 hpre0).trans hpre1; have a1 := Mo_z rp1_S19 (show mI S19 91 = mI (ma_put S 91 6 (.inl v18)) 91 from funext (fun _ => zG_z hL_S19 rfl)) (show mI S19 92 = mI (ma_put S 91 6 (.inl v18)) 92 from funext (fun _ => zG_z hL_S19 rfl)) (show mI S19 93 = mI (ma_put S 91 6 (.inl v18)) 93 from funext (fun _ => zG_z hL_S19 rfl)); rw [a0] at a1; have u := xB_th (W := 75) rp0_S19 hpre2; have u2 := u.2.2.2.2.1; rw [← aZ_o (c := 128) (by decide) (by decide) (by decide), a1, Mo_r (by decide) (by decide)] at u2; have w9 : mI S19 92 (v18).toNatClampNeg = ab 92 (v18).toNatClampNeg := (congrFun (show mI S19 92 = mI (ma_put S 91 6 (.inl v18)) 92 from funext (fun _ => zG_z hL_S19 rfl)) _).trans (t9 _); refine Or.inr ⟨rfl, by rw [← u0]; omega, ?_, ?_⟩; (rw [(show aZ S19 = aZ S19 from rfl), a1, u2, w9, ← un9]; rw [← un9] at he; exact M1_e he); (rw [← u0]; first | rfl | omega)))
              · skip
                have g245 := i_nle h240
                refine ⟨i_ix (by omega) (by omega), ?_⟩
                refine ⟨i_ix (by omega) (by omega), ?_⟩
                first | have f247 := zG_a hI 93 (0) (3000) (c := 92) (k := v18.toNatClampNeg) (by decide) (i_ix (n := 93) (by omega) (by omega)).2 | have b248 := i_bd (mI S 92 v18.toNatClampNeg)
                have q249 : (mI S19 92 v18.toNatClampNeg).toInt = (mI S 92 v18.toNatClampNeg).toInt := zG_zi (f := mI (ma_put S 91 6 (.inl v18))) hL_S19 rfl
                first | have f250 := zG_a hI_S19 93 (0) (3000) (c := 92) (k := v18.toNatClampNeg) (by decide) (i_ix (n := 93) (by omega) (by omega)).2 | have b251 := i_bd (mI S19 92 v18.toNatClampNeg)
                have f252 := zG_th hI_S19 th_t
                first | have e253 : ((mI S19 92 v18.toNatClampNeg) + (mI S19 t 2)).toInt = (mI S19 92 v18.toNatClampNeg).toInt + (mI S19 t 2).toInt := i_add (by omega) (by omega) | have b254 := i_bd ((mI S19 92 v18.toNatClampNeg) + (mI S19 t 2))
                have hI246 : zL91 f r C Z N (ma_put S19 92 v18.toNatClampNeg (.inl ((mI S19 92 v18.toNatClampNeg) + (mI S19 t 2)))) := zG_sa hI_S19 (0) (3000) rfl (by decide) (by decide) (by decide) trivial (by omega) (by omega)
                have li255 : (1 : Int32).toInt = 1 := rfl
                have q256 : (mI S19 91 6).toInt = v18.toInt := zG_zi (f := mI (ma_put S 91 6 (.inl v18))) hL_S19 rfl
                have f257 := zG_s hI_S19 (-1) (92) (c := 91) (k := 6) (by decide)
                exact K ((1 : Int32)) _ hI246 (by decide) (show xB (ma_put S19 92 v18.toNatClampNeg (.inl ((mI S19 92 v18.toNatClampNeg) + (mI S19 t 2)))) (mR (ma_put S19 92 v18.toNatClampNeg (.inl ((mI S19 92 v18.toNatClampNeg) + (mI S19 t 2)))) 70) from by first | (exact xB_x (xC_n (c := 92) (k := v18.toNatClampNeg) (x := ((mI S19 92 v18.toNatClampNeg) + (mI S19 t 2))) (xC_o (W := 75) rp0_S19) ⟨by decide, Or.inl ⟨rfl, rfl⟩⟩).2)) (show ((1 : Int32) = 0 ∧ aZ (ma_put S19 92 v18.toNatClampNeg (.inl ((mI S19 92 v18.toNatClampNeg) + (mI S19 t 2)))) = ab ∧ (mI S19 91 6).toInt = tg ∧ rTo ab tg (ab 128 y.toNatClampNeg).toInt = -1) ∨ ((1 : Int32) = 1 ∧ rTo ab tg (ab 128 y.toNatClampNeg).toInt ≠ -1 ∧ aZ (ma_put S19 92 v18.toNatClampNeg (.inl ((mI S19 92 v18.toNatClampNeg) + (mI S19 t 2)))) = rM1 ab y.toNatClampNeg (rTo ab tg (ab 128 y.toNatClampNeg).toInt) ∧ (mI S19 91 6).toInt = rTo ab tg (ab 128 y.toNatClampNeg).toInt) from by first | (exfalso; omega) | (have ty := xB_th (W := 75) hpre0 hpre2; have f2 : mI S t 2 = ab 128 y.toNatClampNeg := ty.2.2.2.2.1.trans ((aZ_o (by decide) (by decide) (by decide)).symm.trans (congrFun (congrFun hpre1 128) _)); have i2 := congrArg Int32.toInt f2; have s3 : mI S 91 2 = ab 87 3 := (by rw [← hpre1]; rfl); have i3 := congrArg Int32.toInt s3; have t9 : ∀ k, mI S 92 k = ab 92 k := fun k => (aZ_9 (Or.inl rfl)).symm.trans (congrFun (congrFun hpre1 92) k); have ms := Mq_s hpre3; have ms1 := ms.1; have ms2 := ms.2.1; have ms4 := ms.2.2.2.1; have ms5 := ms.2.2.2.2.1; have tg6 := hpre4; have tgn : tg.toNat = (mI S 91 6).toNatClampNeg := (by rw [← tg6]; rfl); have k9 := congrArg Int32.toInt (t9 (mI S 91 6).toNatClampNeg); have le := rp0_S17; rw [hpre1] at le; have tl := To_l (a := ab) (t := tg) (sz := (ab 128 y.toNatClampNeg).toInt) (by rw [tgn]; omega); have u0 : (v18).toInt = rTo ab tg (ab 128 y.toNatClampNeg).toInt := (by rw [tl]; omega); have mm := i_muln (x := v18) (y := mI S 91 2) (by omega) (by omega) (by omega) (by omega); have un9 : (rTo ab tg (ab 128 y.toNatClampNeg).toInt).toNat = (v18).toNatClampNeg := (by rw [← u0]; rfl); have k8 := congrArg Int32.toInt (t9 (v18).toNatClampNeg); have mt := ms.2.2.1 (v18).toNatClampNeg (by have := tn_cast (x := v18) (by omega); omega); have he : (v18 * mI S 91 2 + mI S 92 (v18).toNatClampNeg).toInt = rTo ab tg (ab 128 y.toNatClampNeg).toInt * (ab 87 3).toInt + (ab 92 (rTo ab tg (ab 128 y.toNatClampNeg).toInt).toNat).toInt := (by rw [i_add (by omega) (by omega), mm.2.2, un9, ← u0, i3, k8]); have a0 : aZ (ma_put S 91 6 (.inl v18)) = ab := (Z_p6 hpre0).trans hpre1; have a1 := Mo_z rp1_S19 (show mI S19 91 = mI (ma_put S 91 6 (.inl v18)) 91 from funext (fun _ => zG_z hL_S19 rfl)) (show mI S19 92 = mI (ma_put S 91 6 (.inl v18)) 92 from funext (fun _ => zG_z hL_S19 rfl)) (show mI S19 93 = mI (ma_put S 91 6 (.inl v18)) 93 from funext (fun _ => zG_z hL_S19 rfl)); rw [a0] at a1; have u := xB_th (W := 75) rp0_S19 hpre2; have u2 := u.2.2.2.2.1; rw [← aZ_o (c := 128) (by decide) (by decide) (by decide), a1, Mo_r (by decide) (by decide)] at u2; have w9 : mI S19 92 (v18).toNatClampNeg = ab 92 (v18).toNatClampNeg := (congrFun (show mI S19 92 = mI (ma_put S 91 6 (.inl v18)) 92 from funext (fun _ => zG_z hL_S19 rfl)) _).trans (t9 _); refine Or.inr ⟨rfl, by rw [← u0]; omega, ?_, ?_⟩; (rw [((Z_p9 (c := 92) (n := v18.toNatClampNeg) (x := ((mI S19 92 v18.toNatClampNeg) + (mI S19 t 2))) (xC_o (W := 75) rp0_S19).2 (by decide)).trans (congrArg (fun q => ma_u q 92 v18.toNatClampNeg ((mI S19 92 v18.toNatClampNeg) + (mI S19 t 2))) (show aZ S19 = aZ S19 from rfl))), a1, u2, w9, ← un9]; rw [← un9] at he; exact M1_e he); (rw [← u0]; first | rfl | omega)))
          · skip
            have g258 := i_nlt h227
            refine zd (fun h259 => ?_) (fun h259 => ?_)
            · skip
              have g260 := i_le h259
              first | have f261 := i_muln (x := v18) (y := (mI S 91 2)) (by omega) (by omega) (by omega) (by omega) | have b262 := i_bd (v18 * (mI S 91 2))
              first | have e263 : ((v18 * (mI S 91 2)) + (0 : Int32)).toInt = (v18 * (mI S 91 2)).toInt + (0) := i_addk rfl (by omega) (by omega) | have b264 := i_bd ((v18 * (mI S 91 2)) + (0 : Int32))
              have hI265 : zL91 f r C Z N (ma_put S 91 6 (.inl v18)) := zG_sp hI (-1) (92) rfl (by decide) (by decide) (by decide) trivial (by omega) (by omega)
              refine sp_90_69_s (ab := (aS 75 (ma_put S 91 6 (.inl v18)))) (R := (mR (ma_put S 91 6 (.inl v18)) 70)) (y := (y)) t (((v18 * (mI S 91 2)) + (0 : Int32))) (by omega) (by omega) (zL91_dn hI265) th_t (show xB (ma_put S 91 6 (.inl v18)) (mR (ma_put S 91 6 (.inl v18)) 70) from by first | (exact xB_x (xC_n (c := 91) (k := 6) (x := v18) (xC_o (W := 75) hpre0) ⟨by decide, Or.inl ⟨rfl, rfl⟩⟩).2)) (show aS 75 (ma_put S 91 6 (.inl v18)) = (aS 75 (ma_put S 91 6 (.inl v18))) from by first | (exact rfl)) (show zTa (mR (ma_put S 91 6 (.inl v18)) 70) (y) = some t from by first | (exact hpre2)) (show qMv (aS 75 (ma_put S 91 6 (.inl v18))) (y).toNatClampNeg ((v18 * (mI S 91 2)) + (0 : Int32)) from by first | (exfalso; omega) | (have ty := xB_th (W := 75) hpre0 hpre2; have f2 : mI S t 2 = ab 128 y.toNatClampNeg := ty.2.2.2.2.1.trans ((aZ_o (by decide) (by decide) (by decide)).symm.trans (congrFun (congrFun hpre1 128) _)); have i2 := congrArg Int32.toInt f2; have s3 : mI S 91 2 = ab 87 3 := (by rw [← hpre1]; rfl); have i3 := congrArg Int32.toInt s3; have t9 : ∀ k, mI S 92 k = ab 92 k := fun k => (aZ_9 (Or.inl rfl)).symm.trans (congrFun (congrFun hpre1 92) k); have ms := Mq_s hpre3; have ms1 := ms.1; have ms2 := ms.2.1; have ms4 := ms.2.2.2.1; have ms5 := ms.2.2.2.2.1; have tg6 := hpre4; have tgn : tg.toNat = (mI S 91 6).toNatClampNeg := (by rw [← tg6]; rfl); have k9 := congrArg Int32.toInt (t9 (mI S 91 6).toNatClampNeg); have le := rp0_S17; rw [hpre1] at le; have tl := To_l (a := ab) (t := tg) (sz := (ab 128 y.toNatClampNeg).toInt) (by rw [tgn]; omega); have u0 : (v18).toInt = rTo ab tg (ab 128 y.toNatClampNeg).toInt := (by rw [tl]; omega); have mm := i_muln (x := v18) (y := mI S 91 2) (by omega) (by omega) (by omega) (by omega); have un9 : (rTo ab tg (ab 128 y.toNatClampNeg).toInt).toNat = (v18).toNatClampNeg := (by rw [← u0]; rfl); have k8 := congrArg Int32.toInt (t9 (v18).toNatClampNeg); have mt := ms.2.2.1 (v18).toNatClampNeg (by have := tn_cast (x := v18) (by omega); omega); have he : (v18 * mI S 91 2 + mI S 92 (v18).toNatClampNeg).toInt = rTo ab tg (ab 128 y.toNatClampNeg).toInt * (ab 87 3).toInt + (ab 92 (rTo ab tg (ab 128 y.toNatClampNeg).toInt).toNat).toInt := (by rw [i_add (by omega) (by omega), mm.2.2, un9, ← u0, i3, k8]); have qv := (Mq_to hpre3 (by rw [← u0]; omega) he).1; rw [← hpre1, ← Z_p6 (x := v18) hpre0] at qv; exact Mv_Z qv)) (by omega) (fun S21 hL_S21 rp0_S21 rp1_S21 => zv_n ⟨zG_T hL_S21, ?_⟩)
              have hI_S21 := zL91_up hI265 hL_S21
              have rp0_S21 : xB S21 (mR (ma_put S 91 6 (.inl v18)) 70) := by
                have z := rp0_S21
                (try rw [show mI (ma_put S 91 6 (.inl v18)) 65 = f 65 from funext (fun k => zG_z hI265 rfl)] at z)
                (try rw [show mI (ma_put S 91 6 (.inl v18)) 64 1 = f 64 1 from zG_z hI265 rfl] at z)
                exact z
              have rp1_S21 : aS 75 S21 = aMo (aS 75 (ma_put S 91 6 (.inl v18))) (y).toNatClampNeg ((v18 * (mI S 91 2)) + (0 : Int32)) := by
                have z := rp1_S21
                (try rw [show mI (ma_put S 91 6 (.inl v18)) 65 = f 65 from funext (fun k => zG_z hI265 rfl)] at z)
                (try rw [show mI (ma_put S 91 6 (.inl v18)) 64 1 = f 64 1 from zG_z hI265 rfl] at z)
                exact z
              refine ⟨zG_n hI_S21 th_t, ?_⟩
              refine zd (fun h266 => ?_) (fun h266 => ?_)
              · skip
                have g267 := i_lt h266
                have li268 : (1 : Int32).toInt = 1 := rfl
                have q269 : (mI S21 91 6).toInt = v18.toInt := zG_zi (f := mI (ma_put S 91 6 (.inl v18))) hL_S21 rfl
                have f270 := zG_s hI_S21 (-1) (92) (c := 91) (k := 6) (by decide)
                exact K ((1 : Int32)) _ hI_S21 (by decide) (show xB S21 (mR S21 70) from by first | (exact xB_x (xC_o (W := 75) rp0_S21).2)) (show ((1 : Int32) = 0 ∧ aZ S21 = ab ∧ (mI S21 91 6).toInt = tg ∧ rTo ab tg (ab 128 y.toNatClampNeg).toInt = -1) ∨ ((1 : Int32) = 1 ∧ rTo ab tg (ab 128 y.toNatClampNeg).toInt ≠ -1 ∧ aZ S21 = rM1 ab y.toNatClampNeg (rTo ab tg (ab 128 y.toNatClampNeg).toInt) ∧ (mI S21 91 6).toInt = rTo ab tg (ab 128 y.toNatClampNeg).toInt) from by first | (exfalso; omega) | (have ty := xB_th (W := 75) hpre0 hpre2; have f2 : mI S t 2 = ab 128 y.toNatClampNeg := ty.2.2.2.2.1.trans ((aZ_o (by decide) (by decide) (by decide)).symm.trans (congrFun (congrFun hpre1 128) _)); have i2 := congrArg Int32.toInt f2; have s3 : mI S 91 2 = ab 87 3 := (by rw [← hpre1]; rfl); have i3 := congrArg Int32.toInt s3; have t9 : ∀ k, mI S 92 k = ab 92 k := fun k => (aZ_9 (Or.inl rfl)).symm.trans (congrFun (congrFun hpre1 92) k); have ms := Mq_s hpre3; have ms1 := ms.1; have ms2 := ms.2.1; have ms4 := ms.2.2.2.1; have ms5 := ms.2.2.2.2.1; have tg6 := hpre4; have tgn : tg.toNat = (mI S 91 6).toNatClampNeg := (by rw [← tg6]; rfl); have k9 := congrArg Int32.toInt (t9 (mI S 91 6).toNatClampNeg); have le := rp0_S17; rw [hpre1] at le; have tl := To_l (a := ab) (t := tg) (sz := (ab 128 y.toNatClampNeg).toInt) (by rw [tgn]; omega); have u0 : (v18).toInt = rTo ab tg (ab 128 y.toNatClampNeg).toInt := (by rw [tl]; omega); have mm := i_muln (x := v18) (y := mI S 91 2) (by omega) (by omega) (by omega) (by omega); have un9 : (rTo ab tg (ab 128 y.toNatClampNeg).toInt).toNat = (v18).toNatClampNeg := (by rw [← u0]; rfl); have k8 := congrArg Int32.toInt (t9 (v18).toNatClampNeg); have mt := ms.2.2.1 (v18).toNatClampNeg (by have := tn_cast (x := v18) (by omega); omega); have he : (v18 * mI S 91 2 + mI S 92 (v18).toNatClampNeg).toInt = rTo ab tg (ab 128 y.toNatClampNeg).toInt * (ab 87 3).toInt + (ab 92 (rTo ab tg (ab 128 y.toNatClampNeg).toInt).toNat).toInt := (by rw [i_add (by omega) (by omega), mm.2.2, un9, ← u0, i3, k8]); have a0 : aZ (ma_put S 91 6 (.inl v18)) = ab := (Z_p6 hpre0).trans hpre1; have a1 := Mo_z rp1_S21 (show mI S21 91 = mI (ma_put S 91 6 (.inl v18)) 91 from funext (fun _ => zG_z hL_S21 rfl)) (show mI S21 92 = mI (ma_put S 91 6 (.inl v18)) 92 from funext (fun _ => zG_z hL_S21 rfl)) (show mI S21 93 = mI (ma_put S 91 6 (.inl v18)) 93 from funext (fun _ => zG_z hL_S21 rfl)); rw [a0] at a1; have u := xB_th (W := 75) rp0_S21 hpre2; have u2 := u.2.2.2.2.1; rw [← aZ_o (c := 128) (by decide) (by decide) (by decide), a1, Mo_r (by decide) (by decide)] at u2; have w9 : mI S21 92 (v18).toNatClampNeg = ab 92 (v18).toNatClampNeg := (congrFun (show mI S21 92 = mI (ma_put S 91 6 (.inl v18)) 92 from funext (fun _ => zG_z hL_S21 rfl)) _).trans (t9 _); refine Or.inr ⟨rfl, by rw [← u0]; omega, ?_, ?_⟩; (rw [(show aZ S21 = aZ S21 from rfl), a1, u2, w9, ← un9]; rw [← un9] at he; exact M1_e he); (rw [← u0]; first | rfl | omega)))
              · skip
                have g271 := i_nlt h266
                refine zd (fun h272 => ?_) (fun h272 => ?_)
                · skip
                  have g273 := i_le h272
                  have li274 : (1 : Int32).toInt = 1 := rfl
                  have q275 : (mI S21 91 6).toInt = v18.toInt := zG_zi (f := mI (ma_put S 91 6 (.inl v18))) hL_S21 rfl
                  have f276 := zG_s hI_S21 (-1) (92) (c := 91) (k := 6) (by decide)
                  exact K ((1 : Int32)) _ hI_S21 (by decide) (show xB S21 (mR S21 70) from by first | (exact xB_x (xC_o (W := 75) rp0_S21).2)) (show ((1 : Int32) = 0 ∧ aZ S21 = ab ∧ (mI S21 91 6).toInt = tg ∧ rTo ab tg (ab 128 y.toNatClampNeg).toInt = -1) ∨ ((1 : Int32) = 1 ∧ rTo ab tg (ab 128 y.toNatClampNeg).toInt ≠ -1 ∧ aZ S21 = rM1 ab y.toNatClampNeg (rTo ab tg (ab 128 y.toNatClampNeg).toInt) ∧ (mI S21 91 6).toInt = rTo ab tg (ab 128 y.toNatClampNeg).toInt) from by first | (exfalso; omega) | (have ty := xB_th (W := 75) hpre0 hpre2; have f2 : mI S t 2 = ab 128 y.toNatClampNeg := ty.2.2.2.2.1.trans ((aZ_o (by decide) (by decide) (by decide)).symm.trans (congrFun (congrFun hpre1 128) _)); have i2 := congrArg Int32.toInt f2; have s3 : mI S 91 2 = ab 87 3 := (by rw [← hpre1]; rfl); have i3 := congrArg Int32.toInt s3; have t9 : ∀ k, mI S 92 k = ab 92 k := fun k => (aZ_9 (Or.inl rfl)).symm.trans (congrFun (congrFun hpre1 92) k); have ms := Mq_s hpre3; have ms1 := ms.1; have ms2 := ms.2.1; have ms4 := ms.2.2.2.1; have ms5 := ms.2.2.2.2.1; have tg6 := hpre4; have tgn : tg.toNat = (mI S 91 6).toNatClampNeg := (by rw [← tg6]; rfl); have k9 := congrArg Int32.toInt (t9 (mI S 91 6).toNatClampNeg); have le := rp0_S17; rw [hpre1] at le; have tl := To_l (a := ab) (t := tg) (sz := (ab 128 y.toNatClampNeg).toInt) (by rw [tgn]; omega); have u0 : (v18).toInt = rTo ab tg (ab 128 y.toNatClampNeg).toInt := (by rw [tl]; omega); have mm := i_muln (x := v18) (y := mI S 91 2) (by omega) (by omega) (by omega) (by omega); have un9 : (rTo ab tg (ab 128 y.toNatClampNeg).toInt).toNat = (v18).toNatClampNeg := (by rw [← u0]; rfl); have k8 := congrArg Int32.toInt (t9 (v18).toNatClampNeg); have mt := ms.2.2.1 (v18).toNatClampNeg (by have := tn_cast (x := v18) (by omega); omega); have he : (v18 * mI S 91 2 + mI S 92 (v18).toNatClampNeg).toInt = rTo ab tg (ab 128 y.toNatClampNeg).toInt * (ab 87 3).toInt + (ab 92 (rTo ab tg (ab 128 y.toNatClampNeg).toInt).toNat).toInt := (by rw [i_add (by omega) (by omega), mm.2.2, un9, ← u0, i3, k8]); have a0 : aZ (ma_put S 91 6 (.inl v18)) = ab := (Z_p6 hpre0).trans hpre1; have a1 := Mo_z rp1_S21 (show mI S21 91 = mI (ma_put S 91 6 (.inl v18)) 91 from funext (fun _ => zG_z hL_S21 rfl)) (show mI S21 92 = mI (ma_put S 91 6 (.inl v18)) 92 from funext (fun _ => zG_z hL_S21 rfl)) (show mI S21 93 = mI (ma_put S 91 6 (.inl v18)) 93 from funext (fun _ => zG_z hL_S21 rfl)); rw [a0] at a1; have u := xB_th (W := 75) rp0_S21 hpre2; have u2 := u.2.2.2.2.1; rw [← aZ_o (c := 128) (by decide) (by decide) (by decide), a1, Mo_r (by decide) (by decide)] at u2; have w9 : mI S21 92 (v18).toNatClampNeg = ab 92 (v18).toNatClampNeg := (congrFun (show mI S21 92 = mI (ma_put S 91 6 (.inl v18)) 92 from funext (fun _ => zG_z hL_S21 rfl)) _).trans (t9 _); refine Or.inr ⟨rfl, by rw [← u0]; omega, ?_, ?_⟩; (rw [(show aZ S21 = aZ S21 from rfl), a1, u2, w9, ← un9]; rw [← un9] at he; exact M1_e he); (rw [← u0]; first | rfl | omega)))
                · skip
                  have g277 := i_nle h272
                  refine ⟨i_ix (by omega) (by omega), ?_⟩
                  refine ⟨i_ix (by omega) (by omega), ?_⟩
                  first | have f279 := zG_a hI 93 (0) (3000) (c := 92) (k := v18.toNatClampNeg) (by decide) (i_ix (n := 93) (by omega) (by omega)).2 | have b280 := i_bd (mI S 92 v18.toNatClampNeg)
                  have q281 : (mI S21 92 v18.toNatClampNeg).toInt = (mI S 92 v18.toNatClampNeg).toInt := zG_zi (f := mI (ma_put S 91 6 (.inl v18))) hL_S21 rfl
                  first | have f282 := zG_a hI_S21 93 (0) (3000) (c := 92) (k := v18.toNatClampNeg) (by decide) (i_ix (n := 93) (by omega) (by omega)).2 | have b283 := i_bd (mI S21 92 v18.toNatClampNeg)
                  have f284 := zG_th hI_S21 th_t
                  first | have e285 : ((mI S21 92 v18.toNatClampNeg) + (mI S21 t 2)).toInt = (mI S21 92 v18.toNatClampNeg).toInt + (mI S21 t 2).toInt := i_add (by omega) (by omega) | have b286 := i_bd ((mI S21 92 v18.toNatClampNeg) + (mI S21 t 2))
                  have hI278 : zL91 f r C Z N (ma_put S21 92 v18.toNatClampNeg (.inl ((mI S21 92 v18.toNatClampNeg) + (mI S21 t 2)))) := zG_sa hI_S21 (0) (3000) rfl (by decide) (by decide) (by decide) trivial (by omega) (by omega)
                  have li287 : (1 : Int32).toInt = 1 := rfl
                  have q288 : (mI S21 91 6).toInt = v18.toInt := zG_zi (f := mI (ma_put S 91 6 (.inl v18))) hL_S21 rfl
                  have f289 := zG_s hI_S21 (-1) (92) (c := 91) (k := 6) (by decide)
                  exact K ((1 : Int32)) _ hI278 (by decide) (show xB (ma_put S21 92 v18.toNatClampNeg (.inl ((mI S21 92 v18.toNatClampNeg) + (mI S21 t 2)))) (mR (ma_put S21 92 v18.toNatClampNeg (.inl ((mI S21 92 v18.toNatClampNeg) + (mI S21 t 2)))) 70) from by first | (exact xB_x (xC_n (c := 92) (k := v18.toNatClampNeg) (x := ((mI S21 92 v18.toNatClampNeg) + (mI S21 t 2))) (xC_o (W := 75) rp0_S21) ⟨by decide, Or.inl ⟨rfl, rfl⟩⟩).2)) (show ((1 : Int32) = 0 ∧ aZ (ma_put S21 92 v18.toNatClampNeg (.inl ((mI S21 92 v18.toNatClampNeg) + (mI S21 t 2)))) = ab ∧ (mI S21 91 6).toInt = tg ∧ rTo ab tg (ab 128 y.toNatClampNeg).toInt = -1) ∨ ((1 : Int32) = 1 ∧ rTo ab tg (ab 128 y.toNatClampNeg).toInt ≠ -1 ∧ aZ (ma_put S21 92 v18.toNatClampNeg (.inl ((mI S21 92 v18.toNatClampNeg) + (mI S21 t 2)))) = rM1 ab y.toNatClampNeg (rTo ab tg (ab 128 y.toNatClampNeg).toInt) ∧ (mI S21 91 6).toInt = rTo ab tg (ab 128 y.toNatClampNeg).toInt) from by first | (exfalso; omega) | (have ty := xB_th (W := 75) hpre0 hpre2; have f2 : mI S t 2 = ab 128 y.toNatClampNeg := ty.2.2.2.2.1.trans ((aZ_o (by decide) (by decide) (by decide)).symm.trans (congrFun (congrFun hpre1 128) _)); have i2 := congrArg Int32.toInt f2; have s3 : mI S 91 2 = ab 87 3 := (by rw [← hpre1]; rfl); have i3 := congrArg Int32.toInt s3; have t9 : ∀ k, mI S 92 k = ab 92 k := fun k => (aZ_9 (Or.inl rfl)).symm.trans (congrFun (congrFun hpre1 92) k); have ms := Mq_s hpre3; have ms1 := ms.1; have ms2 := ms.2.1; have ms4 := ms.2.2.2.1; have ms5 := ms.2.2.2.2.1; have tg6 := hpre4; have tgn : tg.toNat = (mI S 91 6).toNatClampNeg := (by rw [← tg6]; rfl); have k9 := congrArg Int32.toInt (t9 (mI S 91 6).toNatClampNeg); have le := rp0_S17; rw [hpre1] at le; have tl := To_l (a := ab) (t := tg) (sz := (ab 128 y.toNatClampNeg).toInt) (by rw [tgn]; omega); have u0 : (v18).toInt = rTo ab tg (ab 128 y.toNatClampNeg).toInt := (by rw [tl]; omega); have mm := i_muln (x := v18) (y := mI S 91 2) (by omega) (by omega) (by omega) (by omega); have un9 : (rTo ab tg (ab 128 y.toNatClampNeg).toInt).toNat = (v18).toNatClampNeg := (by rw [← u0]; rfl); have k8 := congrArg Int32.toInt (t9 (v18).toNatClampNeg); have mt := ms.2.2.1 (v18).toNatClampNeg (by have := tn_cast (x := v18) (by omega); omega); have he : (v18 * mI S 91 2 + mI S 92 (v18).toNatClampNeg).toInt = rTo ab tg (ab 128 y.toNatClampNeg).toInt * (ab 87 3).toInt + (ab 92 (rTo ab tg (ab 128 y.toNatClampNeg).toInt).toNat).toInt := (by rw [i_add (by omega) (by omega), mm.2.2, un9, ← u0, i3, k8]); have a0 : aZ (ma_put S 91 6 (.inl v18)) = ab := (Z_p6 hpre0).trans hpre1; have a1 := Mo_z rp1_S21 (show mI S21 91 = mI (ma_put S 91 6 (.inl v18)) 91 from funext (fun _ => zG_z hL_S21 rfl)) (show mI S21 92 = mI (ma_put S 91 6 (.inl v18)) 92 from funext (fun _ => zG_z hL_S21 rfl)) (show mI S21 93 = mI (ma_put S 91 6 (.inl v18)) 93 from funext (fun _ => zG_z hL_S21 rfl)); rw [a0] at a1; have u := xB_th (W := 75) rp0_S21 hpre2; have u2 := u.2.2.2.2.1; rw [← aZ_o (c := 128) (by decide) (by decide) (by decide), a1, Mo_r (by decide) (by decide)] at u2; have w9 : mI S21 92 (v18).toNatClampNeg = ab 92 (v18).toNatClampNeg := (congrFun (show mI S21 92 = mI (ma_put S 91 6 (.inl v18)) 92 from funext (fun _ => zG_z hL_S21 rfl)) _).trans (t9 _); refine Or.inr ⟨rfl, by rw [← u0]; omega, ?_, ?_⟩; (rw [((Z_p9 (c := 92) (n := v18.toNatClampNeg) (x := ((mI S21 92 v18.toNatClampNeg) + (mI S21 t 2))) (xC_o (W := 75) rp0_S21).2 (by decide)).trans (congrArg (fun q => ma_u q 92 v18.toNatClampNeg ((mI S21 92 v18.toNatClampNeg) + (mI S21 t 2))) (show aZ S21 = aZ S21 from rfl))), a1, u2, w9, ← un9]; rw [← un9] at he; exact M1_e he); (rw [← u0]; first | rfl | omega)))
            · skip
              have g290 := i_nle h259
              refine ⟨i_ix (by omega) (by omega), ?_⟩
              first | have f291 := i_muln (x := v18) (y := (mI S 91 2)) (by omega) (by omega) (by omega) (by omega) | have b292 := i_bd (v18 * (mI S 91 2))
              first | have f293 := zG_a hI 93 (0) (3000) (c := 92) (k := v18.toNatClampNeg) (by decide) (i_ix (n := 93) (by omega) (by omega)).2 | have b294 := i_bd (mI S 92 v18.toNatClampNeg)
              first | have e295 : ((v18 * (mI S 91 2)) + (mI S 92 v18.toNatClampNeg)).toInt = (v18 * (mI S 91 2)).toInt + (mI S 92 v18.toNatClampNeg).toInt := i_add (by omega) (by omega) | have b296 := i_bd ((v18 * (mI S 91 2)) + (mI S 92 v18.toNatClampNeg))
              have hI297 : zL91 f r C Z N (ma_put S 91 6 (.inl v18)) := zG_sp hI (-1) (92) rfl (by decide) (by decide) (by decide) trivial (by omega) (by omega)
              refine sp_90_69_s (ab := (aS 75 (ma_put S 91 6 (.inl v18)))) (R := (mR (ma_put S 91 6 (.inl v18)) 70)) (y := (y)) t (((v18 * (mI S 91 2)) + (mI S 92 v18.toNatClampNeg))) (by omega) (by omega) (zL91_dn hI297) th_t (show xB (ma_put S 91 6 (.inl v18)) (mR (ma_put S 91 6 (.inl v18)) 70) from by first | (exact xB_x (xC_n (c := 91) (k := 6) (x := v18) (xC_o (W := 75) hpre0) ⟨by decide, Or.inl ⟨rfl, rfl⟩⟩).2)) (show aS 75 (ma_put S 91 6 (.inl v18)) = (aS 75 (ma_put S 91 6 (.inl v18))) from by first | (exact rfl)) (show zTa (mR (ma_put S 91 6 (.inl v18)) 70) (y) = some t from by first | (exact hpre2)) (show qMv (aS 75 (ma_put S 91 6 (.inl v18))) (y).toNatClampNeg ((v18 * (mI S 91 2)) + (mI S 92 v18.toNatClampNeg)) from by first | (have ty := xB_th (W := 75) hpre0 hpre2; have f2 : mI S t 2 = ab 128 y.toNatClampNeg := ty.2.2.2.2.1.trans ((aZ_o (by decide) (by decide) (by decide)).symm.trans (congrFun (congrFun hpre1 128) _)); have i2 := congrArg Int32.toInt f2; have s3 : mI S 91 2 = ab 87 3 := (by rw [← hpre1]; rfl); have i3 := congrArg Int32.toInt s3; have t9 : ∀ k, mI S 92 k = ab 92 k := fun k => (aZ_9 (Or.inl rfl)).symm.trans (congrFun (congrFun hpre1 92) k); have ms := Mq_s hpre3; have ms1 := ms.1; have ms2 := ms.2.1; have ms4 := ms.2.2.2.1; have ms5 := ms.2.2.2.2.1; have tg6 := hpre4; have tgn : tg.toNat = (mI S 91 6).toNatClampNeg := (by rw [← tg6]; rfl); have k9 := congrArg Int32.toInt (t9 (mI S 91 6).toNatClampNeg); have le := rp0_S17; rw [hpre1] at le; have tl := To_l (a := ab) (t := tg) (sz := (ab 128 y.toNatClampNeg).toInt) (by rw [tgn]; omega); have u0 : (v18).toInt = rTo ab tg (ab 128 y.toNatClampNeg).toInt := (by rw [tl]; omega); have mm := i_muln (x := v18) (y := mI S 91 2) (by omega) (by omega) (by omega) (by omega); have un9 : (rTo ab tg (ab 128 y.toNatClampNeg).toInt).toNat = (v18).toNatClampNeg := (by rw [← u0]; rfl); have k8 := congrArg Int32.toInt (t9 (v18).toNatClampNeg); have mt := ms.2.2.1 (v18).toNatClampNeg (by have := tn_cast (x := v18) (by omega); omega); have he : (v18 * mI S 91 2 + mI S 92 (v18).toNatClampNeg).toInt = rTo ab tg (ab 128 y.toNatClampNeg).toInt * (ab 87 3).toInt + (ab 92 (rTo ab tg (ab 128 y.toNatClampNeg).toInt).toNat).toInt := (by rw [i_add (by omega) (by omega), mm.2.2, un9, ← u0, i3, k8]); have qv := (Mq_to hpre3 (by rw [← u0]; omega) he).1; rw [← hpre1, ← Z_p6 (x := v18) hpre0] at qv; exact Mv_Z qv) | (exfalso; omega)) (by omega) (fun S23 hL_S23 rp0_S23 rp1_S23 => zv_n ⟨zG_T hL_S23, ?_⟩)
              have hI_S23 := zL91_up hI297 hL_S23
              have rp0_S23 : xB S23 (mR (ma_put S 91 6 (.inl v18)) 70) := by
                have z := rp0_S23
                (try rw [show mI (ma_put S 91 6 (.inl v18)) 65 = f 65 from funext (fun k => zG_z hI297 rfl)] at z)
                (try rw [show mI (ma_put S 91 6 (.inl v18)) 64 1 = f 64 1 from zG_z hI297 rfl] at z)
                exact z
              have rp1_S23 : aS 75 S23 = aMo (aS 75 (ma_put S 91 6 (.inl v18))) (y).toNatClampNeg ((v18 * (mI S 91 2)) + (mI S 92 v18.toNatClampNeg)) := by
                have z := rp1_S23
                (try rw [show mI (ma_put S 91 6 (.inl v18)) 65 = f 65 from funext (fun k => zG_z hI297 rfl)] at z)
                (try rw [show mI (ma_put S 91 6 (.inl v18)) 64 1 = f 64 1 from zG_z hI297 rfl] at z)
                exact z
              refine ⟨zG_n hI_S23 th_t, ?_⟩
              refine zd (fun h298 => ?_) (fun h298 => ?_)
              · skip
                have g299 := i_lt h298
                have li300 : (1 : Int32).toInt = 1 := rfl
                have q301 : (mI S23 91 6).toInt = v18.toInt := zG_zi (f := mI (ma_put S 91 6 (.inl v18))) hL_S23 rfl
                have f302 := zG_s hI_S23 (-1) (92) (c := 91) (k := 6) (by decide)
                exact K ((1 : Int32)) _ hI_S23 (by decide) (show xB S23 (mR S23 70) from by first | (exact xB_x (xC_o (W := 75) rp0_S23).2)) (show ((1 : Int32) = 0 ∧ aZ S23 = ab ∧ (mI S23 91 6).toInt = tg ∧ rTo ab tg (ab 128 y.toNatClampNeg).toInt = -1) ∨ ((1 : Int32) = 1 ∧ rTo ab tg (ab 128 y.toNatClampNeg).toInt ≠ -1 ∧ aZ S23 = rM1 ab y.toNatClampNeg (rTo ab tg (ab 128 y.toNatClampNeg).toInt) ∧ (mI S23 91 6).toInt = rTo ab tg (ab 128 y.toNatClampNeg).toInt) from by first | (exfalso; omega) | (have ty := xB_th (W := 75) hpre0 hpre2; have f2 : mI S t 2 = ab 128 y.toNatClampNeg := ty.2.2.2.2.1.trans ((aZ_o (by decide) (by decide) (by decide)).symm.trans (congrFun (congrFun hpre1 128) _)); have i2 := congrArg Int32.toInt f2; have s3 : mI S 91 2 = ab 87 3 := (by rw [← hpre1]; rfl); have i3 := congrArg Int32.toInt s3; have t9 : ∀ k, mI S 92 k = ab 92 k := fun k => (aZ_9 (Or.inl rfl)).symm.trans (congrFun (congrFun hpre1 92) k); have ms := Mq_s hpre3; have ms1 := ms.1; have ms2 := ms.2.1; have ms4 := ms.2.2.2.1; have ms5 := ms.2.2.2.2.1; have tg6 := hpre4; have tgn : tg.toNat = (mI S 91 6).toNatClampNeg := (by rw [← tg6]; rfl); have k9 := congrArg Int32.toInt (t9 (mI S 91 6).toNatClampNeg); have le := rp0_S17; rw [hpre1] at le; have tl := To_l (a := ab) (t := tg) (sz := (ab 128 y.toNatClampNeg).toInt) (by rw [tgn]; omega); have u0 : (v18).toInt = rTo ab tg (ab 128 y.toNatClampNeg).toInt := (by rw [tl]; omega); have mm := i_muln (x := v18) (y := mI S 91 2) (by omega) (by omega) (by omega) (by omega); have un9 : (rTo ab tg (ab 128 y.toNatClampNeg).toInt).toNat = (v18).toNatClampNeg := (by rw [← u0]; rfl); have k8 := congrArg Int32.toInt (t9 (v18).toNatClampNeg); have mt := ms.2.2.1 (v18).toNatClampNeg (by have := tn_cast (x := v18) (by omega); omega); have he : (v18 * mI S 91 2 + mI S 92 (v18).toNatClampNeg).toInt = rTo ab tg (ab 128 y.toNatClampNeg).toInt * (ab 87 3).toInt + (ab 92 (rTo ab tg (ab 128 y.toNatClampNeg).toInt).toNat).toInt := (by rw [i_add (by omega) (by omega), mm.2.2, un9, ← u0, i3, k8]); have a0 : aZ (ma_put S 91 6 (.inl v18)) = ab := (Z_p6 hpre0).trans hpre1; have a1 := Mo_z rp1_S23 (show mI S23 91 = mI (ma_put S 91 6 (.inl v18)) 91 from funext (fun _ => zG_z hL_S23 rfl)) (show mI S23 92 = mI (ma_put S 91 6 (.inl v18)) 92 from funext (fun _ => zG_z hL_S23 rfl)) (show mI S23 93 = mI (ma_put S 91 6 (.inl v18)) 93 from funext (fun _ => zG_z hL_S23 rfl)); rw [a0] at a1; have u := xB_th (W := 75) rp0_S23 hpre2; have u2 := u.2.2.2.2.1; rw [← aZ_o (c := 128) (by decide) (by decide) (by decide), a1, Mo_r (by decide) (by decide)] at u2; have w9 : mI S23 92 (v18).toNatClampNeg = ab 92 (v18).toNatClampNeg := (congrFun (show mI S23 92 = mI (ma_put S 91 6 (.inl v18)) 92 from funext (fun _ => zG_z hL_S23 rfl)) _).trans (t9 _); refine Or.inr ⟨rfl, by rw [← u0]; omega, ?_, ?_⟩; (rw [(show aZ S23 = aZ S23 from rfl), a1, u2, w9, ← un9]; rw [← un9] at he; exact M1_e he); (rw [← u0]; first | rfl | omega)))
              · skip
                have g303 := i_nlt h298
                refine zd (fun h304 => ?_) (fun h304 => ?_)
                · skip
                  have g305 := i_le h304
                  have li306 : (1 : Int32).toInt = 1 := rfl
                  have q307 : (mI S23 91 6).toInt = v18.toInt := zG_zi (f := mI (ma_put S 91 6 (.inl v18))) hL_S23 rfl
                  have f308 := zG_s hI_S23 (-1) (92) (c := 91) (k := 6) (by decide)
                  exact K ((1 : Int32)) _ hI_S23 (by decide) (show xB S23 (mR S23 70) from by first | (exact xB_x (xC_o (W := 75) rp0_S23).2)) (show ((1 : Int32) = 0 ∧ aZ S23 = ab ∧ (mI S23 91 6).toInt = tg ∧ rTo ab tg (ab 128 y.toNatClampNeg).toInt = -1) ∨ ((1 : Int32) = 1 ∧ rTo ab tg (ab 128 y.toNatClampNeg).toInt ≠ -1 ∧ aZ S23 = rM1 ab y.toNatClampNeg (rTo ab tg (ab 128 y.toNatClampNeg).toInt) ∧ (mI S23 91 6).toInt = rTo ab tg (ab 128 y.toNatClampNeg).toInt) from by first | (exfalso; omega) | (have ty := xB_th (W := 75) hpre0 hpre2; have f2 : mI S t 2 = ab 128 y.toNatClampNeg := ty.2.2.2.2.1.trans ((aZ_o (by decide) (by decide) (by decide)).symm.trans (congrFun (congrFun hpre1 128) _)); have i2 := congrArg Int32.toInt f2; have s3 : mI S 91 2 = ab 87 3 := (by rw [← hpre1]; rfl); have i3 := congrArg Int32.toInt s3; have t9 : ∀ k, mI S 92 k = ab 92 k := fun k => (aZ_9 (Or.inl rfl)).symm.trans (congrFun (congrFun hpre1 92) k); have ms := Mq_s hpre3; have ms1 := ms.1; have ms2 := ms.2.1; have ms4 := ms.2.2.2.1; have ms5 := ms.2.2.2.2.1; have tg6 := hpre4; have tgn : tg.toNat = (mI S 91 6).toNatClampNeg := (by rw [← tg6]; rfl); have k9 := congrArg Int32.toInt (t9 (mI S 91 6).toNatClampNeg); have le := rp0_S17; rw [hpre1] at le; have tl := To_l (a := ab) (t := tg) (sz := (ab 128 y.toNatClampNeg).toInt) (by rw [tgn]; omega); have u0 : (v18).toInt = rTo ab tg (ab 128 y.toNatClampNeg).toInt := (by rw [tl]; omega); have mm := i_muln (x := v18) (y := mI S 91 2) (by omega) (by omega) (by omega) (by omega); have un9 : (rTo ab tg (ab 128 y.toNatClampNeg).toInt).toNat = (v18).toNatClampNeg := (by rw [← u0]; rfl); have k8 := congrArg Int32.toInt (t9 (v18).toNatClampNeg); have mt := ms.2.2.1 (v18).toNatClampNeg (by have := tn_cast (x := v18) (by omega); omega); have he : (v18 * mI S 91 2 + mI S 92 (v18).toNatClampNeg).toInt = rTo ab tg (ab 128 y.toNatClampNeg).toInt * (ab 87 3).toInt + (ab 92 (rTo ab tg (ab 128 y.toNatClampNeg).toInt).toNat).toInt := (by rw [i_add (by omega) (by omega), mm.2.2, un9, ← u0, i3, k8]); have a0 : aZ (ma_put S 91 6 (.inl v18)) = ab := (Z_p6 hpre0).trans hpre1; have a1 := Mo_z rp1_S23 (show mI S23 91 = mI (ma_put S 91 6 (.inl v18)) 91 from funext (fun _ => zG_z hL_S23 rfl)) (show mI S23 92 = mI (ma_put S 91 6 (.inl v18)) 92 from funext (fun _ => zG_z hL_S23 rfl)) (show mI S23 93 = mI (ma_put S 91 6 (.inl v18)) 93 from funext (fun _ => zG_z hL_S23 rfl)); rw [a0] at a1; have u := xB_th (W := 75) rp0_S23 hpre2; have u2 := u.2.2.2.2.1; rw [← aZ_o (c := 128) (by decide) (by decide) (by decide), a1, Mo_r (by decide) (by decide)] at u2; have w9 : mI S23 92 (v18).toNatClampNeg = ab 92 (v18).toNatClampNeg := (congrFun (show mI S23 92 = mI (ma_put S 91 6 (.inl v18)) 92 from funext (fun _ => zG_z hL_S23 rfl)) _).trans (t9 _); refine Or.inr ⟨rfl, by rw [← u0]; omega, ?_, ?_⟩; (rw [(show aZ S23 = aZ S23 from rfl), a1, u2, w9, ← un9]; rw [← un9] at he; exact M1_e he); (rw [← u0]; first | rfl | omega)))
                · skip
                  have g309 := i_nle h304
                  refine ⟨i_ix (by omega) (by omega), ?_⟩
                  refine ⟨i_ix (by omega) (by omega), ?_⟩
                  have q311 : (mI S23 92 v18.toNatClampNeg).toInt = (mI S 92 v18.toNatClampNeg).toInt := zG_zi (f := mI (ma_put S 91 6 (.inl v18))) hL_S23 rfl
                  first | have f312 := zG_a hI_S23 93 (0) (3000) (c := 92) (k := v18.toNatClampNeg) (by decide) (i_ix (n := 93) (by omega) (by omega)).2 | have b313 := i_bd (mI S23 92 v18.toNatClampNeg)
                  have f314 := zG_th hI_S23 th_t
                  first | have e315 : ((mI S23 92 v18.toNatClampNeg) + (mI S23 t 2)).toInt = (mI S23 92 v18.toNatClampNeg).toInt + (mI S23 t 2).toInt := i_add (by omega) (by omega) | have b316 := i_bd ((mI S23 92 v18.toNatClampNeg) + (mI S23 t 2))
                  have hI310 : zL91 f r C Z N (ma_put S23 92 v18.toNatClampNeg (.inl ((mI S23 92 v18.toNatClampNeg) + (mI S23 t 2)))) := zG_sa hI_S23 (0) (3000) rfl (by decide) (by decide) (by decide) trivial (by omega) (by omega)
                  have li317 : (1 : Int32).toInt = 1 := rfl
                  have q318 : (mI S23 91 6).toInt = v18.toInt := zG_zi (f := mI (ma_put S 91 6 (.inl v18))) hL_S23 rfl
                  have f319 := zG_s hI_S23 (-1) (92) (c := 91) (k := 6) (by decide)
                  exact K ((1 : Int32)) _ hI310 (by decide) (show xB (ma_put S23 92 v18.toNatClampNeg (.inl ((mI S23 92 v18.toNatClampNeg) + (mI S23 t 2)))) (mR (ma_put S23 92 v18.toNatClampNeg (.inl ((mI S23 92 v18.toNatClampNeg) + (mI S23 t 2)))) 70) from by first | (exact xB_x (xC_n (c := 92) (k := v18.toNatClampNeg) (x := ((mI S23 92 v18.toNatClampNeg) + (mI S23 t 2))) (xC_o (W := 75) rp0_S23) ⟨by decide, Or.inl ⟨rfl, rfl⟩⟩).2)) (show ((1 : Int32) = 0 ∧ aZ (ma_put S23 92 v18.toNatClampNeg (.inl ((mI S23 92 v18.toNatClampNeg) + (mI S23 t 2)))) = ab ∧ (mI S23 91 6).toInt = tg ∧ rTo ab tg (ab 128 y.toNatClampNeg).toInt = -1) ∨ ((1 : Int32) = 1 ∧ rTo ab tg (ab 128 y.toNatClampNeg).toInt ≠ -1 ∧ aZ (ma_put S23 92 v18.toNatClampNeg (.inl ((mI S23 92 v18.toNatClampNeg) + (mI S23 t 2)))) = rM1 ab y.toNatClampNeg (rTo ab tg (ab 128 y.toNatClampNeg).toInt) ∧ (mI S23 91 6).toInt = rTo ab tg (ab 128 y.toNatClampNeg).toInt) from by first | (have ty := xB_th (W := 75) hpre0 hpre2; have f2 : mI S t 2 = ab 128 y.toNatClampNeg := ty.2.2.2.2.1.trans ((aZ_o (by decide) (by decide) (by decide)).symm.trans (congrFun (congrFun hpre1 128) _)); have i2 := congrArg Int32.toInt f2; have s3 : mI S 91 2 = ab 87 3 := (by rw [← hpre1]; rfl); have i3 := congrArg Int32.toInt s3; have t9 : ∀ k, mI S 92 k = ab 92 k := fun k => (aZ_9 (Or.inl rfl)).symm.trans (congrFun (congrFun hpre1 92) k); have ms := Mq_s hpre3; have ms1 := ms.1; have ms2 := ms.2.1; have ms4 := ms.2.2.2.1; have ms5 := ms.2.2.2.2.1; have tg6 := hpre4; have tgn : tg.toNat = (mI S 91 6).toNatClampNeg := (by rw [← tg6]; rfl); have k9 := congrArg Int32.toInt (t9 (mI S 91 6).toNatClampNeg); have le := rp0_S17; rw [hpre1] at le; have tl := To_l (a := ab) (t := tg) (sz := (ab 128 y.toNatClampNeg).toInt) (by rw [tgn]; omega); have u0 : (v18).toInt = rTo ab tg (ab 128 y.toNatClampNeg).toInt := (by rw [tl]; omega); have mm := i_muln (x := v18) (y := mI S 91 2) (by omega) (by omega) (by omega) (by omega); have un9 : (rTo ab tg (ab 128 y.toNatClampNeg).toInt).toNat = (v18).toNatClampNeg := (by rw [← u0]; rfl); have k8 := congrArg Int32.toInt (t9 (v18).toNatClampNeg); have mt := ms.2.2.1 (v18).toNatClampNeg (by have := tn_cast (x := v18) (by omega); omega); have he : (v18 * mI S 91 2 + mI S 92 (v18).toNatClampNeg).toInt = rTo ab tg (ab 128 y.toNatClampNeg).toInt * (ab 87 3).toInt + (ab 92 (rTo ab tg (ab 128 y.toNatClampNeg).toInt).toNat).toInt := (by rw [i_add (by omega) (by omega), mm.2.2, un9, ← u0, i3, k8]); have a0 : aZ (ma_put S 91 6 (.inl v18)) = ab := (Z_p6 hpre0).trans hpre1; have a1 := Mo_z rp1_S23 (show mI S23 91 = mI (ma_put S 91 6 (.inl v18)) 91 from funext (fun _ => zG_z hL_S23 rfl)) (show mI S23 92 = mI (ma_put S 91 6 (.inl v18)) 92 from funext (fun _ => zG_z hL_S23 rfl)) (show mI S23 93 = mI (ma_put S 91 6 (.inl v18)) 93 from funext (fun _ => zG_z hL_S23 rfl)); rw [a0] at a1; have u := xB_th (W := 75) rp0_S23 hpre2; have u2 := u.2.2.2.2.1; rw [← aZ_o (c := 128) (by decide) (by decide) (by decide), a1, Mo_r (by decide) (by decide)] at u2; have w9 : mI S23 92 (v18).toNatClampNeg = ab 92 (v18).toNatClampNeg := (congrFun (show mI S23 92 = mI (ma_put S 91 6 (.inl v18)) 92 from funext (fun _ => zG_z hL_S23 rfl)) _).trans (t9 _); refine Or.inr ⟨rfl, by rw [← u0]; omega, ?_, ?_⟩; (rw [((Z_p9 (c := 92) (n := v18.toNatClampNeg) (x := ((mI S23 92 v18.toNatClampNeg) + (mI S23 t 2))) (xC_o (W := 75) rp0_S23).2 (by decide)).trans (congrArg (fun q => ma_u q 92 v18.toNatClampNeg ((mI S23 92 v18.toNatClampNeg) + (mI S23 t 2))) (show aZ S23 = aZ S23 from rfl))), a1, u2, w9, ← un9]; rw [← un9] at he; exact M1_e he); (rw [← u0]; first | omega | rfl)) | (exfalso; omega))
      · skip
        have g320 := i_nlt h220
        have li321 : (-1 : Int32).toInt = -1 := rfl
        refine zd (fun h322 => ?_) (fun h322 => ?_)
        · skip
          have g323 := i_eq h322
          exact K ((0 : Int32)) _ hI (by decide) (show xB S (mR S 70) from by first | (exact xB_x (xC_o (W := 75) hpre0).2)) (show ((0 : Int32) = 0 ∧ aZ S = ab ∧ (mI S 91 6).toInt = tg ∧ rTo ab tg (ab 128 y.toNatClampNeg).toInt = -1) ∨ ((0 : Int32) = 1 ∧ rTo ab tg (ab 128 y.toNatClampNeg).toInt ≠ -1 ∧ aZ S = rM1 ab y.toNatClampNeg (rTo ab tg (ab 128 y.toNatClampNeg).toInt) ∧ (mI S 91 6).toInt = rTo ab tg (ab 128 y.toNatClampNeg).toInt) from by first | (exfalso; omega) | (have ty := xB_th (W := 75) hpre0 hpre2; have f2 : mI S t 2 = ab 128 y.toNatClampNeg := ty.2.2.2.2.1.trans ((aZ_o (by decide) (by decide) (by decide)).symm.trans (congrFun (congrFun hpre1 128) _)); have i2 := congrArg Int32.toInt f2; have s3 : mI S 91 2 = ab 87 3 := (by rw [← hpre1]; rfl); have i3 := congrArg Int32.toInt s3; have t9 : ∀ k, mI S 92 k = ab 92 k := fun k => (aZ_9 (Or.inl rfl)).symm.trans (congrFun (congrFun hpre1 92) k); have ms := Mq_s hpre3; have ms1 := ms.1; have ms2 := ms.2.1; have ms4 := ms.2.2.2.1; have ms5 := ms.2.2.2.2.1; have tg6 := hpre4; have tgn : tg.toNat = (mI S 91 6).toNatClampNeg := (by rw [← tg6]; rfl); have k9 := congrArg Int32.toInt (t9 (mI S 91 6).toNatClampNeg); have tl := To_t (a := ab) (t := tg) (sz := (ab 128 y.toNatClampNeg).toInt) (by rw [tgn]; omega); exact Or.inl ⟨rfl, hpre1, tg6, by rw [tl]; omega⟩))
        · skip
          have g324 := i_ne h322
          refine zd (fun h325 => ?_) (fun h325 => ?_)
          · skip
            have g326 := i_lt h325
            first | have f327 := i_muln (x := (mI S 91 6)) (y := (mI S 91 2)) (by omega) (by omega) (by omega) (by omega) | have b328 := i_bd ((mI S 91 6) * (mI S 91 2))
            first | have e329 : (((mI S 91 6) * (mI S 91 2)) + (0 : Int32)).toInt = ((mI S 91 6) * (mI S 91 2)).toInt + (0) := i_addk rfl (by omega) (by omega) | have b330 := i_bd (((mI S 91 6) * (mI S 91 2)) + (0 : Int32))
            have hI331 : zL91 f r C Z N (ma_put S 91 6 (.inl (mI S 91 6))) := zG_sp hI (-1) (92) rfl (by decide) (by decide) (by decide) trivial (by omega) (by omega)
            refine sp_90_69_s (ab := (aS 75 (ma_put S 91 6 (.inl (mI S 91 6))))) (R := (mR (ma_put S 91 6 (.inl (mI S 91 6))) 70)) (y := (y)) t ((((mI S 91 6) * (mI S 91 2)) + (0 : Int32))) (by omega) (by omega) (zL91_dn hI331) th_t (show xB (ma_put S 91 6 (.inl (mI S 91 6))) (mR (ma_put S 91 6 (.inl (mI S 91 6))) 70) from by first | (exact xB_x (xC_n (c := 91) (k := 6) (x := (mI S 91 6)) (xC_o (W := 75) hpre0) ⟨by decide, Or.inl ⟨rfl, rfl⟩⟩).2)) (show aS 75 (ma_put S 91 6 (.inl (mI S 91 6))) = (aS 75 (ma_put S 91 6 (.inl (mI S 91 6)))) from by first | (exact rfl)) (show zTa (mR (ma_put S 91 6 (.inl (mI S 91 6))) 70) (y) = some t from by first | (exact hpre2)) (show qMv (aS 75 (ma_put S 91 6 (.inl (mI S 91 6)))) (y).toNatClampNeg (((mI S 91 6) * (mI S 91 2)) + (0 : Int32)) from by first | (exfalso; omega) | (have ty := xB_th (W := 75) hpre0 hpre2; have f2 : mI S t 2 = ab 128 y.toNatClampNeg := ty.2.2.2.2.1.trans ((aZ_o (by decide) (by decide) (by decide)).symm.trans (congrFun (congrFun hpre1 128) _)); have i2 := congrArg Int32.toInt f2; have s3 : mI S 91 2 = ab 87 3 := (by rw [← hpre1]; rfl); have i3 := congrArg Int32.toInt s3; have t9 : ∀ k, mI S 92 k = ab 92 k := fun k => (aZ_9 (Or.inl rfl)).symm.trans (congrFun (congrFun hpre1 92) k); have ms := Mq_s hpre3; have ms1 := ms.1; have ms2 := ms.2.1; have ms4 := ms.2.2.2.1; have ms5 := ms.2.2.2.2.1; have tg6 := hpre4; have tgn : tg.toNat = (mI S 91 6).toNatClampNeg := (by rw [← tg6]; rfl); have k9 := congrArg Int32.toInt (t9 (mI S 91 6).toNatClampNeg); have tl := To_t (a := ab) (t := tg) (sz := (ab 128 y.toNatClampNeg).toInt) (by rw [tgn]; omega); have u0 : ((mI S 91 6)).toInt = rTo ab tg (ab 128 y.toNatClampNeg).toInt := (by rw [tl]; omega); have mm := i_muln (x := (mI S 91 6)) (y := mI S 91 2) (by omega) (by omega) (by omega) (by omega); have un9 : (rTo ab tg (ab 128 y.toNatClampNeg).toInt).toNat = ((mI S 91 6)).toNatClampNeg := (by rw [← u0]; rfl); have k8 := congrArg Int32.toInt (t9 ((mI S 91 6)).toNatClampNeg); have mt := ms.2.2.1 ((mI S 91 6)).toNatClampNeg (by have := tn_cast (x := (mI S 91 6)) (by omega); omega); have he : ((mI S 91 6) * mI S 91 2 + mI S 92 ((mI S 91 6)).toNatClampNeg).toInt = rTo ab tg (ab 128 y.toNatClampNeg).toInt * (ab 87 3).toInt + (ab 92 (rTo ab tg (ab 128 y.toNatClampNeg).toInt).toNat).toInt := (by rw [i_add (by omega) (by omega), mm.2.2, un9, ← u0, i3, k8]); have qv := (Mq_to hpre3 (by rw [← u0]; omega) he).1; rw [← hpre1, ← Z_p6 (x := (mI S 91 6)) hpre0] at qv; exact Mv_Z qv)) (by omega) (fun S25 hL_S25 rp0_S25 rp1_S25 => zv_n ⟨zG_T hL_S25, ?_⟩)
            have hI_S25 := zL91_up hI331 hL_S25
            have rp0_S25 : xB S25 (mR (ma_put S 91 6 (.inl (mI S 91 6))) 70) := by
              have z := rp0_S25
              (try rw [show mI (ma_put S 91 6 (.inl (mI S 91 6))) 65 = f 65 from funext (fun k => zG_z hI331 rfl)] at z)
              (try rw [show mI (ma_put S 91 6 (.inl (mI S 91 6))) 64 1 = f 64 1 from zG_z hI331 rfl] at z)
              exact z
            have rp1_S25 : aS 75 S25 = aMo (aS 75 (ma_put S 91 6 (.inl (mI S 91 6)))) (y).toNatClampNeg (((mI S 91 6) * (mI S 91 2)) + (0 : Int32)) := by
              have z := rp1_S25
              (try rw [show mI (ma_put S 91 6 (.inl (mI S 91 6))) 65 = f 65 from funext (fun k => zG_z hI331 rfl)] at z)
              (try rw [show mI (ma_put S 91 6 (.inl (mI S 91 6))) 64 1 = f 64 1 from zG_z hI331 rfl] at z)
              exact z
            refine ⟨zG_n hI_S25 th_t, ?_⟩
            refine zd (fun h332 => ?_) (fun h332 => ?_)
            · skip
              have g333 := i_lt h332
              have li334 : (1 : Int32).toInt = 1 := rfl
              have q335 : (mI S25 91 6).toInt = (mI S 91 6).toInt := zG_zi (f := mI (ma_put S 91 6 (.inl (mI S 91 6)))) hL_S25 rfl
              have f336 := zG_s hI_S25 (-1) (92) (c := 91) (k := 6) (by decide)
              exact K ((1 : Int32)) _ hI_S25 (by decide) (show xB S25 (mR S25 70) from by first | (exact xB_x (xC_o (W := 75) rp0_S25).2)) (show ((1 : Int32) = 0 ∧ aZ S25 = ab ∧ (mI S25 91 6).toInt = tg ∧ rTo ab tg (ab 128 y.toNatClampNeg).toInt = -1) ∨ ((1 : Int32) = 1 ∧ rTo ab tg (ab 128 y.toNatClampNeg).toInt ≠ -1 ∧ aZ S25 = rM1 ab y.toNatClampNeg (rTo ab tg (ab 128 y.toNatClampNeg).toInt) ∧ (mI S25 91 6).toInt = rTo ab tg (ab 128 y.toNatClampNeg).toInt) from by first | (exfalso; omega) | (have ty := xB_th (W := 75) hpre0 hpre2; have f2 : mI S t 2 = ab 128 y.toNatClampNeg := ty.2.2.2.2.1.trans ((aZ_o (by decide) (by decide) (by decide)).symm.trans (congrFun (congrFun hpre1 128) _)); have i2 := congrArg Int32.toInt f2; have s3 : mI S 91 2 = ab 87 3 := (by rw [← hpre1]; rfl); have i3 := congrArg Int32.toInt s3; have t9 : ∀ k, mI S 92 k = ab 92 k := fun k => (aZ_9 (Or.inl rfl)).symm.trans (congrFun (congrFun hpre1 92) k); have ms := Mq_s hpre3; have ms1 := ms.1; have ms2 := ms.2.1; have ms4 := ms.2.2.2.1; have ms5 := ms.2.2.2.2.1; have tg6 := hpre4; have tgn : tg.toNat = (mI S 91 6).toNatClampNeg := (by rw [← tg6]; rfl); have k9 := congrArg Int32.toInt (t9 (mI S 91 6).toNatClampNeg); have tl := To_t (a := ab) (t := tg) (sz := (ab 128 y.toNatClampNeg).toInt) (by rw [tgn]; omega); have u0 : ((mI S 91 6)).toInt = rTo ab tg (ab 128 y.toNatClampNeg).toInt := (by rw [tl]; omega); have mm := i_muln (x := (mI S 91 6)) (y := mI S 91 2) (by omega) (by omega) (by omega) (by omega); have un9 : (rTo ab tg (ab 128 y.toNatClampNeg).toInt).toNat = ((mI S 91 6)).toNatClampNeg := (by rw [← u0]; rfl); have k8 := congrArg Int32.toInt (t9 ((mI S 91 6)).toNatClampNeg); have mt := ms.2.2.1 ((mI S 91 6)).toNatClampNeg (by have := tn_cast (x := (mI S 91 6)) (by omega); omega); have he : ((mI S 91 6) * mI S 91 2 + mI S 92 ((mI S 91 6)).toNatClampNeg).toInt = rTo ab tg (ab 128 y.toNatClampNeg).toInt * (ab 87 3).toInt + (ab 92 (rTo ab tg (ab 128 y.toNatClampNeg).toInt).toNat).toInt := (by rw [i_add (by omega) (by omega), mm.2.2, un9, ← u0, i3, k8]); have a0 : aZ (ma_put S 91 6 (.inl (mI S 91 6))) = ab := (Z_p6 hpre0).trans hpre1; have a1 := Mo_z rp1_S25 (show mI S25 91 = mI (ma_put S 91 6 (.inl (mI S 91 6))) 91 from funext (fun _ => zG_z hL_S25 rfl)) (show mI S25 92 = mI (ma_put S 91 6 (.inl (mI S 91 6))) 92 from funext (fun _ => zG_z hL_S25 rfl)) (show mI S25 93 = mI (ma_put S 91 6 (.inl (mI S 91 6))) 93 from funext (fun _ => zG_z hL_S25 rfl)); rw [a0] at a1; have u := xB_th (W := 75) rp0_S25 hpre2; have u2 := u.2.2.2.2.1; rw [← aZ_o (c := 128) (by decide) (by decide) (by decide), a1, Mo_r (by decide) (by decide)] at u2; have w9 : mI S25 92 ((mI S 91 6)).toNatClampNeg = ab 92 ((mI S 91 6)).toNatClampNeg := (congrFun (show mI S25 92 = mI (ma_put S 91 6 (.inl (mI S 91 6))) 92 from funext (fun _ => zG_z hL_S25 rfl)) _).trans (t9 _); refine Or.inr ⟨rfl, by rw [← u0]; omega, ?_, ?_⟩; (rw [(show aZ S25 = aZ S25 from rfl), a1, u2, w9, ← un9]; rw [← un9] at he; exact M1_e he); (rw [← u0]; first | rfl | omega)))
            · skip
              have g337 := i_nlt h332
              refine zd (fun h338 => ?_) (fun h338 => ?_)
              · skip
                have g339 := i_le h338
                have li340 : (1 : Int32).toInt = 1 := rfl
                have q341 : (mI S25 91 6).toInt = (mI S 91 6).toInt := zG_zi (f := mI (ma_put S 91 6 (.inl (mI S 91 6)))) hL_S25 rfl
                have f342 := zG_s hI_S25 (-1) (92) (c := 91) (k := 6) (by decide)
                exact K ((1 : Int32)) _ hI_S25 (by decide) (show xB S25 (mR S25 70) from by first | (exact xB_x (xC_o (W := 75) rp0_S25).2)) (show ((1 : Int32) = 0 ∧ aZ S25 = ab ∧ (mI S25 91 6).toInt = tg ∧ rTo ab tg (ab 128 y.toNatClampNeg).toInt = -1) ∨ ((1 : Int32) = 1 ∧ rTo ab tg (ab 128 y.toNatClampNeg).toInt ≠ -1 ∧ aZ S25 = rM1 ab y.toNatClampNeg (rTo ab tg (ab 128 y.toNatClampNeg).toInt) ∧ (mI S25 91 6).toInt = rTo ab tg (ab 128 y.toNatClampNeg).toInt) from by first | (exfalso; omega) | (have ty := xB_th (W := 75) hpre0 hpre2; have f2 : mI S t 2 = ab 128 y.toNatClampNeg := ty.2.2.2.2.1.trans ((aZ_o (by decide) (by decide) (by decide)).symm.trans (congrFun (congrFun hpre1 128) _)); have i2 := congrArg Int32.toInt f2; have s3 : mI S 91 2 = ab 87 3 := (by rw [← hpre1]; rfl); have i3 := congrArg Int32.toInt s3; have t9 : ∀ k, mI S 92 k = ab 92 k := fun k => (aZ_9 (Or.inl rfl)).symm.trans (congrFun (congrFun hpre1 92) k); have ms := Mq_s hpre3; have ms1 := ms.1; have ms2 := ms.2.1; have ms4 := ms.2.2.2.1; have ms5 := ms.2.2.2.2.1; have tg6 := hpre4; have tgn : tg.toNat = (mI S 91 6).toNatClampNeg := (by rw [← tg6]; rfl); have k9 := congrArg Int32.toInt (t9 (mI S 91 6).toNatClampNeg); have tl := To_t (a := ab) (t := tg) (sz := (ab 128 y.toNatClampNeg).toInt) (by rw [tgn]; omega); have u0 : ((mI S 91 6)).toInt = rTo ab tg (ab 128 y.toNatClampNeg).toInt := (by rw [tl]; omega); have mm := i_muln (x := (mI S 91 6)) (y := mI S 91 2) (by omega) (by omega) (by omega) (by omega); have un9 : (rTo ab tg (ab 128 y.toNatClampNeg).toInt).toNat = ((mI S 91 6)).toNatClampNeg := (by rw [← u0]; rfl); have k8 := congrArg Int32.toInt (t9 ((mI S 91 6)).toNatClampNeg); have mt := ms.2.2.1 ((mI S 91 6)).toNatClampNeg (by have := tn_cast (x := (mI S 91 6)) (by omega); omega); have he : ((mI S 91 6) * mI S 91 2 + mI S 92 ((mI S 91 6)).toNatClampNeg).toInt = rTo ab tg (ab 128 y.toNatClampNeg).toInt * (ab 87 3).toInt + (ab 92 (rTo ab tg (ab 128 y.toNatClampNeg).toInt).toNat).toInt := (by rw [i_add (by omega) (by omega), mm.2.2, un9, ← u0, i3, k8]); have a0 : aZ (ma_put S 91 6 (.inl (mI S 91 6))) = ab := (Z_p6 hpre0).trans hpre1; have a1 := Mo_z rp1_S25 (show mI S25 91 = mI (ma_put S 91 6 (.inl (mI S 91 6))) 91 from funext (fun _ => zG_z hL_S25 rfl)) (show mI S25 92 = mI (ma_put S 91 6 (.inl (mI S 91 6))) 92 from funext (fun _ => zG_z hL_S25 rfl)) (show mI S25 93 = mI (ma_put S 91 6 (.inl (mI S 91 6))) 93 from funext (fun _ => zG_z hL_S25 rfl)); rw [a0] at a1; have u := xB_th (W := 75) rp0_S25 hpre2; have u2 := u.2.2.2.2.1; rw [← aZ_o (c := 128) (by decide) (by decide) (by decide), a1, Mo_r (by decide) (by decide)] at u2; have w9 : mI S25 92 ((mI S 91 6)).toNatClampNeg = ab 92 ((mI S 91 6)).toNatClampNeg := (congrFun (show mI S25 92 = mI (ma_put S 91 6 (.inl (mI S 91 6))) 92 from funext (fun _ => zG_z hL_S25 rfl)) _).trans (t9 _); refine Or.inr ⟨rfl, by rw [← u0]; omega, ?_, ?_⟩; (rw [(show aZ S25 = aZ S25 from rfl), a1, u2, w9, ← un9]; rw [← un9] at he; exact M1_e he); (rw [← u0]; first | rfl | omega)))
              · skip
                have g343 := i_nle h338
                refine ⟨i_ix (by omega) (by omega), ?_⟩
                refine ⟨i_ix (by omega) (by omega), ?_⟩
                have q345 : (mI S25 92 (mI S 91 6).toNatClampNeg).toInt = (mI S 92 (mI S 91 6).toNatClampNeg).toInt := zG_zi (f := mI (ma_put S 91 6 (.inl (mI S 91 6)))) hL_S25 rfl
                first | have f346 := zG_a hI_S25 93 (0) (3000) (c := 92) (k := (mI S 91 6).toNatClampNeg) (by decide) (i_ix (n := 93) (by omega) (by omega)).2 | have b347 := i_bd (mI S25 92 (mI S 91 6).toNatClampNeg)
                have f348 := zG_th hI_S25 th_t
                first | have e349 : ((mI S25 92 (mI S 91 6).toNatClampNeg) + (mI S25 t 2)).toInt = (mI S25 92 (mI S 91 6).toNatClampNeg).toInt + (mI S25 t 2).toInt := i_add (by omega) (by omega) | have b350 := i_bd ((mI S25 92 (mI S 91 6).toNatClampNeg) + (mI S25 t 2))
                have hI344 : zL91 f r C Z N (ma_put S25 92 (mI S 91 6).toNatClampNeg (.inl ((mI S25 92 (mI S 91 6).toNatClampNeg) + (mI S25 t 2)))) := zG_sa hI_S25 (0) (3000) rfl (by decide) (by decide) (by decide) trivial (by omega) (by omega)
                have li351 : (1 : Int32).toInt = 1 := rfl
                have q352 : (mI S25 91 6).toInt = (mI S 91 6).toInt := zG_zi (f := mI (ma_put S 91 6 (.inl (mI S 91 6)))) hL_S25 rfl
                have f353 := zG_s hI_S25 (-1) (92) (c := 91) (k := 6) (by decide)
                exact K ((1 : Int32)) _ hI344 (by decide) (show xB (ma_put S25 92 (mI S 91 6).toNatClampNeg (.inl ((mI S25 92 (mI S 91 6).toNatClampNeg) + (mI S25 t 2)))) (mR (ma_put S25 92 (mI S 91 6).toNatClampNeg (.inl ((mI S25 92 (mI S 91 6).toNatClampNeg) + (mI S25 t 2)))) 70) from by first | (exact xB_x (xC_n (c := 92) (k := (mI S 91 6).toNatClampNeg) (x := ((mI S25 92 (mI S 91 6).toNatClampNeg) + (mI S25 t 2))) (xC_o (W := 75) rp0_S25) ⟨by decide, Or.inl ⟨rfl, rfl⟩⟩).2)) (show ((1 : Int32) = 0 ∧ aZ (ma_put S25 92 (mI S 91 6).toNatClampNeg (.inl ((mI S25 92 (mI S 91 6).toNatClampNeg) + (mI S25 t 2)))) = ab ∧ (mI S25 91 6).toInt = tg ∧ rTo ab tg (ab 128 y.toNatClampNeg).toInt = -1) ∨ ((1 : Int32) = 1 ∧ rTo ab tg (ab 128 y.toNatClampNeg).toInt ≠ -1 ∧ aZ (ma_put S25 92 (mI S 91 6).toNatClampNeg (.inl ((mI S25 92 (mI S 91 6).toNatClampNeg) + (mI S25 t 2)))) = rM1 ab y.toNatClampNeg (rTo ab tg (ab 128 y.toNatClampNeg).toInt) ∧ (mI S25 91 6).toInt = rTo ab tg (ab 128 y.toNatClampNeg).toInt) from by first | (exfalso; omega) | (have ty := xB_th (W := 75) hpre0 hpre2; have f2 : mI S t 2 = ab 128 y.toNatClampNeg := ty.2.2.2.2.1.trans ((aZ_o (by decide) (by decide) (by decide)).symm.trans (congrFun (congrFun hpre1 128) _)); have i2 := congrArg Int32.toInt f2; have s3 : mI S 91 2 = ab 87 3 := (by rw [← hpre1]; rfl); have i3 := congrArg Int32.toInt s3; have t9 : ∀ k, mI S 92 k = ab 92 k := fun k => (aZ_9 (Or.inl rfl)).symm.trans (congrFun (congrFun hpre1 92) k); have ms := Mq_s hpre3; have ms1 := ms.1; have ms2 := ms.2.1; have ms4 := ms.2.2.2.1; have ms5 := ms.2.2.2.2.1; have tg6 := hpre4; have tgn : tg.toNat = (mI S 91 6).toNatClampNeg := (by rw [← tg6]; rfl); have k9 := congrArg Int32.toInt (t9 (mI S 91 6).toNatClampNeg); have tl := To_t (a := ab) (t := tg) (sz := (ab 128 y.toNatClampNeg).toInt) (by rw [tgn]; omega); have u0 : ((mI S 91 6)).toInt = rTo ab tg (ab 128 y.toNatClampNeg).toInt := (by rw [tl]; omega); have mm := i_muln (x := (mI S 91 6)) (y := mI S 91 2) (by omega) (by omega) (by omega) (by omega); have un9 : (rTo ab tg (ab 128 y.toNatClampNeg).toInt).toNat = ((mI S 91 6)).toNatClampNeg := (by rw [← u0]; rfl); have k8 := congrArg Int32.toInt (t9 ((mI S 91 6)).toNatClampNeg); have mt := ms.2.2.1 ((mI S 91 6)).toNatClampNeg (by have := tn_cast (x := (mI S 91 6)) (by omega); omega); have he : ((mI S 91 6) * mI S 91 2 + mI S 92 ((mI S 91 6)).toNatClampNeg).toInt = rTo ab tg (ab 128 y.toNatClampNeg).toInt * (ab 87 3).toInt + (ab 92 (rTo ab tg (ab 128 y.toNatClampNeg).toInt).toNat).toInt := (by rw [i_add (by omega) (by omega), mm.2.2, un9, ← u0, i3, k8]); have a0 : aZ (ma_put S 91 6 (.inl (mI S 91 6))) = ab := (Z_p6 hpre0).trans hpre1; have a1 := Mo_z rp1_S25 (show mI S25 91 = mI (ma_put S 91 6 (.inl (mI S 91 6))) 91 from funext (fun _ => zG_z hL_S25 rfl)) (show mI S25 92 = mI (ma_put S 91 6 (.inl (mI S 91 6))) 92 from funext (fun _ => zG_z hL_S25 rfl)) (show mI S25 93 = mI (ma_put S 91 6 (.inl (mI S 91 6))) 93 from funext (fun _ => zG_z hL_S25 rfl)); rw [a0] at a1; have u := xB_th (W := 75) rp0_S25 hpre2; have u2 := u.2.2.2.2.1; rw [← aZ_o (c := 128) (by decide) (by decide) (by decide), a1, Mo_r (by decide) (by decide)] at u2; have w9 : mI S25 92 ((mI S 91 6)).toNatClampNeg = ab 92 ((mI S 91 6)).toNatClampNeg := (congrFun (show mI S25 92 = mI (ma_put S 91 6 (.inl (mI S 91 6))) 92 from funext (fun _ => zG_z hL_S25 rfl)) _).trans (t9 _); refine Or.inr ⟨rfl, by rw [← u0]; omega, ?_, ?_⟩; (rw [((Z_p9 (c := 92) (n := (mI S 91 6).toNatClampNeg) (x := ((mI S25 92 (mI S 91 6).toNatClampNeg) + (mI S25 t 2))) (xC_o (W := 75) rp0_S25).2 (by decide)).trans (congrArg (fun q => ma_u q 92 (mI S 91 6).toNatClampNeg ((mI S25 92 (mI S 91 6).toNatClampNeg) + (mI S25 t 2))) (show aZ S25 = aZ S25 from rfl))), a1, u2, w9, ← un9]; rw [← un9] at he; exact M1_e he); (rw [← u0]; first | rfl | omega)))
          · skip
            have g354 := i_nlt h325
            refine zd (fun h355 => ?_) (fun h355 => ?_)
            · skip
              have g356 := i_le h355
              first | have f357 := i_muln (x := (mI S 91 6)) (y := (mI S 91 2)) (by omega) (by omega) (by omega) (by omega) | have b358 := i_bd ((mI S 91 6) * (mI S 91 2))
              first | have e359 : (((mI S 91 6) * (mI S 91 2)) + (0 : Int32)).toInt = ((mI S 91 6) * (mI S 91 2)).toInt + (0) := i_addk rfl (by omega) (by omega) | have b360 := i_bd (((mI S 91 6) * (mI S 91 2)) + (0 : Int32))
              have hI361 : zL91 f r C Z N (ma_put S 91 6 (.inl (mI S 91 6))) := zG_sp hI (-1) (92) rfl (by decide) (by decide) (by decide) trivial (by omega) (by omega)
              refine sp_90_69_s (ab := (aS 75 (ma_put S 91 6 (.inl (mI S 91 6))))) (R := (mR (ma_put S 91 6 (.inl (mI S 91 6))) 70)) (y := (y)) t ((((mI S 91 6) * (mI S 91 2)) + (0 : Int32))) (by omega) (by omega) (zL91_dn hI361) th_t (show xB (ma_put S 91 6 (.inl (mI S 91 6))) (mR (ma_put S 91 6 (.inl (mI S 91 6))) 70) from by first | (exact xB_x (xC_n (c := 91) (k := 6) (x := (mI S 91 6)) (xC_o (W := 75) hpre0) ⟨by decide, Or.inl ⟨rfl, rfl⟩⟩).2)) (show aS 75 (ma_put S 91 6 (.inl (mI S 91 6))) = (aS 75 (ma_put S 91 6 (.inl (mI S 91 6)))) from by first | (exact rfl)) (show zTa (mR (ma_put S 91 6 (.inl (mI S 91 6))) 70) (y) = some t from by first | (exact hpre2)) (show qMv (aS 75 (ma_put S 91 6 (.inl (mI S 91 6)))) (y).toNatClampNeg (((mI S 91 6) * (mI S 91 2)) + (0 : Int32)) from by first | (exfalso; omega) | (have ty := xB_th (W := 75) hpre0 hpre2; have f2 : mI S t 2 = ab 128 y.toNatClampNeg := ty.2.2.2.2.1.trans ((aZ_o (by decide) (by decide) (by decide)).symm.trans (congrFun (congrFun hpre1 128) _)); have i2 := congrArg Int32.toInt f2; have s3 : mI S 91 2 = ab 87 3 := (by rw [← hpre1]; rfl); have i3 := congrArg Int32.toInt s3; have t9 : ∀ k, mI S 92 k = ab 92 k := fun k => (aZ_9 (Or.inl rfl)).symm.trans (congrFun (congrFun hpre1 92) k); have ms := Mq_s hpre3; have ms1 := ms.1; have ms2 := ms.2.1; have ms4 := ms.2.2.2.1; have ms5 := ms.2.2.2.2.1; have tg6 := hpre4; have tgn : tg.toNat = (mI S 91 6).toNatClampNeg := (by rw [← tg6]; rfl); have k9 := congrArg Int32.toInt (t9 (mI S 91 6).toNatClampNeg); have tl := To_t (a := ab) (t := tg) (sz := (ab 128 y.toNatClampNeg).toInt) (by rw [tgn]; omega); have u0 : ((mI S 91 6)).toInt = rTo ab tg (ab 128 y.toNatClampNeg).toInt := (by rw [tl]; omega); have mm := i_muln (x := (mI S 91 6)) (y := mI S 91 2) (by omega) (by omega) (by omega) (by omega); have un9 : (rTo ab tg (ab 128 y.toNatClampNeg).toInt).toNat = ((mI S 91 6)).toNatClampNeg := (by rw [← u0]; rfl); have k8 := congrArg Int32.toInt (t9 ((mI S 91 6)).toNatClampNeg); have mt := ms.2.2.1 ((mI S 91 6)).toNatClampNeg (by have := tn_cast (x := (mI S 91 6)) (by omega); omega); have he : ((mI S 91 6) * mI S 91 2 + mI S 92 ((mI S 91 6)).toNatClampNeg).toInt = rTo ab tg (ab 128 y.toNatClampNeg).toInt * (ab 87 3).toInt + (ab 92 (rTo ab tg (ab 128 y.toNatClampNeg).toInt).toNat).toInt := (by rw [i_add (by omega) (by omega), mm.2.2, un9, ← u0, i3, k8]); have qv := (Mq_to hpre3 (by rw [← u0]; omega) he).1; rw [← hpre1, ← Z_p6 (x := (mI S 91 6)) hpre0] at qv; exact Mv_Z qv)) (by omega) (fun S27 hL_S27 rp0_S27 rp1_S27 => zv_n ⟨zG_T hL_S27, ?_⟩)
              have hI_S27 := zL91_up hI361 hL_S27
              have rp0_S27 : xB S27 (mR (ma_put S 91 6 (.inl (mI S 91 6))) 70) := by
                have z := rp0_S27
                (try rw [show mI (ma_put S 91 6 (.inl (mI S 91 6))) 65 = f 65 from funext (fun k => zG_z hI361 rfl)] at z)
                (try rw [show mI (ma_put S 91 6 (.inl (mI S 91 6))) 64 1 = f 64 1 from zG_z hI361 rfl] at z)
                exact z
              have rp1_S27 : aS 75 S27 = aMo (aS 75 (ma_put S 91 6 (.inl (mI S 91 6)))) (y).toNatClampNeg (((mI S 91 6) * (mI S 91 2)) + (0 : Int32)) := by
                have z := rp1_S27
                (try rw [show mI (ma_put S 91 6 (.inl (mI S 91 6))) 65 = f 65 from funext (fun k => zG_z hI361 rfl)] at z)
                (try rw [show mI (ma_put S 91 6 (.inl (mI S 91 6))) 64 1 = f 64 1 from zG_z hI361 rfl] at z)
                exact z
              refine ⟨zG_n hI_S27 th_t, ?_⟩
              refine zd (fun h362 => ?_) (fun h362 => ?_)
              · skip
                have g363 := i_lt h362
                have li364 : (1 : Int32).toInt = 1 := rfl
                have q365 : (mI S27 91 6).toInt = (mI S 91 6).toInt := zG_zi (f := mI (ma_put S 91 6 (.inl (mI S 91 6)))) hL_S27 rfl
                have f366 := zG_s hI_S27 (-1) (92) (c := 91) (k := 6) (by decide)
                exact K ((1 : Int32)) _ hI_S27 (by decide) (show xB S27 (mR S27 70) from by first | (exact xB_x (xC_o (W := 75) rp0_S27).2)) (show ((1 : Int32) = 0 ∧ aZ S27 = ab ∧ (mI S27 91 6).toInt = tg ∧ rTo ab tg (ab 128 y.toNatClampNeg).toInt = -1) ∨ ((1 : Int32) = 1 ∧ rTo ab tg (ab 128 y.toNatClampNeg).toInt ≠ -1 ∧ aZ S27 = rM1 ab y.toNatClampNeg (rTo ab tg (ab 128 y.toNatClampNeg).toInt) ∧ (mI S27 91 6).toInt = rTo ab tg (ab 128 y.toNatClampNeg).toInt) from by first | (exfalso; omega) | (have ty := xB_th (W := 75) hpre0 hpre2; have f2 : mI S t 2 = ab 128 y.toNatClampNeg := ty.2.2.2.2.1.trans ((aZ_o (by decide) (by decide) (by decide)).symm.trans (congrFun (congrFun hpre1 128) _)); have i2 := congrArg Int32.toInt f2; have s3 : mI S 91 2 = ab 87 3 := (by rw [← hpre1]; rfl); have i3 := congrArg Int32.toInt s3; have t9 : ∀ k, mI S 92 k = ab 92 k := fun k => (aZ_9 (Or.inl rfl)).symm.trans (congrFun (congrFun hpre1 92) k); have ms := Mq_s hpre3; have ms1 := ms.1; have ms2 := ms.2.1; have ms4 := ms.2.2.2.1; have ms5 := ms.2.2.2.2.1; have tg6 := hpre4; have tgn : tg.toNat = (mI S 91 6).toNatClampNeg := (by rw [← tg6]; rfl); have k9 := congrArg Int32.toInt (t9 (mI S 91 6).toNatClampNeg); have tl := To_t (a := ab) (t := tg) (sz := (ab 128 y.toNatClampNeg).toInt) (by rw [tgn]; omega); have u0 : ((mI S 91 6)).toInt = rTo ab tg (ab 128 y.toNatClampNeg).toInt := (by rw [tl]; omega); have mm := i_muln (x := (mI S 91 6)) (y := mI S 91 2) (by omega) (by omega) (by omega) (by omega); have un9 : (rTo ab tg (ab 128 y.toNatClampNeg).toInt).toNat = ((mI S 91 6)).toNatClampNeg := (by rw [← u0]; rfl); have k8 := congrArg Int32.toInt (t9 ((mI S 91 6)).toNatClampNeg); have mt := ms.2.2.1 ((mI S 91 6)).toNatClampNeg (by have := tn_cast (x := (mI S 91 6)) (by omega); omega); have he : ((mI S 91 6) * mI S 91 2 + mI S 92 ((mI S 91 6)).toNatClampNeg).toInt = rTo ab tg (ab 128 y.toNatClampNeg).toInt * (ab 87 3).toInt + (ab 92 (rTo ab tg (ab 128 y.toNatClampNeg).toInt).toNat).toInt := (by rw [i_add (by omega) (by omega), mm.2.2, un9, ← u0, i3, k8]); have a0 : aZ (ma_put S 91 6 (.inl (mI S 91 6))) = ab := (Z_p6 hpre0).trans hpre1; have a1 := Mo_z rp1_S27 (show mI S27 91 = mI (ma_put S 91 6 (.inl (mI S 91 6))) 91 from funext (fun _ => zG_z hL_S27 rfl)) (show mI S27 92 = mI (ma_put S 91 6 (.inl (mI S 91 6))) 92 from funext (fun _ => zG_z hL_S27 rfl)) (show mI S27 93 = mI (ma_put S 91 6 (.inl (mI S 91 6))) 93 from funext (fun _ => zG_z hL_S27 rfl)); rw [a0] at a1; have u := xB_th (W := 75) rp0_S27 hpre2; have u2 := u.2.2.2.2.1; rw [← aZ_o (c := 128) (by decide) (by decide) (by decide), a1, Mo_r (by decide) (by decide)] at u2; have w9 : mI S27 92 ((mI S 91 6)).toNatClampNeg = ab 92 ((mI S 91 6)).toNatClampNeg := (congrFun (show mI S27 92 = mI (ma_put S 91 6 (.inl (mI S 91 6))) 92 from funext (fun _ => zG_z hL_S27 rfl)) _).trans (t9 _); refine Or.inr ⟨rfl, by rw [← u0]; omega, ?_, ?_⟩; (rw [(show aZ S27 = aZ S27 from rfl), a1, u2, w9, ← un9]; rw [← un9] at he; exact M1_e he); (rw [← u0]; first | rfl | omega)))
              · skip
                have g367 := i_nlt h362
                refine zd (fun h368 => ?_) (fun h368 => ?_)
                · skip
                  have g369 := i_le h368
                  have li370 : (1 : Int32).toInt = 1 := rfl
                  have q371 : (mI S27 91 6).toInt = (mI S 91 6).toInt := zG_zi (f := mI (ma_put S 91 6 (.inl (mI S 91 6)))) hL_S27 rfl
                  have f372 := zG_s hI_S27 (-1) (92) (c := 91) (k := 6) (by decide)
                  exact K ((1 : Int32)) _ hI_S27 (by decide) (show xB S27 (mR S27 70) from by first | (exact xB_x (xC_o (W := 75) rp0_S27).2)) (show ((1 : Int32) = 0 ∧ aZ S27 = ab ∧ (mI S27 91 6).toInt = tg ∧ rTo ab tg (ab 128 y.toNatClampNeg).toInt = -1) ∨ ((1 : Int32) = 1 ∧ rTo ab tg (ab 128 y.toNatClampNeg).toInt ≠ -1 ∧ aZ S27 = rM1 ab y.toNatClampNeg (rTo ab tg (ab 128 y.toNatClampNeg).toInt) ∧ (mI S27 91 6).toInt = rTo ab tg (ab 128 y.toNatClampNeg).toInt) from by first | (exfalso; omega) | (have ty := xB_th (W := 75) hpre0 hpre2; have f2 : mI S t 2 = ab 128 y.toNatClampNeg := ty.2.2.2.2.1.trans ((aZ_o (by decide) (by decide) (by decide)).symm.trans (congrFun (congrFun hpre1 128) _)); have i2 := congrArg Int32.toInt f2; have s3 : mI S 91 2 = ab 87 3 := (by rw [← hpre1]; rfl); have i3 := congrArg Int32.toInt s3; have t9 : ∀ k, mI S 92 k = ab 92 k := fun k => (aZ_9 (Or.inl rfl)).symm.trans (congrFun (congrFun hpre1 92) k); have ms := Mq_s hpre3; have ms1 := ms.1; have ms2 := ms.2.1; have ms4 := ms.2.2.2.1; have ms5 := ms.2.2.2.2.1; have tg6 := hpre4; have tgn : tg.toNat = (mI S 91 6).toNatClampNeg := (by rw [← tg6]; rfl); have k9 := congrArg Int32.toInt (t9 (mI S 91 6).toNatClampNeg); have tl := To_t (a := ab) (t := tg) (sz := (ab 128 y.toNatClampNeg).toInt) (by rw [tgn]; omega); have u0 : ((mI S 91 6)).toInt = rTo ab tg (ab 128 y.toNatClampNeg).toInt := (by rw [tl]; omega); have mm := i_muln (x := (mI S 91 6)) (y := mI S 91 2) (by omega) (by omega) (by omega) (by omega); have un9 : (rTo ab tg (ab 128 y.toNatClampNeg).toInt).toNat = ((mI S 91 6)).toNatClampNeg := (by rw [← u0]; rfl); have k8 := congrArg Int32.toInt (t9 ((mI S 91 6)).toNatClampNeg); have mt := ms.2.2.1 ((mI S 91 6)).toNatClampNeg (by have := tn_cast (x := (mI S 91 6)) (by omega); omega); have he : ((mI S 91 6) * mI S 91 2 + mI S 92 ((mI S 91 6)).toNatClampNeg).toInt = rTo ab tg (ab 128 y.toNatClampNeg).toInt * (ab 87 3).toInt + (ab 92 (rTo ab tg (ab 128 y.toNatClampNeg).toInt).toNat).toInt := (by rw [i_add (by omega) (by omega), mm.2.2, un9, ← u0, i3, k8]); have a0 : aZ (ma_put S 91 6 (.inl (mI S 91 6))) = ab := (Z_p6 hpre0).trans hpre1; have a1 := Mo_z rp1_S27 (show mI S27 91 = mI (ma_put S 91 6 (.inl (mI S 91 6))) 91 from funext (fun _ => zG_z hL_S27 rfl)) (show mI S27 92 = mI (ma_put S 91 6 (.inl (mI S 91 6))) 92 from funext (fun _ => zG_z hL_S27 rfl)) (show mI S27 93 = mI (ma_put S 91 6 (.inl (mI S 91 6))) 93 from funext (fun _ => zG_z hL_S27 rfl)); rw [a0] at a1; have u := xB_th (W := 75) rp0_S27 hpre2; have u2 := u.2.2.2.2.1; rw [← aZ_o (c := 128) (by decide) (by decide) (by decide), a1, Mo_r (by decide) (by decide)] at u2; have w9 : mI S27 92 ((mI S 91 6)).toNatClampNeg = ab 92 ((mI S 91 6)).toNatClampNeg := (congrFun (show mI S27 92 = mI (ma_put S 91 6 (.inl (mI S 91 6))) 92 from funext (fun _ => zG_z hL_S27 rfl)) _).trans (t9 _); refine Or.inr ⟨rfl, by rw [← u0]; omega, ?_, ?_⟩; (rw [(show aZ S27 = aZ S27 from rfl), a1, u2, w9, ← un9]; rw [← un9] at he; exact M1_e he); (rw [← u0]; first | rfl | omega)))
                · skip
                  have g373 := i_nle h368
                  refine ⟨i_ix (by omega) (by omega), ?_⟩
                  refine ⟨i_ix (by omega) (by omega), ?_⟩
                  have q375 : (mI S27 92 (mI S 91 6).toNatClampNeg).toInt = (mI S 92 (mI S 91 6).toNatClampNeg).toInt := zG_zi (f := mI (ma_put S 91 6 (.inl (mI S 91 6)))) hL_S27 rfl
                  first | have f376 := zG_a hI_S27 93 (0) (3000) (c := 92) (k := (mI S 91 6).toNatClampNeg) (by decide) (i_ix (n := 93) (by omega) (by omega)).2 | have b377 := i_bd (mI S27 92 (mI S 91 6).toNatClampNeg)
                  have f378 := zG_th hI_S27 th_t
                  first | have e379 : ((mI S27 92 (mI S 91 6).toNatClampNeg) + (mI S27 t 2)).toInt = (mI S27 92 (mI S 91 6).toNatClampNeg).toInt + (mI S27 t 2).toInt := i_add (by omega) (by omega) | have b380 := i_bd ((mI S27 92 (mI S 91 6).toNatClampNeg) + (mI S27 t 2))
                  have hI374 : zL91 f r C Z N (ma_put S27 92 (mI S 91 6).toNatClampNeg (.inl ((mI S27 92 (mI S 91 6).toNatClampNeg) + (mI S27 t 2)))) := zG_sa hI_S27 (0) (3000) rfl (by decide) (by decide) (by decide) trivial (by omega) (by omega)
                  have li381 : (1 : Int32).toInt = 1 := rfl
                  have q382 : (mI S27 91 6).toInt = (mI S 91 6).toInt := zG_zi (f := mI (ma_put S 91 6 (.inl (mI S 91 6)))) hL_S27 rfl
                  have f383 := zG_s hI_S27 (-1) (92) (c := 91) (k := 6) (by decide)
                  exact K ((1 : Int32)) _ hI374 (by decide) (show xB (ma_put S27 92 (mI S 91 6).toNatClampNeg (.inl ((mI S27 92 (mI S 91 6).toNatClampNeg) + (mI S27 t 2)))) (mR (ma_put S27 92 (mI S 91 6).toNatClampNeg (.inl ((mI S27 92 (mI S 91 6).toNatClampNeg) + (mI S27 t 2)))) 70) from by first | (exact xB_x (xC_n (c := 92) (k := (mI S 91 6).toNatClampNeg) (x := ((mI S27 92 (mI S 91 6).toNatClampNeg) + (mI S27 t 2))) (xC_o (W := 75) rp0_S27) ⟨by decide, Or.inl ⟨rfl, rfl⟩⟩).2)) (show ((1 : Int32) = 0 ∧ aZ (ma_put S27 92 (mI S 91 6).toNatClampNeg (.inl ((mI S27 92 (mI S 91 6).toNatClampNeg) + (mI S27 t 2)))) = ab ∧ (mI S27 91 6).toInt = tg ∧ rTo ab tg (ab 128 y.toNatClampNeg).toInt = -1) ∨ ((1 : Int32) = 1 ∧ rTo ab tg (ab 128 y.toNatClampNeg).toInt ≠ -1 ∧ aZ (ma_put S27 92 (mI S 91 6).toNatClampNeg (.inl ((mI S27 92 (mI S 91 6).toNatClampNeg) + (mI S27 t 2)))) = rM1 ab y.toNatClampNeg (rTo ab tg (ab 128 y.toNatClampNeg).toInt) ∧ (mI S27 91 6).toInt = rTo ab tg (ab 128 y.toNatClampNeg).toInt) from by first | (exfalso; omega) | (have ty := xB_th (W := 75) hpre0 hpre2; have f2 : mI S t 2 = ab 128 y.toNatClampNeg := ty.2.2.2.2.1.trans ((aZ_o (by decide) (by decide) (by decide)).symm.trans (congrFun (congrFun hpre1 128) _)); have i2 := congrArg Int32.toInt f2; have s3 : mI S 91 2 = ab 87 3 := (by rw [← hpre1]; rfl); have i3 := congrArg Int32.toInt s3; have t9 : ∀ k, mI S 92 k = ab 92 k := fun k => (aZ_9 (Or.inl rfl)).symm.trans (congrFun (congrFun hpre1 92) k); have ms := Mq_s hpre3; have ms1 := ms.1; have ms2 := ms.2.1; have ms4 := ms.2.2.2.1; have ms5 := ms.2.2.2.2.1; have tg6 := hpre4; have tgn : tg.toNat = (mI S 91 6).toNatClampNeg := (by rw [← tg6]; rfl); have k9 := congrArg Int32.toInt (t9 (mI S 91 6).toNatClampNeg); have tl := To_t (a := ab) (t := tg) (sz := (ab 128 y.toNatClampNeg).toInt) (by rw [tgn]; omega); have u0 : ((mI S 91 6)).toInt = rTo ab tg (ab 128 y.toNatClampNeg).toInt := (by rw [tl]; omega); have mm := i_muln (x := (mI S 91 6)) (y := mI S 91 2) (by omega) (by omega) (by omega) (by omega); have un9 : (rTo ab tg (ab 128 y.toNatClampNeg).toInt).toNat = ((mI S 91 6)).toNatClampNeg := (by rw [← u0]; rfl); have k8 := congrArg Int32.toInt (t9 ((mI S 91 6)).toNatClampNeg); have mt := ms.2.2.1 ((mI S 91 6)).toNatClampNeg (by have := tn_cast (x := (mI S 91 6)) (by omega); omega); have he : ((mI S 91 6) * mI S 91 2 + mI S 92 ((mI S 91 6)).toNatClampNeg).toInt = rTo ab tg (ab 128 y.toNatClampNeg).toInt * (ab 87 3).toInt + (ab 92 (rTo ab tg (ab 128 y.toNatClampNeg).toInt).toNat).toInt := (by rw [i_add (by omega) (by omega), mm.2.2, un9, ← u0, i3, k8]); have a0 : aZ (ma_put S 91 6 (.inl (mI S 91 6))) = ab := (Z_p6 hpre0).trans hpre1; have a1 := Mo_z rp1_S27 (show mI S27 91 = mI (ma_put S 91 6 (.inl (mI S 91 6))) 91 from funext (fun _ => zG_z hL_S27 rfl)) (show mI S27 92 = mI (ma_put S 91 6 (.inl (mI S 91 6))) 92 from funext (fun _ => zG_z hL_S27 rfl)) (show mI S27 93 = mI (ma_put S 91 6 (.inl (mI S 91 6))) 93 from funext (fun _ => zG_z hL_S27 rfl)); rw [a0] at a1; have u := xB_th (W := 75) rp0_S27 hpre2; have u2 := u.2.2.2.2.1; rw [← aZ_o (c := 128) (by decide) (by decide) (by decide), a1, Mo_r (by decide) (by decide)] at u2; have w9 : mI S27 92 ((mI S 91 6)).toNatClampNeg = ab 92 ((mI S 91 6)).toNatClampNeg := (congrFun (show mI S27 92 = mI (ma_put S 91 6 (.inl (mI S 91 6))) 92 from funext (fun _ => zG_z hL_S27 rfl)) _).trans (t9 _); refine Or.inr ⟨rfl, by rw [← u0]; omega, ?_, ?_⟩; (rw [((Z_p9 (c := 92) (n := (mI S 91 6).toNatClampNeg) (x := ((mI S27 92 (mI S 91 6).toNatClampNeg) + (mI S27 t 2))) (xC_o (W := 75) rp0_S27).2 (by decide)).trans (congrArg (fun q => ma_u q 92 (mI S 91 6).toNatClampNeg ((mI S27 92 (mI S 91 6).toNatClampNeg) + (mI S27 t 2))) (show aZ S27 = aZ S27 from rfl))), a1, u2, w9, ← un9]; rw [← un9] at he; exact M1_e he); (rw [← u0]; first | rfl | omega)))
            · skip
              have g384 := i_nle h355
              refine ⟨i_ix (by omega) (by omega), ?_⟩
              first | have f385 := i_muln (x := (mI S 91 6)) (y := (mI S 91 2)) (by omega) (by omega) (by omega) (by omega) | have b386 := i_bd ((mI S 91 6) * (mI S 91 2))
              first | have e387 : (((mI S 91 6) * (mI S 91 2)) + (mI S 92 (mI S 91 6).toNatClampNeg)).toInt = ((mI S 91 6) * (mI S 91 2)).toInt + (mI S 92 (mI S 91 6).toNatClampNeg).toInt := i_add (by omega) (by omega) | have b388 := i_bd (((mI S 91 6) * (mI S 91 2)) + (mI S 92 (mI S 91 6).toNatClampNeg))
              have hI389 : zL91 f r C Z N (ma_put S 91 6 (.inl (mI S 91 6))) := zG_sp hI (-1) (92) rfl (by decide) (by decide) (by decide) trivial (by omega) (by omega)
              refine sp_90_69_s (ab := (aS 75 (ma_put S 91 6 (.inl (mI S 91 6))))) (R := (mR (ma_put S 91 6 (.inl (mI S 91 6))) 70)) (y := (y)) t ((((mI S 91 6) * (mI S 91 2)) + (mI S 92 (mI S 91 6).toNatClampNeg))) (by omega) (by omega) (zL91_dn hI389) th_t (show xB (ma_put S 91 6 (.inl (mI S 91 6))) (mR (ma_put S 91 6 (.inl (mI S 91 6))) 70) from by first | (exact xB_x (xC_n (c := 91) (k := 6) (x := (mI S 91 6)) (xC_o (W := 75) hpre0) ⟨by decide, Or.inl ⟨rfl, rfl⟩⟩).2)) (show aS 75 (ma_put S 91 6 (.inl (mI S 91 6))) = (aS 75 (ma_put S 91 6 (.inl (mI S 91 6)))) from by first | (exact rfl)) (show zTa (mR (ma_put S 91 6 (.inl (mI S 91 6))) 70) (y) = some t from by first | (exact hpre2)) (show qMv (aS 75 (ma_put S 91 6 (.inl (mI S 91 6)))) (y).toNatClampNeg (((mI S 91 6) * (mI S 91 2)) + (mI S 92 (mI S 91 6).toNatClampNeg)) from by first | (have ty := xB_th (W := 75) hpre0 hpre2; have f2 : mI S t 2 = ab 128 y.toNatClampNeg := ty.2.2.2.2.1.trans ((aZ_o (by decide) (by decide) (by decide)).symm.trans (congrFun (congrFun hpre1 128) _)); have i2 := congrArg Int32.toInt f2; have s3 : mI S 91 2 = ab 87 3 := (by rw [← hpre1]; rfl); have i3 := congrArg Int32.toInt s3; have t9 : ∀ k, mI S 92 k = ab 92 k := fun k => (aZ_9 (Or.inl rfl)).symm.trans (congrFun (congrFun hpre1 92) k); have ms := Mq_s hpre3; have ms1 := ms.1; have ms2 := ms.2.1; have ms4 := ms.2.2.2.1; have ms5 := ms.2.2.2.2.1; have tg6 := hpre4; have tgn : tg.toNat = (mI S 91 6).toNatClampNeg := (by rw [← tg6]; rfl); have k9 := congrArg Int32.toInt (t9 (mI S 91 6).toNatClampNeg); have tl := To_t (a := ab) (t := tg) (sz := (ab 128 y.toNatClampNeg).toInt) (by rw [tgn]; omega); have u0 : ((mI S 91 6)).toInt = rTo ab tg (ab 128 y.toNatClampNeg).toInt := (by rw [tl]; omega); have mm := i_muln (x := (mI S 91 6)) (y := mI S 91 2) (by omega) (by omega) (by omega) (by omega); have un9 : (rTo ab tg (ab 128 y.toNatClampNeg).toInt).toNat = ((mI S 91 6)).toNatClampNeg := (by rw [← u0]; rfl); have k8 := congrArg Int32.toInt (t9 ((mI S 91 6)).toNatClampNeg); have mt := ms.2.2.1 ((mI S 91 6)).toNatClampNeg (by have := tn_cast (x := (mI S 91 6)) (by omega); omega); have he : ((mI S 91 6) * mI S 91 2 + mI S 92 ((mI S 91 6)).toNatClampNeg).toInt = rTo ab tg (ab 128 y.toNatClampNeg).toInt * (ab 87 3).toInt + (ab 92 (rTo ab tg (ab 128 y.toNatClampNeg).toInt).toNat).toInt := (by rw [i_add (by omega) (by omega), mm.2.2, un9, ← u0, i3, k8]); have qv := (Mq_to hpre3 (by rw [← u0]; omega) he).1; rw [← hpre1, ← Z_p6 (x := (mI S 91 6)) hpre0] at qv; exact Mv_Z qv) | (exfalso; omega)) (by omega) (fun S29 hL_S29 rp0_S29 rp1_S29 => zv_n ⟨zG_T hL_S29, ?_⟩)
              have hI_S29 := zL91_up hI389 hL_S29
              have rp0_S29 : xB S29 (mR (ma_put S 91 6 (.inl (mI S 91 6))) 70) := by
                have z := rp0_S29
                (try rw [show mI (ma_put S 91 6 (.inl (mI S 91 6))) 65 = f 65 from funext (fun k => zG_z hI389 rfl)] at z)
                (try rw [show mI (ma_put S 91 6 (.inl (mI S 91 6))) 64 1 = f 64 1 from zG_z hI389 rfl] at z)
                exact z
              have rp1_S29 : aS 75 S29 = aMo (aS 75 (ma_put S 91 6 (.inl (mI S 91 6)))) (y).toNatClampNeg (((mI S 91 6) * (mI S 91 2)) + (mI S 92 (mI S 91 6).toNatClampNeg)) := by
                have z := rp1_S29
                (try rw [show mI (ma_put S 91 6 (.inl (mI S 91 6))) 65 = f 65 from funext (fun k => zG_z hI389 rfl)] at z)
                (try rw [show mI (ma_put S 91 6 (.inl (mI S 91 6))) 64 1 = f 64 1 from zG_z hI389 rfl] at z)
                exact z
              refine ⟨zG_n hI_S29 th_t, ?_⟩
              refine zd (fun h390 => ?_) (fun h390 => ?_)
              · skip
                have g391 := i_lt h390
                have li392 : (1 : Int32).toInt = 1 := rfl
                have q393 : (mI S29 91 6).toInt = (mI S 91 6).toInt := zG_zi (f := mI (ma_put S 91 6 (.inl (mI S 91 6)))) hL_S29 rfl
                have f394 := zG_s hI_S29 (-1) (92) (c := 91) (k := 6) (by decide)
                exact K ((1 : Int32)) _ hI_S29 (by decide) (show xB S29 (mR S29 70) from by first | (exact xB_x (xC_o (W := 75) rp0_S29).2)) (show ((1 : Int32) = 0 ∧ aZ S29 = ab ∧ (mI S29 91 6).toInt = tg ∧ rTo ab tg (ab 128 y.toNatClampNeg).toInt = -1) ∨ ((1 : Int32) = 1 ∧ rTo ab tg (ab 128 y.toNatClampNeg).toInt ≠ -1 ∧ aZ S29 = rM1 ab y.toNatClampNeg (rTo ab tg (ab 128 y.toNatClampNeg).toInt) ∧ (mI S29 91 6).toInt = rTo ab tg (ab 128 y.toNatClampNeg).toInt) from by first | (exfalso; omega) | (have ty := xB_th (W := 75) hpre0 hpre2; have f2 : mI S t 2 = ab 128 y.toNatClampNeg := ty.2.2.2.2.1.trans ((aZ_o (by decide) (by decide) (by decide)).symm.trans (congrFun (congrFun hpre1 128) _)); have i2 := congrArg Int32.toInt f2; have s3 : mI S 91 2 = ab 87 3 := (by rw [← hpre1]; rfl); have i3 := congrArg Int32.toInt s3; have t9 : ∀ k, mI S 92 k = ab 92 k := fun k => (aZ_9 (Or.inl rfl)).symm.trans (congrFun (congrFun hpre1 92) k); have ms := Mq_s hpre3; have ms1 := ms.1; have ms2 := ms.2.1; have ms4 := ms.2.2.2.1; have ms5 := ms.2.2.2.2.1; have tg6 := hpre4; have tgn : tg.toNat = (mI S 91 6).toNatClampNeg := (by rw [← tg6]; rfl); have k9 := congrArg Int32.toInt (t9 (mI S 91 6).toNatClampNeg); have tl := To_t (a := ab) (t := tg) (sz := (ab 128 y.toNatClampNeg).toInt) (by rw [tgn]; omega); have u0 : ((mI S 91 6)).toInt = rTo ab tg (ab 128 y.toNatClampNeg).toInt := (by rw [tl]; omega); have mm := i_muln (x := (mI S 91 6)) (y := mI S 91 2) (by omega) (by omega) (by omega) (by omega); have un9 : (rTo ab tg (ab 128 y.toNatClampNeg).toInt).toNat = ((mI S 91 6)).toNatClampNeg := (by rw [← u0]; rfl); have k8 := congrArg Int32.toInt (t9 ((mI S 91 6)).toNatClampNeg); have mt := ms.2.2.1 ((mI S 91 6)).toNatClampNeg (by have := tn_cast (x := (mI S 91 6)) (by omega); omega); have he : ((mI S 91 6) * mI S 91 2 + mI S 92 ((mI S 91 6)).toNatClampNeg).toInt = rTo ab tg (ab 128 y.toNatClampNeg).toInt * (ab 87 3).toInt + (ab 92 (rTo ab tg (ab 128 y.toNatClampNeg).toInt).toNat).toInt := (by rw [i_add (by omega) (by omega), mm.2.2, un9, ← u0, i3, k8]); have a0 : aZ (ma_put S 91 6 (.inl (mI S 91 6))) = ab := (Z_p6 hpre0).trans hpre1; have a1 := Mo_z rp1_S29 (show mI S29 91 = mI (ma_put S 91 6 (.inl (mI S 91 6))) 91 from funext (fun _ => zG_z hL_S29 rfl)) (show mI S29 92 = mI (ma_put S 91 6 (.inl (mI S 91 6))) 92 from funext (fun _ => zG_z hL_S29 rfl)) (show mI S29 93 = mI (ma_put S 91 6 (.inl (mI S 91 6))) 93 from funext (fun _ => zG_z hL_S29 rfl)); rw [a0] at a1; have u := xB_th (W := 75) rp0_S29 hpre2; have u2 := u.2.2.2.2.1; rw [← aZ_o (c := 128) (by decide) (by decide) (by decide), a1, Mo_r (by decide) (by decide)] at u2; have w9 : mI S29 92 ((mI S 91 6)).toNatClampNeg = ab 92 ((mI S 91 6)).toNatClampNeg := (congrFun (show mI S29 92 = mI (ma_put S 91 6 (.inl (mI S 91 6))) 92 from funext (fun _ => zG_z hL_S29 rfl)) _).trans (t9 _); refine Or.inr ⟨rfl, by rw [← u0]; omega, ?_, ?_⟩; (rw [(show aZ S29 = aZ S29 from rfl), a1, u2, w9, ← un9]; rw [← un9] at he; exact M1_e he); (rw [← u0]; first | rfl | omega)))
              · skip
                have g395 := i_nlt h390
                refine zd (fun h396 => ?_) (fun h396 => ?_)
                · skip
                  have g397 := i_le h396
                  have li398 : (1 : Int32).toInt = 1 := rfl
                  have q399 : (mI S29 91 6).toInt = (mI S 91 6).toInt := zG_zi (f := mI (ma_put S 91 6 (.inl (mI S 91 6)))) hL_S29 rfl
                  have f400 := zG_s hI_S29 (-1) (92) (c := 91) (k := 6) (by decide)
                  exact K ((1 : Int32)) _ hI_S29 (by decide) (show xB S29 (mR S29 70) from by first | (exact xB_x (xC_o (W := 75) rp0_S29).2)) (show ((1 : Int32) = 0 ∧ aZ S29 = ab ∧ (mI S29 91 6).toInt = tg ∧ rTo ab tg (ab 128 y.toNatClampNeg).toInt = -1) ∨ ((1 : Int32) = 1 ∧ rTo ab tg (ab 128 y.toNatClampNeg).toInt ≠ -1 ∧ aZ S29 = rM1 ab y.toNatClampNeg (rTo ab tg (ab 128 y.toNatClampNeg).toInt) ∧ (mI S29 91 6).toInt = rTo ab tg (ab 128 y.toNatClampNeg).toInt) from by first | (exfalso; omega) | (have ty := xB_th (W := 75) hpre0 hpre2; have f2 : mI S t 2 = ab 128 y.toNatClampNeg := ty.2.2.2.2.1.trans ((aZ_o (by decide) (by decide) (by decide)).symm.trans (congrFun (congrFun hpre1 128) _)); have i2 := congrArg Int32.toInt f2; have s3 : mI S 91 2 = ab 87 3 := (by rw [← hpre1]; rfl); have i3 := congrArg Int32.toInt s3; have t9 : ∀ k, mI S 92 k = ab 92 k := fun k => (aZ_9 (Or.inl rfl)).symm.trans (congrFun (congrFun hpre1 92) k); have ms := Mq_s hpre3; have ms1 := ms.1; have ms2 := ms.2.1; have ms4 := ms.2.2.2.1; have ms5 := ms.2.2.2.2.1; have tg6 := hpre4; have tgn : tg.toNat = (mI S 91 6).toNatClampNeg := (by rw [← tg6]; rfl); have k9 := congrArg Int32.toInt (t9 (mI S 91 6).toNatClampNeg); have tl := To_t (a := ab) (t := tg) (sz := (ab 128 y.toNatClampNeg).toInt) (by rw [tgn]; omega); have u0 : ((mI S 91 6)).toInt = rTo ab tg (ab 128 y.toNatClampNeg).toInt := (by rw [tl]; omega); have mm := i_muln (x := (mI S 91 6)) (y := mI S 91 2) (by omega) (by omega) (by omega) (by omega); have un9 : (rTo ab tg (ab 128 y.toNatClampNeg).toInt).toNat = ((mI S 91 6)).toNatClampNeg := (by rw [← u0]; rfl); have k8 := congrArg Int32.toInt (t9 ((mI S 91 6)).toNatClampNeg); have mt := ms.2.2.1 ((mI S 91 6)).toNatClampNeg (by have := tn_cast (x := (mI S 91 6)) (by omega); omega); have he : ((mI S 91 6) * mI S 91 2 + mI S 92 ((mI S 91 6)).toNatClampNeg).toInt = rTo ab tg (ab 128 y.toNatClampNeg).toInt * (ab 87 3).toInt + (ab 92 (rTo ab tg (ab 128 y.toNatClampNeg).toInt).toNat).toInt := (by rw [i_add (by omega) (by omega), mm.2.2, un9, ← u0, i3, k8]); have a0 : aZ (ma_put S 91 6 (.inl (mI S 91 6))) = ab := (Z_p6 hpre0).trans hpre1; have a1 := Mo_z rp1_S29 (show mI S29 91 = mI (ma_put S 91 6 (.inl (mI S 91 6))) 91 from funext (fun _ => zG_z hL_S29 rfl)) (show mI S29 92 = mI (ma_put S 91 6 (.inl (mI S 91 6))) 92 from funext (fun _ => zG_z hL_S29 rfl)) (show mI S29 93 = mI (ma_put S 91 6 (.inl (mI S 91 6))) 93 from funext (fun _ => zG_z hL_S29 rfl)); rw [a0] at a1; have u := xB_th (W := 75) rp0_S29 hpre2; have u2 := u.2.2.2.2.1; rw [← aZ_o (c := 128) (by decide) (by decide) (by decide), a1, Mo_r (by decide) (by decide)] at u2; have w9 : mI S29 92 ((mI S 91 6)).toNatClampNeg = ab 92 ((mI S 91 6)).toNatClampNeg := (congrFun (show mI S29 92 = mI (ma_put S 91 6 (.inl (mI S 91 6))) 92 from funext (fun _ => zG_z hL_S29 rfl)) _).trans (t9 _); refine Or.inr ⟨rfl, by rw [← u0]; omega, ?_, ?_⟩; (rw [(show aZ S29 = aZ S29 from rfl), a1, u2, w9, ← un9]; rw [← un9] at he; exact M1_e he); (rw [← u0]; first | rfl | omega)))
                · skip
                  have g401 := i_nle h396
                  refine ⟨i_ix (by omega) (by omega), ?_⟩
                  refine ⟨i_ix (by omega) (by omega), ?_⟩
                  have q403 : (mI S29 92 (mI S 91 6).toNatClampNeg).toInt = (mI S 92 (mI S 91 6).toNatClampNeg).toInt := zG_zi (f := mI (ma_put S 91 6 (.inl (mI S 91 6)))) hL_S29 rfl
                  first | have f404 := zG_a hI_S29 93 (0) (3000) (c := 92) (k := (mI S 91 6).toNatClampNeg) (by decide) (i_ix (n := 93) (by omega) (by omega)).2 | have b405 := i_bd (mI S29 92 (mI S 91 6).toNatClampNeg)
                  have f406 := zG_th hI_S29 th_t
                  first | have e407 : ((mI S29 92 (mI S 91 6).toNatClampNeg) + (mI S29 t 2)).toInt = (mI S29 92 (mI S 91 6).toNatClampNeg).toInt + (mI S29 t 2).toInt := i_add (by omega) (by omega) | have b408 := i_bd ((mI S29 92 (mI S 91 6).toNatClampNeg) + (mI S29 t 2))
                  have hI402 : zL91 f r C Z N (ma_put S29 92 (mI S 91 6).toNatClampNeg (.inl ((mI S29 92 (mI S 91 6).toNatClampNeg) + (mI S29 t 2)))) := zG_sa hI_S29 (0) (3000) rfl (by decide) (by decide) (by decide) trivial (by omega) (by omega)
                  have li409 : (1 : Int32).toInt = 1 := rfl
                  have q410 : (mI S29 91 6).toInt = (mI S 91 6).toInt := zG_zi (f := mI (ma_put S 91 6 (.inl (mI S 91 6)))) hL_S29 rfl
                  have f411 := zG_s hI_S29 (-1) (92) (c := 91) (k := 6) (by decide)
                  exact K ((1 : Int32)) _ hI402 (by decide) (show xB (ma_put S29 92 (mI S 91 6).toNatClampNeg (.inl ((mI S29 92 (mI S 91 6).toNatClampNeg) + (mI S29 t 2)))) (mR (ma_put S29 92 (mI S 91 6).toNatClampNeg (.inl ((mI S29 92 (mI S 91 6).toNatClampNeg) + (mI S29 t 2)))) 70) from by first | (exact xB_x (xC_n (c := 92) (k := (mI S 91 6).toNatClampNeg) (x := ((mI S29 92 (mI S 91 6).toNatClampNeg) + (mI S29 t 2))) (xC_o (W := 75) rp0_S29) ⟨by decide, Or.inl ⟨rfl, rfl⟩⟩).2)) (show ((1 : Int32) = 0 ∧ aZ (ma_put S29 92 (mI S 91 6).toNatClampNeg (.inl ((mI S29 92 (mI S 91 6).toNatClampNeg) + (mI S29 t 2)))) = ab ∧ (mI S29 91 6).toInt = tg ∧ rTo ab tg (ab 128 y.toNatClampNeg).toInt = -1) ∨ ((1 : Int32) = 1 ∧ rTo ab tg (ab 128 y.toNatClampNeg).toInt ≠ -1 ∧ aZ (ma_put S29 92 (mI S 91 6).toNatClampNeg (.inl ((mI S29 92 (mI S 91 6).toNatClampNeg) + (mI S29 t 2)))) = rM1 ab y.toNatClampNeg (rTo ab tg (ab 128 y.toNatClampNeg).toInt) ∧ (mI S29 91 6).toInt = rTo ab tg (ab 128 y.toNatClampNeg).toInt) from by first | (have ty := xB_th (W := 75) hpre0 hpre2; have f2 : mI S t 2 = ab 128 y.toNatClampNeg := ty.2.2.2.2.1.trans ((aZ_o (by decide) (by decide) (by decide)).symm.trans (congrFun (congrFun hpre1 128) _)); have i2 := congrArg Int32.toInt f2; have s3 : mI S 91 2 = ab 87 3 := (by rw [← hpre1]; rfl); have i3 := congrArg Int32.toInt s3; have t9 : ∀ k, mI S 92 k = ab 92 k := fun k => (aZ_9 (Or.inl rfl)).symm.trans (congrFun (congrFun hpre1 92) k); have ms := Mq_s hpre3; have ms1 := ms.1; have ms2 := ms.2.1; have ms4 := ms.2.2.2.1; have ms5 := ms.2.2.2.2.1; have tg6 := hpre4; have tgn : tg.toNat = (mI S 91 6).toNatClampNeg := (by rw [← tg6]; rfl); have k9 := congrArg Int32.toInt (t9 (mI S 91 6).toNatClampNeg); have tl := To_t (a := ab) (t := tg) (sz := (ab 128 y.toNatClampNeg).toInt) (by rw [tgn]; omega); have u0 : ((mI S 91 6)).toInt = rTo ab tg (ab 128 y.toNatClampNeg).toInt := (by rw [tl]; omega); have mm := i_muln (x := (mI S 91 6)) (y := mI S 91 2) (by omega) (by omega) (by omega) (by omega); have un9 : (rTo ab tg (ab 128 y.toNatClampNeg).toInt).toNat = ((mI S 91 6)).toNatClampNeg := (by rw [← u0]; rfl); have k8 := congrArg Int32.toInt (t9 ((mI S 91 6)).toNatClampNeg); have mt := ms.2.2.1 ((mI S 91 6)).toNatClampNeg (by have := tn_cast (x := (mI S 91 6)) (by omega); omega); have he : ((mI S 91 6) * mI S 91 2 + mI S 92 ((mI S 91 6)).toNatClampNeg).toInt = rTo ab tg (ab 128 y.toNatClampNeg).toInt * (ab 87 3).toInt + (ab 92 (rTo ab tg (ab 128 y.toNatClampNeg).toInt).toNat).toInt := (by rw [i_add (by omega) (by omega), mm.2.2, un9, ← u0, i3, k8]); have a0 : aZ (ma_put S 91 6 (.inl (mI S 91 6))) = ab := (Z_p6 hpre0).trans hpre1; have a1 := Mo_z rp1_S29 (show mI S29 91 = mI (ma_put S 91 6 (.inl (mI S 91 6))) 91 from funext (fun _ => zG_z hL_S29 rfl)) (show mI S29 92 = mI (ma_put S 91 6 (.inl (mI S 91 6))) 92 from funext (fun _ => zG_z hL_S29 rfl)) (show mI S29 93 = mI (ma_put S 91 6 (.inl (mI S 91 6))) 93 from funext (fun _ => zG_z hL_S29 rfl)); rw [a0] at a1; have u := xB_th (W := 75) rp0_S29 hpre2; have u2 := u.2.2.2.2.1; rw [← aZ_o (c := 128) (by decide) (by decide) (by decide), a1, Mo_r (by decide) (by decide)] at u2; have w9 : mI S29 92 ((mI S 91 6)).toNatClampNeg = ab 92 ((mI S 91 6)).toNatClampNeg := (congrFun (show mI S29 92 = mI (ma_put S 91 6 (.inl (mI S 91 6))) 92 from funext (fun _ => zG_z hL_S29 rfl)) _).trans (t9 _); refine Or.inr ⟨rfl, by rw [← u0]; omega, ?_, ?_⟩; (rw [((Z_p9 (c := 92) (n := (mI S 91 6).toNatClampNeg) (x := ((mI S29 92 (mI S 91 6).toNatClampNeg) + (mI S29 t 2))) (xC_o (W := 75) rp0_S29).2 (by decide)).trans (congrArg (fun q => ma_u q 92 (mI S 91 6).toNatClampNeg ((mI S29 92 (mI S 91 6).toNatClampNeg) + (mI S29 t 2))) (show aZ S29 = aZ S29 from rfl))), a1, u2, w9, ← un9]; rw [← un9] at he; exact M1_e he); (rw [← u0]; first | omega | rfl)) | (exfalso; omega))

