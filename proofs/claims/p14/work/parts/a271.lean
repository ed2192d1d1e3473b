/-! from 95.u25 -/
/-! AGES, the class (written by wip/tools/gen15y.py) -/
theorem g_11_82_sy_0 {X : Nat × (Nat → Int32)} {d w : Nat} {S : ma_S} {Q : Option ma_V ⊕ Nat → ma_S → Prop}  (hd : 4 ≤ d) (hw : 159 ≤ w) (hS : zT S) (h : ma_wp X (d - 1) (w - 23) 12 0 [(0, .inr (.inr (some 82)))] [] S (zi (fun v2 S1 => zT S1 ∧ (if ((mI S 82 6) + v2) ≤ (mI S1 82 3) then (ma_wp X (d - 1) (w - 23) 12 0 [(0, .inr (.inr (some 82)))] [] S1 (zi (fun v4 S3 => zT S3 ∧ (if ((mI S1 82 6) + v4) ≤ (mI S3 82 3) then (ma_wp X (d - 1) (w - 21) 117 0 [(0, .inr (.inr (some 75))), (1, .inl (mI S3 82 3))] [] S3 (zv (fun S5 => zT S5 ∧ (ma_wp X (d - 1) (w - 22) 118 0 [(0, .inr (.inr (some 75)))] [] S5 (zv (fun S7 => zT S7 ∧ (ma_wp X (d - 1) (w - 22) 13 0 [(0, .inr (.inr (some 82)))] [] S7 (zv (fun S9 => zT S9 ∧ (ma_wp X (d - 1) (w - 24) 120 0 [(0, .inr (.inr (some 75))), (1, .inl (512 : Int32))] [] S9 (zi (fun v12 S11 => zT S11 ∧ (ma_wp X (d - 1) (w - 23) 83 0 [(0, .inr (.inr (some 69))), (1, .inr (.inr (some 75)))] [] S11 (zv (fun S13 => zT S13 ∧ (ma_wp X (d - 1) (w - 24) 86 0 [(0, .inr (.inr (some 69))), (1, .inr (.inr (some 75)))] [] S13 (zi (fun v16 S15 => zT S15 ∧ (ma_wp X (d - 1) (w - 22) 15 0 [(0, .inr (.inr (some 82)))] [] S15 (zv (fun S17 => zT S17 ∧ (ma_wp X (d - 1) (w - 23) 6 0 [(0, .inr (.inr (some 82)))] [] S17 (zv (fun S19 => zT S19 ∧ (Q (.inl (some (.inl ((0 : Int32) + v16)))) S19)) (fun x S9 => Q (.inr x) S9)))) (fun x S9 => Q (.inr x) S9)))) (fun x S9 => Q (.inr x) S9)))) (fun x S9 => Q (.inr x) S9)))) (fun x S9 => Q (.inr x) S9)))) (fun x S9 => Q (.inr x) S9)))) (fun x S9 => Q (.inr x) S9)))) (fun x S9 => Q (.inr x) S9))) else (Q (.inl (some (.inl (0 : Int32)))) S3))) (fun x S9 => Q (.inr x) S9))) else (ma_wp X (d - 1) (w - 21) 5 0 [(0, .inr (.inr (some 82)))] [] S1 (zi (fun v22 S21 => zT S21 ∧ (ma_wp X (d - 1) (w - 23) 12 0 [(0, .inr (.inr (some 82)))] [] S21 (zi (fun v24 S23 => zT S23 ∧ (if ((mI S21 82 6) + v24) ≤ (mI S23 82 3) then (ma_wp X (d - 1) (w - 21) 117 0 [(0, .inr (.inr (some 75))), (1, .inl (mI S23 82 3))] [] S23 (zv (fun S25 => zT S25 ∧ (ma_wp X (d - 1) (w - 22) 118 0 [(0, .inr (.inr (some 75)))] [] S25 (zv (fun S27 => zT S27 ∧ (ma_wp X (d - 1) (w - 22) 13 0 [(0, .inr (.inr (some 82)))] [] S27 (zv (fun S29 => zT S29 ∧ (ma_wp X (d - 1) (w - 24) 120 0 [(0, .inr (.inr (some 75))), (1, .inl (512 : Int32))] [] S29 (zi (fun v32 S31 => zT S31 ∧ (ma_wp X (d - 1) (w - 23) 83 0 [(0, .inr (.inr (some 69))), (1, .inr (.inr (some 75)))] [] S31 (zv (fun S33 => zT S33 ∧ (ma_wp X (d - 1) (w - 24) 86 0 [(0, .inr (.inr (some 69))), (1, .inr (.inr (some 75)))] [] S33 (zi (fun v36 S35 => zT S35 ∧ (ma_wp X (d - 1) (w - 22) 15 0 [(0, .inr (.inr (some 82)))] [] S35 (zv (fun S37 => zT S37 ∧ (ma_wp X (d - 1) (w - 23) 6 0 [(0, .inr (.inr (some 82)))] [] S37 (zv (fun S39 => zT S39 ∧ (Q (.inl (some (.inl (v22 + v36)))) S39)) (fun x S9 => Q (.inr x) S9)))) (fun x S9 => Q (.inr x) S9)))) (fun x S9 => Q (.inr x) S9)))) (fun x S9 => Q (.inr x) S9)))) (fun x S9 => Q (.inr x) S9)))) (fun x S9 => Q (.inr x) S9)))) (fun x S9 => Q (.inr x) S9)))) (fun x S9 => Q (.inr x) S9))) else (Q (.inl (some (.inl v22))) S23))) (fun x S9 => Q (.inr x) S9)))) (fun x S9 => Q (.inr x) S9))))) (fun x S9 => Q (.inr x) S9))) : ma_wp X d w 11 0 [(0, .inr (.inr (some 82)))] [] S Q := by
  refine zw_push hm_11 dX0_cleanYoung_0 (v := .inl (0 : Int32)) rfl ?_
  refine zw_sto hm_11 dX0_cleanYoung_1 [(1, .inl (0 : Int32)), (0, .inr (.inr (some 82)))] rfl rfl rfl ?_
  refine zw_push hm_11 dX0_cleanYoung_2 (v := .inr (.inr (some 82))) rfl ?_
  refine zw_gf hm_11 dX0_cleanYoung_3 (v := .inl (mI S 82 6)) (zT_is hS s_82) (zT_t hS s_82) rfl f_1_28_1 rfl ?_
  refine zw_push hm_11 dX0_cleanYoung_6 (v := .inr (.inr (some 82))) rfl ?_
  refine zw_cv hm_11 dX0_cleanYoung_7 v_1_100_1 hm_12 [] [.inl (mI S 82 6)] rfl (zT_rt hS s_82 rfl) ⟨by omega, by omega⟩ rfl (zw_mono h (zi_go ?_ ?_))
  · intro v2 S1 hv
    obtain ⟨hS1, h⟩ := hv
    refine zw_stk hm_11 dX0_cleanYoung_10 (st₉ := [.inl ((mI S 82 6) + v2)]) rfl rfl ?_
    refine zw_push hm_11 dX0_cleanYoung_11 (v := .inr (.inr (some 82))) rfl ?_
    refine zw_gf hm_11 dX0_cleanYoung_12 (v := .inl (mI S1 82 3)) (zT_is hS1 s_82) (zT_t hS1 s_82) rfl f_1_19_1 rfl ?_
    refine zw_if2 hm_11 dX0_cleanYoung_15 (t := 23) rfl zc2_le ?_ ?_
    · intro hc
      rw [if_pos hc] at h
      refine zw_push hm_11 dX0_cleanYoung_23 (v := .inr (.inr (some 82))) rfl ?_
      refine zw_gf hm_11 dX0_cleanYoung_24 (v := .inl (mI S1 82 6)) (zT_is hS1 s_82) (zT_t hS1 s_82) rfl f_1_28_1 rfl ?_
      refine zw_push hm_11 dX0_cleanYoung_27 (v := .inr (.inr (some 82))) rfl ?_
      refine zw_cv hm_11 dX0_cleanYoung_28 v_1_100_1 hm_12 [] [.inl (mI S1 82 6)] rfl (zT_rt hS1 s_82 rfl) ⟨by omega, by omega⟩ rfl (zw_mono h (zi_go ?_ ?_))
      · intro v4 S3 hv
        obtain ⟨hS3, h⟩ := hv
        refine zw_stk hm_11 dX0_cleanYoung_31 (st₉ := [.inl ((mI S1 82 6) + v4)]) rfl rfl ?_
        refine zw_push hm_11 dX0_cleanYoung_32 (v := .inr (.inr (some 82))) rfl ?_
        refine zw_gf hm_11 dX0_cleanYoung_33 (v := .inl (mI S3 82 3)) (zT_is hS3 s_82) (zT_t hS3 s_82) rfl f_1_19_1 rfl ?_
        refine zw_if2 hm_11 dX0_cleanYoung_36 (t := 41) rfl zc2_le ?_ ?_
        · intro hc
          rw [if_pos hc] at h
          refine zw_push hm_11 dX0_cleanYoung_41 (v := .inr (.inr (some 82))) rfl ?_
          refine zw_gf hm_11 dX0_cleanYoung_42 (v := .inr (.inr (some 75))) (zT_is hS3 s_82) (zT_t hS3 s_82) rfl f_1_70_1 (zT_f hS3 r_82_1) ?_
          refine zw_push hm_11 dX0_cleanYoung_45 (v := .inr (.inr (some 82))) rfl ?_
          refine zw_gf hm_11 dX0_cleanYoung_46 (v := .inl (mI S3 82 3)) (zT_is hS3 s_82) (zT_t hS3 s_82) rfl f_1_19_1 rfl ?_
          refine zw_cv hm_11 dX0_cleanYoung_49 v_1_103_10 hm_117 [.inl (mI S3 82 3)] [] rfl (zT_rt hS3 s_75 rfl) ⟨by omega, by omega⟩ rfl (zw_mono h (zv_go ?_ ?_))
          · intro S5 hv
            obtain ⟨hS5, h⟩ := hv
            refine zw_push hm_11 dX0_cleanYoung_52 (v := .inr (.inr (some 82))) rfl ?_
            refine zw_gf hm_11 dX0_cleanYoung_53 (v := .inr (.inr (some 75))) (zT_is hS5 s_82) (zT_t hS5 s_82) rfl f_1_70_1 (zT_f hS5 r_82_1) ?_
            refine zw_cv hm_11 dX0_cleanYoung_56 v_1_107_10 hm_118 [] [] rfl (zT_rt hS5 s_75 rfl) ⟨by omega, by omega⟩ rfl (zw_mono h (zv_go ?_ ?_))
            · intro S7 hv
              obtain ⟨hS7, h⟩ := hv
              refine zw_push hm_11 dX0_cleanYoung_59 (v := .inr (.inr (some 82))) rfl ?_
              refine zw_cv hm_11 dX0_cleanYoung_60 v_1_110_1 hm_13 [] [] rfl (zT_rt hS7 s_82 rfl) ⟨by omega, by omega⟩ rfl (zw_mono h (zv_go ?_ ?_))
              · intro S9 hv
                obtain ⟨hS9, h⟩ := hv
                refine zw_push hm_11 dX0_cleanYoung_63 (v := .inr (.inr (some 82))) rfl ?_
                refine zw_gf hm_11 dX0_cleanYoung_64 (v := .inr (.inr (some 75))) (zT_is hS9 s_82) (zT_t hS9 s_82) rfl f_1_70_1 (zT_f hS9 r_82_1) ?_
                refine zw_push hm_11 dX0_cleanYoung_67 (v := .inl (512 : Int32)) rfl ?_
                refine zw_cv hm_11 dX0_cleanYoung_70 v_1_113_10 hm_120 [.inl (512 : Int32)] [] rfl (zT_rt hS9 s_75 rfl) ⟨by omega, by omega⟩ rfl (zw_mono h (zi_go ?_ ?_))
                · intro v12 S11 hv
                  obtain ⟨hS11, h⟩ := hv
                  refine zw_stk hm_11 dX0_cleanYoung_73 (st₉ := []) rfl rfl ?_
                  refine zw_push hm_11 dX0_cleanYoung_74 (v := .inr (.inr (some 82))) rfl ?_
                  refine zw_gf hm_11 dX0_cleanYoung_75 (v := .inr (.inr (some 69))) (zT_is hS11 s_82) (zT_t hS11 s_82) rfl f_1_80_1 (zT_f hS11 r_82_0) ?_
                  refine zw_push hm_11 dX0_cleanYoung_78 (v := .inr (.inr (some 82))) rfl ?_
                  refine zw_gf hm_11 dX0_cleanYoung_79 (v := .inr (.inr (some 75))) (zT_is hS11 s_82) (zT_t hS11 s_82) rfl f_1_70_1 (zT_f hS11 r_82_1) ?_
                  refine zw_cv hm_11 dX0_cleanYoung_82 v_1_84_7 hm_83 [.inr (.inr (some 75))] [] rfl (zT_rt hS11 s_69 rfl) ⟨by omega, by omega⟩ rfl (zw_mono h (zv_go ?_ ?_))
                  · intro S13 hv
                    obtain ⟨hS13, h⟩ := hv
                    refine zw_push hm_11 dX0_cleanYoung_85 (v := .inl (0 : Int32)) rfl ?_
                    refine zw_push hm_11 dX0_cleanYoung_86 (v := .inr (.inr (some 82))) rfl ?_
                    refine zw_gf hm_11 dX0_cleanYoung_87 (v := .inr (.inr (some 69))) (zT_is hS13 s_82) (zT_t hS13 s_82) rfl f_1_80_1 (zT_f hS13 r_82_0) ?_
                    refine zw_push hm_11 dX0_cleanYoung_90 (v := .inr (.inr (some 82))) rfl ?_
                    refine zw_gf hm_11 dX0_cleanYoung_91 (v := .inr (.inr (some 75))) (zT_is hS13 s_82) (zT_t hS13 s_82) rfl f_1_70_1 (zT_f hS13 r_82_1) ?_
                    refine zw_cv hm_11 dX0_cleanYoung_94 v_1_90_7 hm_86 [.inr (.inr (some 75))] [.inl (0 : Int32)] rfl (zT_rt hS13 s_69 rfl) ⟨by omega, by omega⟩ rfl (zw_mono h (zi_go ?_ ?_))
                    · intro v16 S15 hv
                      obtain ⟨hS15, h⟩ := hv
                      refine zw_stk hm_11 dX0_cleanYoung_97 (st₉ := [.inl ((0 : Int32) + v16)]) rfl rfl ?_
                      refine zw_sto hm_11 dX0_cleanYoung_98 [(1, .inl ((0 : Int32) + v16)), (0, .inr (.inr (some 82)))] rfl rfl rfl ?_
                      refine zw_push hm_11 dX0_cleanYoung_99 (v := .inr (.inr (some 82))) rfl ?_
                      refine zw_cv hm_11 dX0_cleanYoung_100 v_1_116_1 hm_15 [] [] rfl (zT_rt hS15 s_82 rfl) ⟨by omega, by omega⟩ rfl (zw_mono h (zv_go ?_ ?_))
                      · intro S17 hv
                        obtain ⟨hS17, h⟩ := hv
                        refine zw_push hm_11 dX0_cleanYoung_103 (v := .inr (.inr (some 82))) rfl ?_
                        refine zw_cv hm_11 dX0_cleanYoung_104 v_1_97_1 hm_6 [] [] rfl (zT_rt hS17 s_82 rfl) ⟨by omega, by omega⟩ rfl (zw_mono h (zv_go ?_ ?_))
                        · intro S19 hv
                          obtain ⟨hS19, h⟩ := hv
                          refine zw_push hm_11 dX0_cleanYoung_107 (v := .inl ((0 : Int32) + v16)) rfl ?_
                          exact zw_iret hm_11 dX0_cleanYoung_108 h
                        · intro x S9 hx
                          exact ⟨by decide, hx⟩
                      · intro x S9 hx
                        exact ⟨by decide, hx⟩
                    · intro x S9 hx
                      exact ⟨by decide, hx⟩
                  · intro x S9 hx
                    exact ⟨by decide, hx⟩
                · intro x S9 hx
                  exact ⟨by decide, hx⟩
              · intro x S9 hx
                exact ⟨by decide, hx⟩
            · intro x S9 hx
              exact ⟨by decide, hx⟩
          · intro x S9 hx
            exact ⟨by decide, hx⟩
        · intro hc
          rw [if_neg hc] at h
          refine zw_push hm_11 dX0_cleanYoung_39 (v := .inl (0 : Int32)) rfl ?_
          exact zw_iret hm_11 dX0_cleanYoung_40 h
      · intro x S9 hx
        exact ⟨by decide, hx⟩
    · intro hc
      rw [if_neg hc] at h
      refine zw_push hm_11 dX0_cleanYoung_18 (v := .inr (.inr (some 82))) rfl ?_
      refine zw_cv hm_11 dX0_cleanYoung_19 v_1_55_1 hm_5 [] [] rfl (zT_rt hS1 s_82 rfl) ⟨by omega, by omega⟩ rfl (zw_mono h (zi_go ?_ ?_))
      · intro v22 S21 hv
        obtain ⟨hS21, h⟩ := hv
        refine zw_sto hm_11 dX0_cleanYoung_22 [(1, .inl v22), (0, .inr (.inr (some 82)))] rfl rfl rfl ?_
        refine zw_push hm_11 dX0_cleanYoung_23 (v := .inr (.inr (some 82))) rfl ?_
        refine zw_gf hm_11 dX0_cleanYoung_24 (v := .inl (mI S21 82 6)) (zT_is hS21 s_82) (zT_t hS21 s_82) rfl f_1_28_1 rfl ?_
        refine zw_push hm_11 dX0_cleanYoung_27 (v := .inr (.inr (some 82))) rfl ?_
        refine zw_cv hm_11 dX0_cleanYoung_28 v_1_100_1 hm_12 [] [.inl (mI S21 82 6)] rfl (zT_rt hS21 s_82 rfl) ⟨by omega, by omega⟩ rfl (zw_mono h (zi_go ?_ ?_))
        · intro v24 S23 hv
          obtain ⟨hS23, h⟩ := hv
          refine zw_stk hm_11 dX0_cleanYoung_31 (st₉ := [.inl ((mI S21 82 6) + v24)]) rfl rfl ?_
          refine zw_push hm_11 dX0_cleanYoung_32 (v := .inr (.inr (some 82))) rfl ?_
          refine zw_gf hm_11 dX0_cleanYoung_33 (v := .inl (mI S23 82 3)) (zT_is hS23 s_82) (zT_t hS23 s_82) rfl f_1_19_1 rfl ?_
          refine zw_if2 hm_11 dX0_cleanYoung_36 (t := 41) rfl zc2_le ?_ ?_
          · intro hc
            rw [if_pos hc] at h
            refine zw_push hm_11 dX0_cleanYoung_41 (v := .inr (.inr (some 82))) rfl ?_
            refine zw_gf hm_11 dX0_cleanYoung_42 (v := .inr (.inr (some 75))) (zT_is hS23 s_82) (zT_t hS23 s_82) rfl f_1_70_1 (zT_f hS23 r_82_1) ?_
            refine zw_push hm_11 dX0_cleanYoung_45 (v := .inr (.inr (some 82))) rfl ?_
            refine zw_gf hm_11 dX0_cleanYoung_46 (v := .inl (mI S23 82 3)) (zT_is hS23 s_82) (zT_t hS23 s_82) rfl f_1_19_1 rfl ?_
            refine zw_cv hm_11 dX0_cleanYoung_49 v_1_103_10 hm_117 [.inl (mI S23 82 3)] [] rfl (zT_rt hS23 s_75 rfl) ⟨by omega, by omega⟩ rfl (zw_mono h (zv_go ?_ ?_))
            · intro S25 hv
              obtain ⟨hS25, h⟩ := hv
              refine zw_push hm_11 dX0_cleanYoung_52 (v := .inr (.inr (some 82))) rfl ?_
              refine zw_gf hm_11 dX0_cleanYoung_53 (v := .inr (.inr (some 75))) (zT_is hS25 s_82) (zT_t hS25 s_82) rfl f_1_70_1 (zT_f hS25 r_82_1) ?_
              refine zw_cv hm_11 dX0_cleanYoung_56 v_1_107_10 hm_118 [] [] rfl (zT_rt hS25 s_75 rfl) ⟨by omega, by omega⟩ rfl (zw_mono h (zv_go ?_ ?_))
              · intro S27 hv
                obtain ⟨hS27, h⟩ := hv
                refine zw_push hm_11 dX0_cleanYoung_59 (v := .inr (.inr (some 82))) rfl ?_
                refine zw_cv hm_11 dX0_cleanYoung_60 v_1_110_1 hm_13 [] [] rfl (zT_rt hS27 s_82 rfl) ⟨by omega, by omega⟩ rfl (zw_mono h (zv_go ?_ ?_))
                · intro S29 hv
                  obtain ⟨hS29, h⟩ := hv
                  refine zw_push hm_11 dX0_cleanYoung_63 (v := .inr (.inr (some 82))) rfl ?_
                  refine zw_gf hm_11 dX0_cleanYoung_64 (v := .inr (.inr (some 75))) (zT_is hS29 s_82) (zT_t hS29 s_82) rfl f_1_70_1 (zT_f hS29 r_82_1) ?_
                  refine zw_push hm_11 dX0_cleanYoung_67 (v := .inl (512 : Int32)) rfl ?_
                  refine zw_cv hm_11 dX0_cleanYoung_70 v_1_113_10 hm_120 [.inl (512 : Int32)] [] rfl (zT_rt hS29 s_75 rfl) ⟨by omega, by omega⟩ rfl (zw_mono h (zi_go ?_ ?_))
                  · intro v32 S31 hv
                    obtain ⟨hS31, h⟩ := hv
                    refine zw_stk hm_11 dX0_cleanYoung_73 (st₉ := []) rfl rfl ?_
                    refine zw_push hm_11 dX0_cleanYoung_74 (v := .inr (.inr (some 82))) rfl ?_
                    refine zw_gf hm_11 dX0_cleanYoung_75 (v := .inr (.inr (some 69))) (zT_is hS31 s_82) (zT_t hS31 s_82) rfl f_1_80_1 (zT_f hS31 r_82_0) ?_
                    refine zw_push hm_11 dX0_cleanYoung_78 (v := .inr (.inr (some 82))) rfl ?_
                    refine zw_gf hm_11 dX0_cleanYoung_79 (v := .inr (.inr (some 75))) (zT_is hS31 s_82) (zT_t hS31 s_82) rfl f_1_70_1 (zT_f hS31 r_82_1) ?_
                    refine zw_cv hm_11 dX0_cleanYoung_82 v_1_84_7 hm_83 [.inr (.inr (some 75))] [] rfl (zT_rt hS31 s_69 rfl) ⟨by omega, by omega⟩ rfl (zw_mono h (zv_go ?_ ?_))
                    · intro S33 hv
                      obtain ⟨hS33, h⟩ := hv
                      refine zw_push hm_11 dX0_cleanYoung_85 (v := .inl v22) rfl ?_
                      refine zw_push hm_11 dX0_cleanYoung_86 (v := .inr (.inr (some 82))) rfl ?_
                      refine zw_gf hm_11 dX0_cleanYoung_87 (v := .inr (.inr (some 69))) (zT_is hS33 s_82) (zT_t hS33 s_82) rfl f_1_80_1 (zT_f hS33 r_82_0) ?_
                      refine zw_push hm_11 dX0_cleanYoung_90 (v := .inr (.inr (some 82))) rfl ?_
                      refine zw_gf hm_11 dX0_cleanYoung_91 (v := .inr (.inr (some 75))) (zT_is hS33 s_82) (zT_t hS33 s_82) rfl f_1_70_1 (zT_f hS33 r_82_1) ?_
                      refine zw_cv hm_11 dX0_cleanYoung_94 v_1_90_7 hm_86 [.inr (.inr (some 75))] [.inl v22] rfl (zT_rt hS33 s_69 rfl) ⟨by omega, by omega⟩ rfl (zw_mono h (zi_go ?_ ?_))
                      · intro v36 S35 hv
                        obtain ⟨hS35, h⟩ := hv
                        refine zw_stk hm_11 dX0_cleanYoung_97 (st₉ := [.inl (v22 + v36)]) rfl rfl ?_
                        refine zw_sto hm_11 dX0_cleanYoung_98 [(1, .inl (v22 + v36)), (0, .inr (.inr (some 82)))] rfl rfl rfl ?_
                        refine zw_push hm_11 dX0_cleanYoung_99 (v := .inr (.inr (some 82))) rfl ?_
                        refine zw_cv hm_11 dX0_cleanYoung_100 v_1_116_1 hm_15 [] [] rfl (zT_rt hS35 s_82 rfl) ⟨by omega, by omega⟩ rfl (zw_mono h (zv_go ?_ ?_))
                        · intro S37 hv
                          obtain ⟨hS37, h⟩ := hv
                          refine zw_push hm_11 dX0_cleanYoung_103 (v := .inr (.inr (some 82))) rfl ?_
                          refine zw_cv hm_11 dX0_cleanYoung_104 v_1_97_1 hm_6 [] [] rfl (zT_rt hS37 s_82 rfl) ⟨by omega, by omega⟩ rfl (zw_mono h (zv_go ?_ ?_))
                          · intro S39 hv
                            obtain ⟨hS39, h⟩ := hv
                            refine zw_push hm_11 dX0_cleanYoung_107 (v := .inl (v22 + v36)) rfl ?_
                            exact zw_iret hm_11 dX0_cleanYoung_108 h
                          · intro x S9 hx
                            exact ⟨by decide, hx⟩
                        · intro x S9 hx
                          exact ⟨by decide, hx⟩
                      · intro x S9 hx
                        exact ⟨by decide, hx⟩
                    · intro x S9 hx
                      exact ⟨by decide, hx⟩
                  · intro x S9 hx
                    exact ⟨by decide, hx⟩
                · intro x S9 hx
                  exact ⟨by decide, hx⟩
              · intro x S9 hx
                exact ⟨by decide, hx⟩
            · intro x S9 hx
              exact ⟨by decide, hx⟩
          · intro hc
            rw [if_neg hc] at h
            refine zw_push hm_11 dX0_cleanYoung_39 (v := .inl v22) rfl ?_
            exact zw_iret hm_11 dX0_cleanYoung_40 h
        · intro x S9 hx
          exact ⟨by decide, hx⟩
      · intro x S9 hx
        exact ⟨by decide, hx⟩
  · intro x S9 hx
    exact ⟨by decide, hx⟩
theorem sp_11_82_sy {X : Nat × (Nat → Int32)} {d w : Nat} {f : Nat → Nat → Int32} {r : Nat → Nat → Option Nat} {C Z N : Nat} {Q : Option ma_V ⊕ Nat → ma_S → Prop} {ab : Nat→Nat→Int32} {S : ma_S}  (hd : 4 ≤ d) (hw : 159 ≤ w) (hI : zJ82 f r C Z N S) (hpre0 : xB S (mR S 70)) (hpre1 : aG S = ab) (hpre2 : qAv ab) (K : ∀ v S₉, zJ82 f r C Z N S₉ → (True) → (xB S₉ (mR S₉ 70)) → (aG S₉ = gMi ab ∧ v = gVi ab) → Q (.inl (some (.inl v))) S₉) : ma_wp X d w 11 0 [(0, .inr (.inr (some 82)))] [] S Q := by
  refine g_11_82_sy_0  (by omega) (by omega) (zG_T hI) ?_
  refine sp_12_82_sy  (by omega) (by omega) hI (show xB S (mR S 70) from by first | (exact xB_x (xC_o (W := 75) hpre0).2)) (show qAv (aG S) from by first | (rw [hpre1]; exact hpre2)) (fun v2 S1 eS_S1 hp_v2 rp0_S1 => zi_n ⟨(by rw [eS_S1]; exact zG_T hI), ?_⟩)
  replace eS_S1 := eS_S1.symm; subst eS_S1
  have rp0_S1 : v2.toInt = gGr (aG S) 512 := rp0_S1
  have f1 := zG_s hI (0) (400000) (c := 82) (k := 6) (by decide)
  have b2 := i_bd v2
  first | have e3 : ((mI S 82 6) + v2).toInt = (mI S 82 6).toInt + v2.toInt := i_add (by omega) (by omega) | have b4 := i_bd ((mI S 82 6) + v2)
  have x5 : (mI S 82 3).toInt ≤ (mI S 82 7).toInt ∧ (mI S 82 7).toInt ≤ (mI S 82 3).toInt + (mI S 82 2).toInt := zG_x hI
  have f6 := zG_s hI (0) (1500) (c := 82) (k := 3) (by decide)
  refine zd (fun h7 => ?_) (fun h7 => ?_)
  · skip
    have g8 := i_le h7
    refine sp_12_82_sy  (by omega) (by omega) hI (show xB S (mR S 70) from by first | (exact xB_x (xC_o (W := 75) hpre0).2)) (show qAv (aG S) from by first | (have e9 : (ab 87 9).toInt = (mI S 82 3).toInt := (by rw [← hpre1]; rfl); have e10 : (ab 87 10).toInt = (mI S 82 6).toInt := (by rw [← hpre1]; rfl); have w1 := rp0_S1; rw [hpre1] at w1; have m0 := M0_n (a := ab) (show ¬ gFu ab from by unfold gFu; omega); have g0 : aG S = gM0 ab := hpre1.trans m0.1.symm; rw [g0]; exact Av_m0 hpre2)) (fun v4 S3 eS_S3 hp_v4 rp0_S3 => zi_n ⟨(by rw [eS_S3]; exact zG_T hI), ?_⟩)
    replace eS_S3 := eS_S3.symm; subst eS_S3
    have rp0_S3 : v4.toInt = gGr (aG S) 512 := rp0_S3
    have b9 := i_bd v4
    first | have e10 : ((mI S 82 6) + v4).toInt = (mI S 82 6).toInt + v4.toInt := i_add (by omega) (by omega) | have b11 := i_bd ((mI S 82 6) + v4)
    refine zd (fun h12 => ?_) (fun h12 => ?_)
    · skip
      have g13 := i_le h12
      refine sp_117_75_s (ab := (aS 75 S)) (R := (mR S 70)) (a8 := (aS 88 S)) ((mI S 82 3)) (by omega) (by omega) (zJ82_dn hI) (show xB S (mR S 70) from by first | (exact xB_x (xC_o (W := 75) hpre0).2)) (show aS 75 S = (aS 75 S) from by first | (exact rfl)) (show aS 88 S = (aS 88 S) from by first | (exact rfl)) (fun S5 hL_S5 rp0_S5 rp1_S5 rp2_S5 => zv_n ⟨zG_T hL_S5, ?_⟩)
      have hI_S5 := zJ82_up hI hL_S5
      have rp0_S5 : xB S5 (mR S 70) := by
        have z := rp0_S5
        (try rw [show mI S 65 = f 65 from funext (fun k => zG_z hI rfl)] at z)
        (try rw [show mI S 64 1 = f 64 1 from zG_z hI rfl] at z)
        exact z
      have rp1_S5 : aS 75 S5 = aWh (aS 75 S) (mI S 82 3) := by
        have z := rp1_S5
        (try rw [show mI S 65 = f 65 from funext (fun k => zG_z hI rfl)] at z)
        (try rw [show mI S 64 1 = f 64 1 from zG_z hI rfl] at z)
        exact z
      have rp2_S5 : aS 88 S5 = (aS 88 S) := by
        have z := rp2_S5
        (try rw [show mI S 65 = f 65 from funext (fun k => zG_z hI rfl)] at z)
        (try rw [show mI S 64 1 = f 64 1 from zG_z hI rfl] at z)
        exact z
      refine sp_118_75_s (ab := (aS 75 S5)) (R := (mR S5 70)) (a8 := (aS 88 S5)) (by omega) (by omega) (zJ82_dn hI_S5) (show xB S5 (mR S5 70) from by first | (exact xB_x (xC_o (W := 75) rp0_S5).2)) (show aS 75 S5 = (aS 75 S5) from by first | (exact rfl)) (show aS 88 S5 = (aS 88 S5) from by first | (exact rfl)) (fun S7 hL_S7 rp0_S7 rp1_S7 rp2_S7 => zv_n ⟨zG_T hL_S7, ?_⟩)
      have hI_S7 := zJ82_up hI_S5 hL_S7
      have rp0_S7 : xB S7 (mR S5 70) := by
        have z := rp0_S7
        (try rw [show mI S5 65 = f 65 from funext (fun k => zG_z hI_S5 rfl)] at z)
        (try rw [show mI S5 64 1 = f 64 1 from zG_z hI_S5 rfl] at z)
        exact z
      have rp1_S7 : aS 75 S7 = aRo (aS 75 S5) 0 := by
        have z := rp1_S7
        (try rw [show mI S5 65 = f 65 from funext (fun k => zG_z hI_S5 rfl)] at z)
        (try rw [show mI S5 64 1 = f 64 1 from zG_z hI_S5 rfl] at z)
        exact z
      have rp2_S7 : aS 88 S7 = (aS 88 S5) := by
        have z := rp2_S7
        (try rw [show mI S5 65 = f 65 from funext (fun k => zG_z hI_S5 rfl)] at z)
        (try rw [show mI S5 64 1 = f 64 1 from zG_z hI_S5 rfl] at z)
        exact z
      have q14 : (mI S5 82 6).toInt = (mI S 82 6).toInt := zG_zi hL_S5 rfl
      have f15 := zG_s hI_S5 (0) (400000) (c := 82) (k := 6) (by decide)
      have q16 : (mI S7 82 6).toInt = (mI S5 82 6).toInt := zG_zi hL_S7 rfl
      have f17 := zG_s hI_S7 (0) (400000) (c := 82) (k := 6) (by decide)
      refine sp_13_82_sy (ab := (aG S7)) (R := (mR S7 70)) (by omega) (by omega) (zJ82_dn hI_S7) (show xB S7 (mR S7 70) from by first | (exact xB_x (xC_o (W := 75) rp0_S7).2)) (show aG S7 = (aG S7) from by first | (exact rfl)) (show zS1 (aG S7) from by first | (have e9 : (ab 87 9).toInt = (mI S 82 3).toInt := (by rw [← hpre1]; rfl); have e10 : (ab 87 10).toInt = (mI S 82 6).toInt := (by rw [← hpre1]; rfl); have w1 := rp0_S1; rw [hpre1] at w1; have m0 := M0_n (a := ab) (show ¬ gFu ab from by unfold gFu; omega); have g0 : aG S = gM0 ab := hpre1.trans m0.1.symm; have w2 := rp0_S3; rw [g0] at w2; have f9 : (gM0 ab 87 9).toInt = (mI S 82 3).toInt := (by rw [← g0]; rfl); have f10 : (gM0 ab 87 10).toInt = (mI S 82 6).toInt := (by rw [← g0]; rfl); exact S1_t2 (Av_m0 hpre2) (T2_e g0 rp1_S5 rfl rp1_S7 (show mI S5 82 = mI S 82 from funext (fun _ => zG_z hL_S5 rfl)) (show mI S5 83 = mI S 83 from funext (fun _ => zG_z hL_S5 rfl)) (show mI S7 82 = mI S5 82 from funext (fun _ => zG_z hL_S7 rfl)) (show mI S7 83 = mI S5 83 from funext (fun _ => zG_z hL_S7 rfl))))) (show (mI S7 82 6).toInt ≤ 400000 from by omega) (fun S9 hL_S9 rp0_S9 rp1_S9 => zv_n ⟨zG_T hL_S9, ?_⟩)
      have hI_S9 := zJ82_up hI_S7 hL_S9
      have rp0_S9 : xB S9 (mR S7 70) := by
        have z := rp0_S9
        (try rw [show mI S7 65 = f 65 from funext (fun k => zG_z hI_S7 rfl)] at z)
        (try rw [show mI S7 64 1 = f 64 1 from zG_z hI_S7 rfl] at z)
        exact z
      have rp1_S9 : aG S9 = gDp (aG S7) ((aG S7) 87 10).toInt 0 := by
        have z := rp1_S9
        (try rw [show mI S7 65 = f 65 from funext (fun k => zG_z hI_S7 rfl)] at z)
        (try rw [show mI S7 64 1 = f 64 1 from zG_z hI_S7 rfl] at z)
        exact z
      have li18 : (512 : Int32).toInt = 512 := rfl
      refine sp_120_75_s (ab := (aS 75 S9)) (R := (mR S9 70)) (a8 := (aS 88 S9)) ((512 : Int32)) (by omega) (by omega) (zJ82_dn hI_S9) (show xB S9 (mR S9 70) from by first | (exact xB_x (xC_o (W := 75) rp0_S9).2)) (show aS 75 S9 = (aS 75 S9) from by first | (exact rfl)) (by omega) (show aS 88 S9 = (aS 88 S9) from by first | (exact rfl)) (fun v12 S11 hL_S11 hp_v12 rp0_S11 rp1_S11 rp2_S11 => zi_n ⟨zG_T hL_S11, ?_⟩)
      have hI_S11 := zJ82_up hI_S9 hL_S11
      have rp0_S11 : xB S11 (mR S9 70) := by
        have z := rp0_S11
        (try rw [show mI S9 65 = f 65 from funext (fun k => zG_z hI_S9 rfl)] at z)
        (try rw [show mI S9 64 1 = f 64 1 from zG_z hI_S9 rfl] at z)
        exact z
      have rp1_S11 : aS 75 S11 = aSp (512 : Int32).toInt.toNat (aS 75 S9) ∧ v12.toInt = (aSn (512 : Int32).toInt.toNat (aS 75 S9) : Int) := by
        have z := rp1_S11
        (try rw [show mI S9 65 = f 65 from funext (fun k => zG_z hI_S9 rfl)] at z)
        (try rw [show mI S9 64 1 = f 64 1 from zG_z hI_S9 rfl] at z)
        exact z
      have rp2_S11 : aS 88 S11 = (aS 88 S9) := by
        have z := rp2_S11
        (try rw [show mI S9 65 = f 65 from funext (fun k => zG_z hI_S9 rfl)] at z)
        (try rw [show mI S9 64 1 = f 64 1 from zG_z hI_S9 rfl] at z)
        exact z
      refine sp_83_69_75_s (ab := (aS 75 S11)) (R := (mR S11 70)) (by omega) (by omega) (zJ82_dn hI_S11) (show xB S11 (mR S11 70) from by first | (exact xB_x (xC_o (W := 75) rp0_S11).2)) (show aS 75 S11 = (aS 75 S11) from by first | (exact rfl)) (fun S13 hL_S13 rp0_S13 rp1_S13 => zv_n ⟨zG_T hL_S13, ?_⟩)
      have hI_S13 := zJ82_up hI_S11 hL_S13
      have rp0_S13 : xB S13 (mR S11 70) := by
        have z := rp0_S13
        (try rw [show mI S11 65 = f 65 from funext (fun k => zG_z hI_S11 rfl)] at z)
        (try rw [show mI S11 64 1 = f 64 1 from zG_z hI_S11 rfl] at z)
        exact z
      have rp1_S13 : aS 75 S13 = aGw (aS 75 S11) 0 := by
        have z := rp1_S13
        (try rw [show mI S11 65 = f 65 from funext (fun k => zG_z hI_S11 rfl)] at z)
        (try rw [show mI S11 64 1 = f 64 1 from zG_z hI_S11 rfl] at z)
        exact z
      refine sp_86_69_75_s (ab := (aS 75 S13)) (by omega) (by omega) (zJ82_dn hI_S13) (show xB S13 (mR S13 70) from by first | (exact xB_x (xC_o (W := 75) rp0_S13).2)) (show aS 75 S13 = (aS 75 S13) from by first | (exact rfl)) (fun v16 S15 hL_S15 hp_v16 rp0_S15 rp1_S15 => zi_n ⟨zG_T hL_S15, ?_⟩)
      have hI_S15 := zJ82_up hI_S13 hL_S15
      have rp0_S15 : xB S15 (mR S15 70) := by
        have z := rp0_S15
        (try rw [show mI S13 65 = f 65 from funext (fun k => zG_z hI_S13 rfl)] at z)
        (try rw [show mI S13 64 1 = f 64 1 from zG_z hI_S13 rfl] at z)
        exact z
      have rp1_S15 : aS 75 S15 = aMv (aS 75 S13) 0 ∧ v16 = aMv (aS 75 S13) 0 69 11 - (aS 75 S13) 69 11 := by
        have z := rp1_S15
        (try rw [show mI S13 65 = f 65 from funext (fun k => zG_z hI_S13 rfl)] at z)
        (try rw [show mI S13 64 1 = f 64 1 from zG_z hI_S13 rfl] at z)
        exact z
      have q19 : (mI S9 82 6).toInt = (mI S7 82 6).toInt := zG_zi hL_S9 rfl
      have f20 := zG_s hI_S9 (0) (400000) (c := 82) (k := 6) (by decide)
      have q21 : (mI S11 82 6).toInt = (mI S9 82 6).toInt := zG_zi hL_S11 rfl
      have f22 := zG_s hI_S11 (0) (400000) (c := 82) (k := 6) (by decide)
      have q23 : (mI S13 82 6).toInt = (mI S11 82 6).toInt := zG_zi hL_S13 rfl
      have f24 := zG_s hI_S13 (0) (400000) (c := 82) (k := 6) (by decide)
      have q25 : (mI S15 82 6).toInt = (mI S13 82 6).toInt := zG_zi hL_S15 rfl
      have f26 := zG_s hI_S15 (0) (400000) (c := 82) (k := 6) (by decide)
      refine sp_15_82_sy (ab := (aG S15)) (st := (2 * ((gM0 ab) 87 9).toInt + ((gM0 ab) 87 5).toInt - ((gM0 ab) 87 3).toInt)) (ot := ((gM0 ab) 87 3).toInt) (o0 := ((gM0 ab) 87 10).toInt) (PP := (gPf (gMk1 (gM0 ab)))) (NN := (gNf (gMk1 (gM0 ab)))) (by omega) (by omega) hI_S15 (show (mI S15 82 6).toInt ≤ 1500 from by omega) (show xB S15 (mR S15 70) from by first | (exact xB_x (xC_o (W := 75) rp0_S15).2)) (show aG S15 = (aG S15) from by first | (exact rfl)) (show qJg (gM9 (aG S15)) (2 * ((gM0 ab) 87 9).toInt + ((gM0 ab) 87 5).toInt - ((gM0 ab) 87 3).toInt) ((gM0 ab) 87 3).toInt ((gM0 ab) 87 10).toInt (gPf (gMk1 (gM0 ab))) (gNf (gMk1 (gM0 ab))) 0 from by first | (have e9 : (ab 87 9).toInt = (mI S 82 3).toInt := (by rw [← hpre1]; rfl); have e10 : (ab 87 10).toInt = (mI S 82 6).toInt := (by rw [← hpre1]; rfl); have w1 := rp0_S1; rw [hpre1] at w1; have m0 := M0_n (a := ab) (show ¬ gFu ab from by unfold gFu; omega); have g0 : aG S = gM0 ab := hpre1.trans m0.1.symm; have w2 := rp0_S3; rw [g0] at w2; have f9 : (gM0 ab 87 9).toInt = (mI S 82 3).toInt := (by rw [← g0]; rfl); have f10 : (gM0 ab 87 10).toInt = (mI S 82 6).toInt := (by rw [← g0]; rfl); exact J9 (Av_m0 hpre2) (show ¬ gFu (gM0 ab) from by unfold gFu; omega) (Mk_e g0 rp1_S5 rfl rp1_S7 rp1_S9 rp1_S11.1 rp1_S13 rp1_S15.1 (show mI S5 82 = mI S 82 from funext (fun _ => zG_z hL_S5 rfl)) (show mI S5 83 = mI S 83 from funext (fun _ => zG_z hL_S5 rfl)) (show mI S7 82 = mI S5 82 from funext (fun _ => zG_z hL_S7 rfl)) (show mI S7 83 = mI S5 83 from funext (fun _ => zG_z hL_S7 rfl)) (show mI S11 82 = mI S9 82 from funext (fun _ => zG_z hL_S11 rfl)) (show mI S11 83 = mI S9 83 from funext (fun _ => zG_z hL_S11 rfl)) (show mI S13 82 = mI S11 82 from funext (fun _ => zG_z hL_S13 rfl)) (show mI S13 83 = mI S11 83 from funext (fun _ => zG_z hL_S13 rfl)) (show mI S15 82 = mI S13 82 from funext (fun _ => zG_z hL_S15 rfl)) (show mI S15 83 = mI S13 83 from funext (fun _ => zG_z hL_S15 rfl))).2.2)) (fun S17 hI_S17 rp0_S17 rp1_S17 => zv_n ⟨zG_T hI_S17, ?_⟩)
      have rp0_S17 : xB S17 (mR S17 70) := rp0_S17
      have rp1_S17 : aG S17 = gMf ((aG S15) 75 4).toInt.toNat 0 (gM9 (aG S15)) := rp1_S17
      refine sp_6_82_sy (ab := (aG S17)) (by omega) (by omega) hI_S17 (show xB S17 (mR S17 70) from by first | (exact xB_x (xC_o (W := 75) rp0_S17).2)) (show aG S17 = (aG S17) from by first | (exact rfl)) (show qI (aG S17) from by first | (have e9 : (ab 87 9).toInt = (mI S 82 3).toInt := (by rw [← hpre1]; rfl); have e10 : (ab 87 10).toInt = (mI S 82 6).toInt := (by rw [← hpre1]; rfl); have w1 := rp0_S1; rw [hpre1] at w1; have m0 := M0_n (a := ab) (show ¬ gFu ab from by unfold gFu; omega); have g0 : aG S = gM0 ab := hpre1.trans m0.1.symm; have w2 := rp0_S3; rw [g0] at w2; have f9 : (gM0 ab 87 9).toInt = (mI S 82 3).toInt := (by rw [← g0]; rfl); have f10 : (gM0 ab 87 10).toInt = (mI S 82 6).toInt := (by rw [← g0]; rfl); have mf := Mf_I (Av_m0 hpre2) (show ¬ gFu (gM0 ab) from by unfold gFu; omega); rw [rp1_S17, (Mk_e g0 rp1_S5 rfl rp1_S7 rp1_S9 rp1_S11.1 rp1_S13 rp1_S15.1 (show mI S5 82 = mI S 82 from funext (fun _ => zG_z hL_S5 rfl)) (show mI S5 83 = mI S 83 from funext (fun _ => zG_z hL_S5 rfl)) (show mI S7 82 = mI S5 82 from funext (fun _ => zG_z hL_S7 rfl)) (show mI S7 83 = mI S5 83 from funext (fun _ => zG_z hL_S7 rfl)) (show mI S11 82 = mI S9 82 from funext (fun _ => zG_z hL_S11 rfl)) (show mI S11 83 = mI S9 83 from funext (fun _ => zG_z hL_S11 rfl)) (show mI S13 82 = mI S11 82 from funext (fun _ => zG_z hL_S13 rfl)) (show mI S13 83 = mI S11 83 from funext (fun _ => zG_z hL_S13 rfl)) (show mI S15 82 = mI S13 82 from funext (fun _ => zG_z hL_S15 rfl)) (show mI S15 83 = mI S13 83 from funext (fun _ => zG_z hL_S15 rfl))).2.2]; exact mf.1)) (fun S19 hI_S19 rp0_S19 rp1_S19 => zv_n ⟨zG_T hI_S19, ?_⟩)
      have rp0_S19 : xB S19 (mR S19 70) := rp0_S19
      have rp1_S19 : aG S19 = gFd (aG S17) := rp1_S19
      have li27 : (0 : Int32).toInt = 0 := rfl
      have b28 := i_bd v16
      first | have e29 : ((0 : Int32) + v16).toInt = (0 : Int32).toInt + v16.toInt := i_add (by omega) (by omega) | have b30 := i_bd ((0 : Int32) + v16)
      exact K (((0 : Int32) + v16)) _ hI_S19 trivial (show xB S19 (mR S19 70) from by first | (exact xB_x (xC_o (W := 75) rp0_S19).2)) (show aG S19 = gMi ab ∧ ((0 : Int32) + v16) = gVi ab from by first | (have e9 : (ab 87 9).toInt = (mI S 82 3).toInt := (by rw [← hpre1]; rfl); have e10 : (ab 87 10).toInt = (mI S 82 6).toInt := (by rw [← hpre1]; rfl); have w1 := rp0_S1; rw [hpre1] at w1; have m0 := M0_n (a := ab) (show ¬ gFu ab from by unfold gFu; omega); have g0 : aG S = gM0 ab := hpre1.trans m0.1.symm; have w2 := rp0_S3; rw [g0] at w2; have f9 : (gM0 ab 87 9).toInt = (mI S 82 3).toInt := (by rw [← g0]; rfl); have f10 : (gM0 ab 87 10).toInt = (mI S 82 6).toInt := (by rw [← g0]; rfl); have mi := Mi_n (a := ab) (show ¬ gFu (gM0 ab) from by unfold gFu; omega); have me := (Mk_e g0 rp1_S5 rfl rp1_S7 rp1_S9 rp1_S11.1 rp1_S13 rp1_S15.1 (show mI S5 82 = mI S 82 from funext (fun _ => zG_z hL_S5 rfl)) (show mI S5 83 = mI S 83 from funext (fun _ => zG_z hL_S5 rfl)) (show mI S7 82 = mI S5 82 from funext (fun _ => zG_z hL_S7 rfl)) (show mI S7 83 = mI S5 83 from funext (fun _ => zG_z hL_S7 rfl)) (show mI S11 82 = mI S9 82 from funext (fun _ => zG_z hL_S11 rfl)) (show mI S11 83 = mI S9 83 from funext (fun _ => zG_z hL_S11 rfl)) (show mI S13 82 = mI S11 82 from funext (fun _ => zG_z hL_S13 rfl)) (show mI S13 83 = mI S11 83 from funext (fun _ => zG_z hL_S13 rfl)) (show mI S15 82 = mI S13 82 from funext (fun _ => zG_z hL_S15 rfl)) (show mI S15 83 = mI S13 83 from funext (fun _ => zG_z hL_S15 rfl))); have mf := Mf_I (Av_m0 hpre2) (show ¬ gFu (gM0 ab) from by unfold gFu; omega); refine ⟨?_, ?_⟩; (rw [rp1_S19, rp1_S17, me.2.2, mf.2, mi.1]); (rw [mi.2, m0.2, rp1_S15.2]; have k6 : gMk0 (gM0 ab) 69 11 = aMv (aS 75 S13) 0 69 11 := (by rw [← me.2.2, aG_o (by decide) (by decide), rp1_S15.1]); have k5 : gKp (gM0 ab) 69 11 = aS 75 S13 69 11 := (by rw [← me.2.1, aG_o (by decide) (by decide)]); rw [k6, k5])))
    · skip
      have g31 := i_nle h12
      have li32 : (0 : Int32).toInt = 0 := rfl
      exact K ((0 : Int32)) _ hI trivial (show xB S (mR S 70) from by first | (exact xB_x (xC_o (W := 75) hpre0).2)) (show aG S = gMi ab ∧ (0 : Int32) = gVi ab from by first | (have e9 : (ab 87 9).toInt = (mI S 82 3).toInt := (by rw [← hpre1]; rfl); have e10 : (ab 87 10).toInt = (mI S 82 6).toInt := (by rw [← hpre1]; rfl); have w1 := rp0_S1; rw [hpre1] at w1; have m0 := M0_n (a := ab) (show ¬ gFu ab from by unfold gFu; omega); have g0 : aG S = gM0 ab := hpre1.trans m0.1.symm; have w2 := rp0_S3; rw [g0] at w2; have f9 : (gM0 ab 87 9).toInt = (mI S 82 3).toInt := (by rw [← g0]; rfl); have f10 : (gM0 ab 87 10).toInt = (mI S 82 6).toInt := (by rw [← g0]; rfl); have mi := Mi_y (a := ab) (show gFu (gM0 ab) from by unfold gFu; omega); exact ⟨g0.trans mi.1.symm, by rw [mi.2, m0.2]⟩))
  · skip
    have g33 := i_nle h7
    refine sp_5_82_sy (ab := (aG S)) (by omega) (by omega) hI (show xB S (mR S 70) from by first | (exact xB_x (xC_o (W := 75) hpre0).2)) (show aG S = (aG S) from by first | (exact rfl)) (show qAv (aG S) from by first | (exact hpre2) | (rw [hpre1]; exact hpre2) | (rw [hpre1]; exact hpre2)) (fun v22 S21 hI_S21 hp_v22 rp0_S21 rp1_S21 => zi_n ⟨zG_T hI_S21, ?_⟩)
    have rp0_S21 : xB S21 (mR S21 70) := rp0_S21
    have rp1_S21 : aG S21 = gMa (aG S) ∧ v22 = aSv (aG S) := rp1_S21
    refine sp_12_82_sy  (by omega) (by omega) hI_S21 (show xB S21 (mR S21 70) from by first | (exact xB_x (xC_o (W := 75) rp0_S21).2)) (show qAv (aG S21) from by first | (have e9 : (ab 87 9).toInt = (mI S 82 3).toInt := (by rw [← hpre1]; rfl); have e10 : (ab 87 10).toInt = (mI S 82 6).toInt := (by rw [← hpre1]; rfl); have w1 := rp0_S1; rw [hpre1] at w1; have m0 := M0_y (a := ab) (show gFu ab from by unfold gFu; omega); have g0 : aG S21 = gM0 ab := (rp1_S21.1.trans (congrArg gMa hpre1)).trans m0.1.symm; rw [g0]; exact Av_m0 hpre2)) (fun v24 S23 eS_S23 hp_v24 rp0_S23 => zi_n ⟨(by rw [eS_S23]; exact zG_T hI_S21), ?_⟩)
    replace eS_S23 := eS_S23.symm; subst eS_S23
    have rp0_S23 : v24.toInt = gGr (aG S21) 512 := rp0_S23
    have f34 := zG_s hI_S21 (0) (400000) (c := 82) (k := 6) (by decide)
    have b35 := i_bd v24
    first | have e36 : ((mI S21 82 6) + v24).toInt = (mI S21 82 6).toInt + v24.toInt := i_add (by omega) (by omega) | have b37 := i_bd ((mI S21 82 6) + v24)
    have x38 : (mI S21 82 3).toInt ≤ (mI S21 82 7).toInt ∧ (mI S21 82 7).toInt ≤ (mI S21 82 3).toInt + (mI S21 82 2).toInt := zG_x hI_S21
    have f39 := zG_s hI_S21 (0) (1500) (c := 82) (k := 3) (by decide)
    refine zd (fun h40 => ?_) (fun h40 => ?_)
    · skip
      have g41 := i_le h40
      refine sp_117_75_s (ab := (aS 75 S21)) (R := (mR S21 70)) (a8 := (aS 88 S21)) ((mI S21 82 3)) (by omega) (by omega) (zJ82_dn hI_S21) (show xB S21 (mR S21 70) from by first | (exact xB_x (xC_o (W := 75) rp0_S21).2)) (show aS 75 S21 = (aS 75 S21) from by first | (exact rfl)) (show aS 88 S21 = (aS 88 S21) from by first | (exact rfl)) (fun S25 hL_S25 rp0_S25 rp1_S25 rp2_S25 => zv_n ⟨zG_T hL_S25, ?_⟩)
      have hI_S25 := zJ82_up hI_S21 hL_S25
      have rp0_S25 : xB S25 (mR S21 70) := by
        have z := rp0_S25
        (try rw [show mI S21 65 = f 65 from funext (fun k => zG_z hI_S21 rfl)] at z)
        (try rw [show mI S21 64 1 = f 64 1 from zG_z hI_S21 rfl] at z)
        exact z
      have rp1_S25 : aS 75 S25 = aWh (aS 75 S21) (mI S21 82 3) := by
        have z := rp1_S25
        (try rw [show mI S21 65 = f 65 from funext (fun k => zG_z hI_S21 rfl)] at z)
        (try rw [show mI S21 64 1 = f 64 1 from zG_z hI_S21 rfl] at z)
        exact z
      have rp2_S25 : aS 88 S25 = (aS 88 S21) := by
        have z := rp2_S25
        (try rw [show mI S21 65 = f 65 from funext (fun k => zG_z hI_S21 rfl)] at z)
        (try rw [show mI S21 64 1 = f 64 1 from zG_z hI_S21 rfl] at z)
        exact z
      refine sp_118_75_s (ab := (aS 75 S25)) (R := (mR S25 70)) (a8 := (aS 88 S25)) (by omega) (by omega) (zJ82_dn hI_S25) (show xB S25 (mR S25 70) from by first | (exact xB_x (xC_o (W := 75) rp0_S25).2)) (show aS 75 S25 = (aS 75 S25) from by first | (exact rfl)) (show aS 88 S25 = (aS 88 S25) from by first | (exact rfl)) (fun S27 hL_S27 rp0_S27 rp1_S27 rp2_S27 => zv_n ⟨zG_T hL_S27, ?_⟩)
      have hI_S27 := zJ82_up hI_S25 hL_S27
      have rp0_S27 : xB S27 (mR S25 70) := by
        have z := rp0_S27
        (try rw [show mI S25 65 = f 65 from funext (fun k => zG_z hI_S25 rfl)] at z)
        (try rw [show mI S25 64 1 = f 64 1 from zG_z hI_S25 rfl] at z)
        exact z
      have rp1_S27 : aS 75 S27 = aRo (aS 75 S25) 0 := by
        have z := rp1_S27
        (try rw [show mI S25 65 = f 65 from funext (fun k => zG_z hI_S25 rfl)] at z)
        (try rw [show mI S25 64 1 = f 64 1 from zG_z hI_S25 rfl] at z)
        exact z
      have rp2_S27 : aS 88 S27 = (aS 88 S25) := by
        have z := rp2_S27
        (try rw [show mI S25 65 = f 65 from funext (fun k => zG_z hI_S25 rfl)] at z)
        (try rw [show mI S25 64 1 = f 64 1 from zG_z hI_S25 rfl] at z)
        exact z
      have q42 : (mI S25 82 6).toInt = (mI S21 82 6).toInt := zG_zi hL_S25 rfl
      have f43 := zG_s hI_S25 (0) (400000) (c := 82) (k := 6) (by decide)
      have q44 : (mI S27 82 6).toInt = (mI S25 82 6).toInt := zG_zi hL_S27 rfl
      have f45 := zG_s hI_S27 (0) (400000) (c := 82) (k := 6) (by decide)
      refine sp_13_82_sy (ab := (aG S27)) (R := (mR S27 70)) (by omega) (by omega) (zJ82_dn hI_S27) (show xB S27 (mR S27 70) from by first | (exact xB_x (xC_o (W := 75) rp0_S27).2)) (show aG S27 = (aG S27) from by first | (exact rfl)) (show zS1 (aG S27) from by first | (have e9 : (ab 87 9).toInt = (mI S 82 3).toInt := (by rw [← hpre1]; rfl); have e10 : (ab 87 10).toInt = (mI S 82 6).toInt := (by rw [← hpre1]; rfl); have w1 := rp0_S1; rw [hpre1] at w1; have m0 := M0_y (a := ab) (show gFu ab from by unfold gFu; omega); have g0 : aG S21 = gM0 ab := (rp1_S21.1.trans (congrArg gMa hpre1)).trans m0.1.symm; have w2 := rp0_S23; rw [g0] at w2; have f9 : (gM0 ab 87 9).toInt = (mI S21 82 3).toInt := (by rw [← g0]; rfl); have f10 : (gM0 ab 87 10).toInt = (mI S21 82 6).toInt := (by rw [← g0]; rfl); exact S1_t2 (Av_m0 hpre2) (T2_e g0 rp1_S25 rfl rp1_S27 (show mI S25 82 = mI S21 82 from funext (fun _ => zG_z hL_S25 rfl)) (show mI S25 83 = mI S21 83 from funext (fun _ => zG_z hL_S25 rfl)) (show mI S27 82 = mI S25 82 from funext (fun _ => zG_z hL_S27 rfl)) (show mI S27 83 = mI S25 83 from funext (fun _ => zG_z hL_S27 rfl))))) (show (mI S27 82 6).toInt ≤ 400000 from by omega) (fun S29 hL_S29 rp0_S29 rp1_S29 => zv_n ⟨zG_T hL_S29, ?_⟩)
      have hI_S29 := zJ82_up hI_S27 hL_S29
      have rp0_S29 : xB S29 (mR S27 70) := by
        have z := rp0_S29
        (try rw [show mI S27 65 = f 65 from funext (fun k => zG_z hI_S27 rfl)] at z)
        (try rw [show mI S27 64 1 = f 64 1 from zG_z hI_S27 rfl] at z)
        exact z
      have rp1_S29 : aG S29 = gDp (aG S27) ((aG S27) 87 10).toInt 0 := by
        have z := rp1_S29
        (try rw [show mI S27 65 = f 65 from funext (fun k => zG_z hI_S27 rfl)] at z)
        (try rw [show mI S27 64 1 = f 64 1 from zG_z hI_S27 rfl] at z)
        exact z
      have li46 : (512 : Int32).toInt = 512 := rfl
      refine sp_120_75_s (ab := (aS 75 S29)) (R := (mR S29 70)) (a8 := (aS 88 S29)) ((512 : Int32)) (by omega) (by omega) (zJ82_dn hI_S29) (show xB S29 (mR S29 70) from by first | (exact xB_x (xC_o (W := 75) rp0_S29).2)) (show aS 75 S29 = (aS 75 S29) from by first | (exact rfl)) (by omega) (show aS 88 S29 = (aS 88 S29) from by first | (exact rfl)) (fun v32 S31 hL_S31 hp_v32 rp0_S31 rp1_S31 rp2_S31 => zi_n ⟨zG_T hL_S31, ?_⟩)
      have hI_S31 := zJ82_up hI_S29 hL_S31
      have rp0_S31 : xB S31 (mR S29 70) := by
        have z := rp0_S31
        (try rw [show mI S29 65 = f 65 from funext (fun k => zG_z hI_S29 rfl)] at z)
        (try rw [show mI S29 64 1 = f 64 1 from zG_z hI_S29 rfl] at z)
        exact z
      have rp1_S31 : aS 75 S31 = aSp (512 : Int32).toInt.toNat (aS 75 S29) ∧ v32.toInt = (aSn (512 : Int32).toInt.toNat (aS 75 S29) : Int) := by
        have z := rp1_S31
        (try rw [show mI S29 65 = f 65 from funext (fun k => zG_z hI_S29 rfl)] at z)
        (try rw [show mI S29 64 1 = f 64 1 from zG_z hI_S29 rfl] at z)
        exact z
      have rp2_S31 : aS 88 S31 = (aS 88 S29) := by
        have z := rp2_S31
        (try rw [show mI S29 65 = f 65 from funext (fun k => zG_z hI_S29 rfl)] at z)
        (try rw [show mI S29 64 1 = f 64 1 from zG_z hI_S29 rfl] at z)
        exact z
      refine sp_83_69_75_s (ab := (aS 75 S31)) (R := (mR S31 70)) (by omega) (by omega) (zJ82_dn hI_S31) (show xB S31 (mR S31 70) from by first | (exact xB_x (xC_o (W := 75) rp0_S31).2)) (show aS 75 S31 = (aS 75 S31) from by first | (exact rfl)) (fun S33 hL_S33 rp0_S33 rp1_S33 => zv_n ⟨zG_T hL_S33, ?_⟩)
      have hI_S33 := zJ82_up hI_S31 hL_S33
      have rp0_S33 : xB S33 (mR S31 70) := by
        have z := rp0_S33
        (try rw [show mI S31 65 = f 65 from funext (fun k => zG_z hI_S31 rfl)] at z)
        (try rw [show mI S31 64 1 = f 64 1 from zG_z hI_S31 rfl] at z)
        exact z
      have rp1_S33 : aS 75 S33 = aGw (aS 75 S31) 0 := by
        have z := rp1_S33
        (try rw [show mI S31 65 = f 65 from funext (fun k => zG_z hI_S31 rfl)] at z)
        (try rw [show mI S31 64 1 = f 64 1 from zG_z hI_S31 rfl] at z)
        exact z
      refine sp_86_69_75_s (ab := (aS 75 S33)) (by omega) (by omega) (zJ82_dn hI_S33) (show xB S33 (mR S33 70) from by first | (exact xB_x (xC_o (W := 75) rp0_S33).2)) (show aS 75 S33 = (aS 75 S33) from by first | (exact rfl)) (fun v36 S35 hL_S35 hp_v36 rp0_S35 rp1_S35 => zi_n ⟨zG_T hL_S35, ?_⟩)
      have hI_S35 := zJ82_up hI_S33 hL_S35
      have rp0_S35 : xB S35 (mR S35 70) := by
        have z := rp0_S35
        (try rw [show mI S33 65 = f 65 from funext (fun k => zG_z hI_S33 rfl)] at z)
        (try rw [show mI S33 64 1 = f 64 1 from zG_z hI_S33 rfl] at z)
        exact z
      have rp1_S35 : aS 75 S35 = aMv (aS 75 S33) 0 ∧ v36 = aMv (aS 75 S33) 0 69 11 - (aS 75 S33) 69 11 := by
        have z := rp1_S35
        (try rw [show mI S33 65 = f 65 from funext (fun k => zG_z hI_S33 rfl)] at z)
        (try rw [show mI S33 64 1 = f 64 1 from zG_z hI_S33 rfl] at z)
        exact z
      have q47 : (mI S29 82 6).toInt = (mI S27 82 6).toInt := zG_zi hL_S29 rfl
      have f48 := zG_s hI_S29 (0) (400000) (c := 82) (k := 6) (by decide)
      have q49 : (mI S31 82 6).toInt = (mI S29 82 6).toInt := zG_zi hL_S31 rfl
      have f50 := zG_s hI_S31 (0) (400000) (c := 82) (k := 6) (by decide)
      have q51 : (mI S33 82 6).toInt = (mI S31 82 6).toInt := zG_zi hL_S33 rfl
      have f52 := zG_s hI_S33 (0) (400000) (c := 82) (k := 6) (by decide)
      have q53 : (mI S35 82 6).toInt = (mI S33 82 6).toInt := zG_zi hL_S35 rfl
      have f54 := zG_s hI_S35 (0) (400000) (c := 82) (k := 6) (by decide)
      refine sp_15_82_sy (ab := (aG S35)) (st := (2 * ((gM0 ab) 87 9).toInt + ((gM0 ab) 87 5).toInt - ((gM0 ab) 87 3).toInt)) (ot := ((gM0 ab) 87 3).toInt) (o0 := ((gM0 ab) 87 10).toInt) (PP := (gPf (gMk1 (gM0 ab)))) (NN := (gNf (gMk1 (gM0 ab)))) (by omega) (by omega) hI_S35 (show (mI S35 82 6).toInt ≤ 1500 from by omega) (show xB S35 (mR S35 70) from by first | (exact xB_x (xC_o (W := 75) rp0_S35).2)) (show aG S35 = (aG S35) from by first | (exact rfl)) (show qJg (gM9 (aG S35)) (2 * ((gM0 ab) 87 9).toInt + ((gM0 ab) 87 5).toInt - ((gM0 ab) 87 3).toInt) ((gM0 ab) 87 3).toInt ((gM0 ab) 87 10).toInt (gPf (gMk1 (gM0 ab))) (gNf (gMk1 (gM0 ab))) 0 from by first | (have e9 : (ab 87 9).toInt = (mI S 82 3).toInt := (by rw [← hpre1]; rfl); have e10 : (ab 87 10).toInt = (mI S 82 6).toInt := (by rw [← hpre1]; rfl); have w1 := rp0_S1; rw [hpre1] at w1; have m0 := M0_y (a := ab) (show gFu ab from by unfold gFu; omega); have g0 : aG S21 = gM0 ab := (rp1_S21.1.trans (congrArg gMa hpre1)).trans m0.1.symm; have w2 := rp0_S23; rw [g0] at w2; have f9 : (gM0 ab 87 9).toInt = (mI S21 82 3).toInt := (by rw [← g0]; rfl); have f10 : (gM0 ab 87 10).toInt = (mI S21 82 6).toInt := (by rw [← g0]; rfl); exact J9 (Av_m0 hpre2) (show ¬ gFu (gM0 ab) from by unfold gFu; omega) (Mk_e g0 rp1_S25 rfl rp1_S27 rp1_S29 rp1_S31.1 rp1_S33 rp1_S35.1 (show mI S25 82 = mI S21 82 from funext (fun _ => zG_z hL_S25 rfl)) (show mI S25 83 = mI S21 83 from funext (fun _ => zG_z hL_S25 rfl)) (show mI S27 82 = mI S25 82 from funext (fun _ => zG_z hL_S27 rfl)) (show mI S27 83 = mI S25 83 from funext (fun _ => zG_z hL_S27 rfl)) (show mI S31 82 = mI S29 82 from funext (fun _ => zG_z hL_S31 rfl)) (show mI S31 83 = mI S29 83 from funext (fun _ => zG_z hL_S31 rfl)) (show mI S33 82 = mI S31 82 from funext (fun _ => zG_z hL_S33 rfl)) (show mI S33 83 = mI S31 83 from funext (fun _ => zG_z hL_S33 rfl)) (show mI S35 82 = mI S33 82 from funext (fun _ => zG_z hL_S35 rfl)) (show mI S35 83 = mI S33 83 from funext (fun _ => zG_z hL_S35 rfl))).2.2)) (fun S37 hI_S37 rp0_S37 rp1_S37 => zv_n ⟨zG_T hI_S37, ?_⟩)
      have rp0_S37 : xB S37 (mR S37 70) := rp0_S37
      have rp1_S37 : aG S37 = gMf ((aG S35) 75 4).toInt.toNat 0 (gM9 (aG S35)) := rp1_S37
      refine sp_6_82_sy (ab := (aG S37)) (by omega) (by omega) hI_S37 (show xB S37 (mR S37 70) from by first | (exact xB_x (xC_o (W := 75) rp0_S37).2)) (show aG S37 = (aG S37) from by first | (exact rfl)) (show qI (aG S37) from by first | (have e9 : (ab 87 9).toInt = (mI S 82 3).toInt := (by rw [← hpre1]; rfl); have e10 : (ab 87 10).toInt = (mI S 82 6).toInt := (by rw [← hpre1]; rfl); have w1 := rp0_S1; rw [hpre1] at w1; have m0 := M0_y (a := ab) (show gFu ab from by unfold gFu; omega); have g0 : aG S21 = gM0 ab := (rp1_S21.1.trans (congrArg gMa hpre1)).trans m0.1.symm; have w2 := rp0_S23; rw [g0] at w2; have f9 : (gM0 ab 87 9).toInt = (mI S21 82 3).toInt := (by rw [← g0]; rfl); have f10 : (gM0 ab 87 10).toInt = (mI S21 82 6).toInt := (by rw [← g0]; rfl); have mf := Mf_I (Av_m0 hpre2) (show ¬ gFu (gM0 ab) from by unfold gFu; omega); rw [rp1_S37, (Mk_e g0 rp1_S25 rfl rp1_S27 rp1_S29 rp1_S31.1 rp1_S33 rp1_S35.1 (show mI S25 82 = mI S21 82 from funext (fun _ => zG_z hL_S25 rfl)) (show mI S25 83 = mI S21 83 from funext (fun _ => zG_z hL_S25 rfl)) (show mI S27 82 = mI S25 82 from funext (fun _ => zG_z hL_S27 rfl)) (show mI S27 83 = mI S25 83 from funext (fun _ => zG_z hL_S27 rfl)) (show mI S31 82 = mI S29 82 from funext (fun _ => zG_z hL_S31 rfl)) (show mI S31 83 = mI S29 83 from funext (fun _ => zG_z hL_S31 rfl)) (show mI S33 82 = mI S31 82 from funext (fun _ => zG_z hL_S33 rfl)) (show mI S33 83 = mI S31 83 from funext (fun _ => zG_z hL_S33 rfl)) (show mI S35 82 = mI S33 82 from funext (fun _ => zG_z hL_S35 rfl)) (show mI S35 83 = mI S33 83 from funext (fun _ => zG_z hL_S35 rfl))).2.2]; exact mf.1)) (fun S39 hI_S39 rp0_S39 rp1_S39 => zv_n ⟨zG_T hI_S39, ?_⟩)
      have rp0_S39 : xB S39 (mR S39 70) := rp0_S39
      have rp1_S39 : aG S39 = gFd (aG S37) := rp1_S39
      have b55 := i_bd v22
      have b56 := i_bd v36
      first | have e57 : (v22 + v36).toInt = v22.toInt + v36.toInt := i_add (by omega) (by omega) | have b58 := i_bd (v22 + v36)
      exact K ((v22 + v36)) _ hI_S39 trivial (show xB S39 (mR S39 70) from by first | (exact xB_x (xC_o (W := 75) rp0_S39).2)) (show aG S39 = gMi ab ∧ (v22 + v36) = gVi ab from by first | (have e9 : (ab 87 9).toInt = (mI S 82 3).toInt := (by rw [← hpre1]; rfl); have e10 : (ab 87 10).toInt = (mI S 82 6).toInt := (by rw [← hpre1]; rfl); have w1 := rp0_S1; rw [hpre1] at w1; have m0 := M0_y (a := ab) (show gFu ab from by unfold gFu; omega); have g0 : aG S21 = gM0 ab := (rp1_S21.1.trans (congrArg gMa hpre1)).trans m0.1.symm; have w2 := rp0_S23; rw [g0] at w2; have f9 : (gM0 ab 87 9).toInt = (mI S21 82 3).toInt := (by rw [← g0]; rfl); have f10 : (gM0 ab 87 10).toInt = (mI S21 82 6).toInt := (by rw [← g0]; rfl); have mi := Mi_n (a := ab) (show ¬ gFu (gM0 ab) from by unfold gFu; omega); have me := (Mk_e g0 rp1_S25 rfl rp1_S27 rp1_S29 rp1_S31.1 rp1_S33 rp1_S35.1 (show mI S25 82 = mI S21 82 from funext (fun _ => zG_z hL_S25 rfl)) (show mI S25 83 = mI S21 83 from funext (fun _ => zG_z hL_S25 rfl)) (show mI S27 82 = mI S25 82 from funext (fun _ => zG_z hL_S27 rfl)) (show mI S27 83 = mI S25 83 from funext (fun _ => zG_z hL_S27 rfl)) (show mI S31 82 = mI S29 82 from funext (fun _ => zG_z hL_S31 rfl)) (show mI S31 83 = mI S29 83 from funext (fun _ => zG_z hL_S31 rfl)) (show mI S33 82 = mI S31 82 from funext (fun _ => zG_z hL_S33 rfl)) (show mI S33 83 = mI S31 83 from funext (fun _ => zG_z hL_S33 rfl)) (show mI S35 82 = mI S33 82 from funext (fun _ => zG_z hL_S35 rfl)) (show mI S35 83 = mI S33 83 from funext (fun _ => zG_z hL_S35 rfl))); have mf := Mf_I (Av_m0 hpre2) (show ¬ gFu (gM0 ab) from by unfold gFu; omega); refine ⟨?_, ?_⟩; (rw [rp1_S39, rp1_S37, me.2.2, mf.2, mi.1]); (rw [mi.2, m0.2, rp1_S35.2]; have k6 : gMk0 (gM0 ab) 69 11 = aMv (aS 75 S33) 0 69 11 := (by rw [← me.2.2, aG_o (by decide) (by decide), rp1_S35.1]); have k5 : gKp (gM0 ab) 69 11 = aS 75 S33 69 11 := (by rw [← me.2.1, aG_o (by decide) (by decide)]); rw [k6, k5, rp1_S21.2.trans (congrArg aSv hpre1)])))
    · skip
      have g59 := i_nle h40
      have b60 := i_bd v22
      exact K (v22) _ hI_S21 trivial (show xB S21 (mR S21 70) from by first | (exact xB_x (xC_o (W := 75) rp0_S21).2)) (show aG S21 = gMi ab ∧ v22 = gVi ab from by first | (have e9 : (ab 87 9).toInt = (mI S 82 3).toInt := (by rw [← hpre1]; rfl); have e10 : (ab 87 10).toInt = (mI S 82 6).toInt := (by rw [← hpre1]; rfl); have w1 := rp0_S1; rw [hpre1] at w1; have m0 := M0_y (a := ab) (show gFu ab from by unfold gFu; omega); have g0 : aG S21 = gM0 ab := (rp1_S21.1.trans (congrArg gMa hpre1)).trans m0.1.symm; have w2 := rp0_S23; rw [g0] at w2; have f9 : (gM0 ab 87 9).toInt = (mI S21 82 3).toInt := (by rw [← g0]; rfl); have f10 : (gM0 ab 87 10).toInt = (mI S21 82 6).toInt := (by rw [← g0]; rfl); have mi := Mi_y (a := ab) (show gFu (gM0 ab) from by unfold gFu; omega); exact ⟨g0.trans mi.1.symm, by rw [mi.2, m0.2]; exact rp1_S21.2.trans (congrArg aSv hpre1)⟩))

