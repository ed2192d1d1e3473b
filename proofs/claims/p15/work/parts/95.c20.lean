/-! the class behind (written by wip/tools/gen95c.py) -/
theorem g_71_87_t_0 {X : Nat × (Nat → Int32)} {d w : Nat} {S : ma_S} {Q : Option ma_V ⊕ Nat → ma_S → Prop} (n : Int32) (hd : 5 ≤ d) (hw : 114 ≤ w) (hS : zT S) (h : if (mI S 87 8) = 0 then (if (mI S 87 0) ≤ ((4 : Int32) * ((mI S 87 0) - (mI S 69 8))) then (ma_wp X (d - 1) (w - 22) 72 0 [(0, .inr (.inr (some 87))), (1, .inl (mI S 87 6))] [] S (zi (fun v18 S17 => zT S17 ∧ (ma_wp X (d - 1) (w - 21) 103 0 [(0, .inr (.inr (some 87))), (1, .inl n)] [] S17 (zi (fun v20 S19 => zT S19 ∧ (if v20 = (-1 : Int32) then (ma_wp X (d - 1) (w - 21) 67 0 [(0, .inr (.inr (some 87)))] [] S19 (zi (fun v26 S25 => zT S25 ∧ (ma_wp X (d - 1) (w - 21) 103 0 [(0, .inr (.inr (some 87))), (1, .inl n)] [] S25 (zi (fun v28 S27 => zT S27 ∧ (if v28 = (-1 : Int32) then (if (mI S19 87 8) = 0 then (Q (.inl (some (.inl v28))) S27) else (ma_wp X (d - 1) (w - 21) 67 0 [(0, .inr (.inr (some 87)))] [] S27 (zi (fun v30 S29 => zT S29 ∧ (ma_wp X (d - 1) (w - 21) 103 0 [(0, .inr (.inr (some 87))), (1, .inl n)] [] S29 (zi (fun v32 S31 => zT S31 ∧ (Q (.inl (some (.inl v32))) S31)) (fun _ _ => False)))) (fun x S9 => Q (.inr x) S9)))) else (Q (.inl (some (.inl v28))) S27))) (fun _ _ => False)))) (fun x S9 => Q (.inr x) S9))) else (if v20 = (-1 : Int32) then (if (mI S19 87 8) = 0 then (Q (.inl (some (.inl v20))) S19) else (ma_wp X (d - 1) (w - 21) 67 0 [(0, .inr (.inr (some 87)))] [] S19 (zi (fun v22 S21 => zT S21 ∧ (ma_wp X (d - 1) (w - 21) 103 0 [(0, .inr (.inr (some 87))), (1, .inl n)] [] S21 (zi (fun v24 S23 => zT S23 ∧ (Q (.inl (some (.inl v24))) S23)) (fun _ _ => False)))) (fun x S9 => Q (.inr x) S9)))) else (Q (.inl (some (.inl v20))) S19)))) (fun _ _ => False)))) (fun x S9 => Q (.inr x) S9))) else (ma_wp X (d - 1) (w - 20) 68 0 [(0, .inr (.inr (some 87)))] [] S (zv (fun S33 => zT S33 ∧ (ma_wp X (d - 1) (w - 22) 72 0 [(0, .inr (.inr (some 87))), (1, .inl (mI S33 87 6))] [] S33 (zi (fun v36 S35 => zT S35 ∧ (ma_wp X (d - 1) (w - 21) 103 0 [(0, .inr (.inr (some 87))), (1, .inl n)] [] S35 (zi (fun v38 S37 => zT S37 ∧ (if v38 = (-1 : Int32) then (ma_wp X (d - 1) (w - 21) 67 0 [(0, .inr (.inr (some 87)))] [] S37 (zi (fun v44 S43 => zT S43 ∧ (ma_wp X (d - 1) (w - 21) 103 0 [(0, .inr (.inr (some 87))), (1, .inl n)] [] S43 (zi (fun v46 S45 => zT S45 ∧ (if v46 = (-1 : Int32) then (if (mI S37 87 8) = 0 then (Q (.inl (some (.inl v46))) S45) else (ma_wp X (d - 1) (w - 21) 67 0 [(0, .inr (.inr (some 87)))] [] S45 (zi (fun v48 S47 => zT S47 ∧ (ma_wp X (d - 1) (w - 21) 103 0 [(0, .inr (.inr (some 87))), (1, .inl n)] [] S47 (zi (fun v50 S49 => zT S49 ∧ (Q (.inl (some (.inl v50))) S49)) (fun _ _ => False)))) (fun x S9 => Q (.inr x) S9)))) else (Q (.inl (some (.inl v46))) S45))) (fun _ _ => False)))) (fun x S9 => Q (.inr x) S9))) else (if v38 = (-1 : Int32) then (if (mI S37 87 8) = 0 then (Q (.inl (some (.inl v38))) S37) else (ma_wp X (d - 1) (w - 21) 67 0 [(0, .inr (.inr (some 87)))] [] S37 (zi (fun v40 S39 => zT S39 ∧ (ma_wp X (d - 1) (w - 21) 103 0 [(0, .inr (.inr (some 87))), (1, .inl n)] [] S39 (zi (fun v42 S41 => zT S41 ∧ (Q (.inl (some (.inl v42))) S41)) (fun _ _ => False)))) (fun x S9 => Q (.inr x) S9)))) else (Q (.inl (some (.inl v38))) S37)))) (fun _ _ => False)))) (fun x S9 => Q (.inr x) S9)))) (fun x S9 => Q (.inr x) S9)))) else (ma_wp X (d - 1) (w - 22) 72 0 [(0, .inr (.inr (some 87))), (1, .inl (mI S 87 6))] [] S (zi (fun v2 S1 => zT S1 ∧ (ma_wp X (d - 1) (w - 21) 103 0 [(0, .inr (.inr (some 87))), (1, .inl n)] [] S1 (zi (fun v4 S3 => zT S3 ∧ (if v4 = (-1 : Int32) then (ma_wp X (d - 1) (w - 21) 67 0 [(0, .inr (.inr (some 87)))] [] S3 (zi (fun v10 S9 => zT S9 ∧ (ma_wp X (d - 1) (w - 21) 103 0 [(0, .inr (.inr (some 87))), (1, .inl n)] [] S9 (zi (fun v12 S11 => zT S11 ∧ (if v12 = (-1 : Int32) then (if (mI S3 87 8) = 0 then (Q (.inl (some (.inl v12))) S11) else (ma_wp X (d - 1) (w - 21) 67 0 [(0, .inr (.inr (some 87)))] [] S11 (zi (fun v14 S13 => zT S13 ∧ (ma_wp X (d - 1) (w - 21) 103 0 [(0, .inr (.inr (some 87))), (1, .inl n)] [] S13 (zi (fun v16 S15 => zT S15 ∧ (Q (.inl (some (.inl v16))) S15)) (fun _ _ => False)))) (fun x S9 => Q (.inr x) S9)))) else (Q (.inl (some (.inl v12))) S11))) (fun _ _ => False)))) (fun x S9 => Q (.inr x) S9))) else (if v4 = (-1 : Int32) then (if (mI S3 87 8) = 0 then (Q (.inl (some (.inl v4))) S3) else (ma_wp X (d - 1) (w - 21) 67 0 [(0, .inr (.inr (some 87)))] [] S3 (zi (fun v6 S5 => zT S5 ∧ (ma_wp X (d - 1) (w - 21) 103 0 [(0, .inr (.inr (some 87))), (1, .inl n)] [] S5 (zi (fun v8 S7 => zT S7 ∧ (Q (.inl (some (.inl v8))) S7)) (fun _ _ => False)))) (fun x S9 => Q (.inr x) S9)))) else (Q (.inl (some (.inl v4))) S3)))) (fun _ _ => False)))) (fun x S9 => Q (.inr x) S9)))) : ma_wp X d w 71 0 [(0, .inr (.inr (some 87))), (1, .inl n)] [] S Q := by
  refine zw_push hm_71 dX6_findRoom_0 (v := .inr (.inr (some 87))) rfl ?_
  refine zw_gf hm_71 dX6_findRoom_1 (v := .inl (mI S 87 8)) (zT_is hS s_87) (zT_t hS s_87) rfl f_6_31_6 rfl ?_
  refine zw_if0 hm_71 dX6_findRoom_4 (t := 32) rfl zc0_ne ?_ ?_
  · intro hc
    rw [if_neg hc] at h
    refine zw_push hm_71 dX6_findRoom_32 (v := .inr (.inr (some 87))) rfl ?_
    refine zw_push hm_71 dX6_findRoom_33 (v := .inr (.inr (some 87))) rfl ?_
    refine zw_gf hm_71 dX6_findRoom_34 (v := .inl (mI S 87 6)) (zT_is hS s_87) (zT_t hS s_87) rfl f_6_24_6 rfl ?_
    refine zw_cv hm_71 dX6_findRoom_37 v_6_51_6 hm_72 [.inl (mI S 87 6)] [] rfl (zT_rt hS s_87 rfl) ⟨by omega, by omega⟩ rfl (zw_mono h (zi_go ?_ ?_))
    · intro v2 S1 hv
      obtain ⟨hS1, h⟩ := hv
      refine zw_stk hm_71 dX6_findRoom_40 (st' := []) rfl rfl ?_
      refine zw_push hm_71 dX6_findRoom_41 (v := .inr (.inr (some 87))) rfl ?_
      refine zw_push hm_71 dX6_findRoom_42 (v := .inl n) rfl ?_
      refine zw_cv hm_71 dX6_findRoom_43 v_6_55_6 hm_103 [.inl n] [] rfl (zT_rt hS1 s_87 rfl) ⟨by omega, by omega⟩ rfl (zw_mono h (zi_go ?_ ?_))
      · intro v4 S3 hv
        obtain ⟨hS3, h⟩ := hv
        refine zw_sto hm_71 dX6_findRoom_46 [(2, .inl v4), (0, .inr (.inr (some 87))), (1, .inl n)] rfl rfl rfl ?_
        refine zw_push hm_71 dX6_findRoom_47 (v := .inr (.inr (some 87))) rfl ?_
        refine zw_gf hm_71 dX6_findRoom_48 (v := .inl (mI S3 87 8)) (zT_is hS3 s_87) (zT_t hS3 s_87) rfl f_6_31_6 rfl ?_
        refine zw_sto hm_71 dX6_findRoom_51 [(3, .inl (mI S3 87 8)), (2, .inl v4), (0, .inr (.inr (some 87))), (1, .inl n)] rfl rfl rfl ?_
        refine zw_push hm_71 dX6_findRoom_52 (v := .inl v4) rfl ?_
        refine zw_push hm_71 dX6_findRoom_53 (v := .inl (-1 : Int32)) rfl ?_
        refine zw_if2 hm_71 dX6_findRoom_54 (t := 68) rfl zc2_ne ?_ ?_
        · intro hc
          rw [if_neg hc] at h
          refine zw_push hm_71 dX6_findRoom_68 (v := .inl v4) rfl ?_
          refine zw_push hm_71 dX6_findRoom_69 (v := .inl (-1 : Int32)) rfl ?_
          refine zw_if2 hm_71 dX6_findRoom_70 (t := 88) rfl zc2_ne ?_ ?_
          · intro hc
            rw [if_neg hc] at h
            refine zw_push hm_71 dX6_findRoom_88 (v := .inl v4) rfl ?_
            exact zw_iret hm_71 dX6_findRoom_89 h
          · intro hc
            rw [if_pos (Classical.not_not.mp hc)] at h
            refine zw_push hm_71 dX6_findRoom_73 (v := .inl (mI S3 87 8)) rfl ?_
            refine zw_if0 hm_71 dX6_findRoom_74 (t := 88) rfl zc0_eq ?_ ?_
            · intro hc
              rw [if_pos hc] at h
              refine zw_push hm_71 dX6_findRoom_88 (v := .inl v4) rfl ?_
              exact zw_iret hm_71 dX6_findRoom_89 h
            · intro hc
              rw [if_neg hc] at h
              refine zw_push hm_71 dX6_findRoom_77 (v := .inr (.inr (some 87))) rfl ?_
              refine zw_cv hm_71 dX6_findRoom_78 v_6_58_6 hm_67 [] [] rfl (zT_rt hS3 s_87 rfl) ⟨by omega, by omega⟩ rfl (zw_mono h (zi_go ?_ ?_))
              · intro v6 S5 hv
                obtain ⟨hS5, h⟩ := hv
                refine zw_stk hm_71 dX6_findRoom_81 (st' := []) rfl rfl ?_
                refine zw_push hm_71 dX6_findRoom_82 (v := .inr (.inr (some 87))) rfl ?_
                refine zw_push hm_71 dX6_findRoom_83 (v := .inl n) rfl ?_
                refine zw_cv hm_71 dX6_findRoom_84 v_6_55_6 hm_103 [.inl n] [] rfl (zT_rt hS5 s_87 rfl) ⟨by omega, by omega⟩ rfl (zw_mono h (zi_go ?_ ?_))
                · intro v8 S7 hv
                  obtain ⟨hS7, h⟩ := hv
                  refine zw_sto hm_71 dX6_findRoom_87 [(2, .inl v8), (3, .inl (mI S3 87 8)), (0, .inr (.inr (some 87))), (1, .inl n)] rfl rfl rfl ?_
                  refine zw_push hm_71 dX6_findRoom_88 (v := .inl v8) rfl ?_
                  exact zw_iret hm_71 dX6_findRoom_89 h
                · intro x S9 hx
                  exact hx.elim
              · intro x S9 hx
                exact ⟨by decide, hx⟩
        · intro hc
          rw [if_pos (Classical.not_not.mp hc)] at h
          refine zw_push hm_71 dX6_findRoom_57 (v := .inr (.inr (some 87))) rfl ?_
          refine zw_cv hm_71 dX6_findRoom_58 v_6_58_6 hm_67 [] [] rfl (zT_rt hS3 s_87 rfl) ⟨by omega, by omega⟩ rfl (zw_mono h (zi_go ?_ ?_))
          · intro v10 S9 hv
            obtain ⟨hS9, h⟩ := hv
            refine zw_stk hm_71 dX6_findRoom_61 (st' := []) rfl rfl ?_
            refine zw_push hm_71 dX6_findRoom_62 (v := .inr (.inr (some 87))) rfl ?_
            refine zw_push hm_71 dX6_findRoom_63 (v := .inl n) rfl ?_
            refine zw_cv hm_71 dX6_findRoom_64 v_6_55_6 hm_103 [.inl n] [] rfl (zT_rt hS9 s_87 rfl) ⟨by omega, by omega⟩ rfl (zw_mono h (zi_go ?_ ?_))
            · intro v12 S11 hv
              obtain ⟨hS11, h⟩ := hv
              refine zw_sto hm_71 dX6_findRoom_67 [(2, .inl v12), (3, .inl (mI S3 87 8)), (0, .inr (.inr (some 87))), (1, .inl n)] rfl rfl rfl ?_
              refine zw_push hm_71 dX6_findRoom_68 (v := .inl v12) rfl ?_
              refine zw_push hm_71 dX6_findRoom_69 (v := .inl (-1 : Int32)) rfl ?_
              refine zw_if2 hm_71 dX6_findRoom_70 (t := 88) rfl zc2_ne ?_ ?_
              · intro hc
                rw [if_neg hc] at h
                refine zw_push hm_71 dX6_findRoom_88 (v := .inl v12) rfl ?_
                exact zw_iret hm_71 dX6_findRoom_89 h
              · intro hc
                rw [if_pos (Classical.not_not.mp hc)] at h
                refine zw_push hm_71 dX6_findRoom_73 (v := .inl (mI S3 87 8)) rfl ?_
                refine zw_if0 hm_71 dX6_findRoom_74 (t := 88) rfl zc0_eq ?_ ?_
                · intro hc
                  rw [if_pos hc] at h
                  refine zw_push hm_71 dX6_findRoom_88 (v := .inl v12) rfl ?_
                  exact zw_iret hm_71 dX6_findRoom_89 h
                · intro hc
                  rw [if_neg hc] at h
                  refine zw_push hm_71 dX6_findRoom_77 (v := .inr (.inr (some 87))) rfl ?_
                  refine zw_cv hm_71 dX6_findRoom_78 v_6_58_6 hm_67 [] [] rfl (zT_rt hS11 s_87 rfl) ⟨by omega, by omega⟩ rfl (zw_mono h (zi_go ?_ ?_))
                  · intro v14 S13 hv
                    obtain ⟨hS13, h⟩ := hv
                    refine zw_stk hm_71 dX6_findRoom_81 (st' := []) rfl rfl ?_
                    refine zw_push hm_71 dX6_findRoom_82 (v := .inr (.inr (some 87))) rfl ?_
                    refine zw_push hm_71 dX6_findRoom_83 (v := .inl n) rfl ?_
                    refine zw_cv hm_71 dX6_findRoom_84 v_6_55_6 hm_103 [.inl n] [] rfl (zT_rt hS13 s_87 rfl) ⟨by omega, by omega⟩ rfl (zw_mono h (zi_go ?_ ?_))
                    · intro v16 S15 hv
                      obtain ⟨hS15, h⟩ := hv
                      refine zw_sto hm_71 dX6_findRoom_87 [(2, .inl v16), (3, .inl (mI S3 87 8)), (0, .inr (.inr (some 87))), (1, .inl n)] rfl rfl rfl ?_
                      refine zw_push hm_71 dX6_findRoom_88 (v := .inl v16) rfl ?_
                      exact zw_iret hm_71 dX6_findRoom_89 h
                    · intro x S9 hx
                      exact hx.elim
                  · intro x S9 hx
                    exact ⟨by decide, hx⟩
            · intro x S9 hx
              exact hx.elim
          · intro x S9 hx
            exact ⟨by decide, hx⟩
      · intro x S9 hx
        exact hx.elim
    · intro x S9 hx
      exact ⟨by decide, hx⟩
  · intro hc
    rw [if_pos (Classical.not_not.mp hc)] at h
    refine zw_push hm_71 dX6_findRoom_7 (v := .inl (4 : Int32)) rfl ?_
    refine zw_push hm_71 dX6_findRoom_8 (v := .inr (.inr (some 87))) rfl ?_
    refine zw_gf hm_71 dX6_findRoom_9 (v := .inl (mI S 87 0)) (zT_is hS s_87) (zT_t hS s_87) rfl f_6_35_6 rfl ?_
    refine zw_push hm_71 dX6_findRoom_12 (v := .inr (.inr (some 87))) rfl ?_
    refine zw_gf hm_71 dX6_findRoom_13 (v := .inr (.inr (some 69))) (zT_is hS s_87) (zT_t hS s_87) rfl f_6_38_6 (zT_f hS r_87_3) ?_
    refine zw_gf hm_71 dX6_findRoom_16 (v := .inl (mI S 69 8)) (zT_is hS s_69) (zT_t hS s_69) rfl f_6_42_7 rfl ?_
    refine zw_stk hm_71 dX6_findRoom_19 (st' := [.inl ((mI S 87 0) - (mI S 69 8)), .inl (4 : Int32)]) rfl rfl ?_
    refine zw_stk hm_71 dX6_findRoom_20 (st' := [.inl ((4 : Int32) * ((mI S 87 0) - (mI S 69 8)))]) rfl rfl ?_
    refine zw_push hm_71 dX6_findRoom_21 (v := .inr (.inr (some 87))) rfl ?_
    refine zw_gf hm_71 dX6_findRoom_22 (v := .inl (mI S 87 0)) (zT_is hS s_87) (zT_t hS s_87) rfl f_6_35_6 rfl ?_
    refine zw_if2 hm_71 dX6_findRoom_25 (t := 32) rfl zc2_ge ?_ ?_
    · intro hc
      rw [if_pos hc] at h
      refine zw_push hm_71 dX6_findRoom_32 (v := .inr (.inr (some 87))) rfl ?_
      refine zw_push hm_71 dX6_findRoom_33 (v := .inr (.inr (some 87))) rfl ?_
      refine zw_gf hm_71 dX6_findRoom_34 (v := .inl (mI S 87 6)) (zT_is hS s_87) (zT_t hS s_87) rfl f_6_24_6 rfl ?_
      refine zw_cv hm_71 dX6_findRoom_37 v_6_51_6 hm_72 [.inl (mI S 87 6)] [] rfl (zT_rt hS s_87 rfl) ⟨by omega, by omega⟩ rfl (zw_mono h (zi_go ?_ ?_))
      · intro v18 S17 hv
        obtain ⟨hS17, h⟩ := hv
        refine zw_stk hm_71 dX6_findRoom_40 (st' := []) rfl rfl ?_
        refine zw_push hm_71 dX6_findRoom_41 (v := .inr (.inr (some 87))) rfl ?_
        refine zw_push hm_71 dX6_findRoom_42 (v := .inl n) rfl ?_
        refine zw_cv hm_71 dX6_findRoom_43 v_6_55_6 hm_103 [.inl n] [] rfl (zT_rt hS17 s_87 rfl) ⟨by omega, by omega⟩ rfl (zw_mono h (zi_go ?_ ?_))
        · intro v20 S19 hv
          obtain ⟨hS19, h⟩ := hv
          refine zw_sto hm_71 dX6_findRoom_46 [(2, .inl v20), (0, .inr (.inr (some 87))), (1, .inl n)] rfl rfl rfl ?_
          refine zw_push hm_71 dX6_findRoom_47 (v := .inr (.inr (some 87))) rfl ?_
          refine zw_gf hm_71 dX6_findRoom_48 (v := .inl (mI S19 87 8)) (zT_is hS19 s_87) (zT_t hS19 s_87) rfl f_6_31_6 rfl ?_
          refine zw_sto hm_71 dX6_findRoom_51 [(3, .inl (mI S19 87 8)), (2, .inl v20), (0, .inr (.inr (some 87))), (1, .inl n)] rfl rfl rfl ?_
          refine zw_push hm_71 dX6_findRoom_52 (v := .inl v20) rfl ?_
          refine zw_push hm_71 dX6_findRoom_53 (v := .inl (-1 : Int32)) rfl ?_
          refine zw_if2 hm_71 dX6_findRoom_54 (t := 68) rfl zc2_ne ?_ ?_
          · intro hc
            rw [if_neg hc] at h
            refine zw_push hm_71 dX6_findRoom_68 (v := .inl v20) rfl ?_
            refine zw_push hm_71 dX6_findRoom_69 (v := .inl (-1 : Int32)) rfl ?_
            refine zw_if2 hm_71 dX6_findRoom_70 (t := 88) rfl zc2_ne ?_ ?_
            · intro hc
              rw [if_neg hc] at h
              refine zw_push hm_71 dX6_findRoom_88 (v := .inl v20) rfl ?_
              exact zw_iret hm_71 dX6_findRoom_89 h
            · intro hc
              rw [if_pos (Classical.not_not.mp hc)] at h
              refine zw_push hm_71 dX6_findRoom_73 (v := .inl (mI S19 87 8)) rfl ?_
              refine zw_if0 hm_71 dX6_findRoom_74 (t := 88) rfl zc0_eq ?_ ?_
              · intro hc
                rw [if_pos hc] at h
                refine zw_push hm_71 dX6_findRoom_88 (v := .inl v20) rfl ?_
                exact zw_iret hm_71 dX6_findRoom_89 h
              · intro hc
                rw [if_neg hc] at h
                refine zw_push hm_71 dX6_findRoom_77 (v := .inr (.inr (some 87))) rfl ?_
                refine zw_cv hm_71 dX6_findRoom_78 v_6_58_6 hm_67 [] [] rfl (zT_rt hS19 s_87 rfl) ⟨by omega, by omega⟩ rfl (zw_mono h (zi_go ?_ ?_))
                · intro v22 S21 hv
                  obtain ⟨hS21, h⟩ := hv
                  refine zw_stk hm_71 dX6_findRoom_81 (st' := []) rfl rfl ?_
                  refine zw_push hm_71 dX6_findRoom_82 (v := .inr (.inr (some 87))) rfl ?_
                  refine zw_push hm_71 dX6_findRoom_83 (v := .inl n) rfl ?_
                  refine zw_cv hm_71 dX6_findRoom_84 v_6_55_6 hm_103 [.inl n] [] rfl (zT_rt hS21 s_87 rfl) ⟨by omega, by omega⟩ rfl (zw_mono h (zi_go ?_ ?_))
                  · intro v24 S23 hv
                    obtain ⟨hS23, h⟩ := hv
                    refine zw_sto hm_71 dX6_findRoom_87 [(2, .inl v24), (3, .inl (mI S19 87 8)), (0, .inr (.inr (some 87))), (1, .inl n)] rfl rfl rfl ?_
                    refine zw_push hm_71 dX6_findRoom_88 (v := .inl v24) rfl ?_
                    exact zw_iret hm_71 dX6_findRoom_89 h
                  · intro x S9 hx
                    exact hx.elim
                · intro x S9 hx
                  exact ⟨by decide, hx⟩
          · intro hc
            rw [if_pos (Classical.not_not.mp hc)] at h
            refine zw_push hm_71 dX6_findRoom_57 (v := .inr (.inr (some 87))) rfl ?_
            refine zw_cv hm_71 dX6_findRoom_58 v_6_58_6 hm_67 [] [] rfl (zT_rt hS19 s_87 rfl) ⟨by omega, by omega⟩ rfl (zw_mono h (zi_go ?_ ?_))
            · intro v26 S25 hv
              obtain ⟨hS25, h⟩ := hv
              refine zw_stk hm_71 dX6_findRoom_61 (st' := []) rfl rfl ?_
              refine zw_push hm_71 dX6_findRoom_62 (v := .inr (.inr (some 87))) rfl ?_
              refine zw_push hm_71 dX6_findRoom_63 (v := .inl n) rfl ?_
              refine zw_cv hm_71 dX6_findRoom_64 v_6_55_6 hm_103 [.inl n] [] rfl (zT_rt hS25 s_87 rfl) ⟨by omega, by omega⟩ rfl (zw_mono h (zi_go ?_ ?_))
              · intro v28 S27 hv
                obtain ⟨hS27, h⟩ := hv
                refine zw_sto hm_71 dX6_findRoom_67 [(2, .inl v28), (3, .inl (mI S19 87 8)), (0, .inr (.inr (some 87))), (1, .inl n)] rfl rfl rfl ?_
                refine zw_push hm_71 dX6_findRoom_68 (v := .inl v28) rfl ?_
                refine zw_push hm_71 dX6_findRoom_69 (v := .inl (-1 : Int32)) rfl ?_
                refine zw_if2 hm_71 dX6_findRoom_70 (t := 88) rfl zc2_ne ?_ ?_
                · intro hc
                  rw [if_neg hc] at h
                  refine zw_push hm_71 dX6_findRoom_88 (v := .inl v28) rfl ?_
                  exact zw_iret hm_71 dX6_findRoom_89 h
                · intro hc
                  rw [if_pos (Classical.not_not.mp hc)] at h
                  refine zw_push hm_71 dX6_findRoom_73 (v := .inl (mI S19 87 8)) rfl ?_
                  refine zw_if0 hm_71 dX6_findRoom_74 (t := 88) rfl zc0_eq ?_ ?_
                  · intro hc
                    rw [if_pos hc] at h
                    refine zw_push hm_71 dX6_findRoom_88 (v := .inl v28) rfl ?_
                    exact zw_iret hm_71 dX6_findRoom_89 h
                  · intro hc
                    rw [if_neg hc] at h
                    refine zw_push hm_71 dX6_findRoom_77 (v := .inr (.inr (some 87))) rfl ?_
                    refine zw_cv hm_71 dX6_findRoom_78 v_6_58_6 hm_67 [] [] rfl (zT_rt hS27 s_87 rfl) ⟨by omega, by omega⟩ rfl (zw_mono h (zi_go ?_ ?_))
                    · intro v30 S29 hv
                      obtain ⟨hS29, h⟩ := hv
                      refine zw_stk hm_71 dX6_findRoom_81 (st' := []) rfl rfl ?_
                      refine zw_push hm_71 dX6_findRoom_82 (v := .inr (.inr (some 87))) rfl ?_
                      refine zw_push hm_71 dX6_findRoom_83 (v := .inl n) rfl ?_
                      refine zw_cv hm_71 dX6_findRoom_84 v_6_55_6 hm_103 [.inl n] [] rfl (zT_rt hS29 s_87 rfl) ⟨by omega, by omega⟩ rfl (zw_mono h (zi_go ?_ ?_))
                      · intro v32 S31 hv
                        obtain ⟨hS31, h⟩ := hv
                        refine zw_sto hm_71 dX6_findRoom_87 [(2, .inl v32), (3, .inl (mI S19 87 8)), (0, .inr (.inr (some 87))), (1, .inl n)] rfl rfl rfl ?_
                        refine zw_push hm_71 dX6_findRoom_88 (v := .inl v32) rfl ?_
                        exact zw_iret hm_71 dX6_findRoom_89 h
                      · intro x S9 hx
                        exact hx.elim
                    · intro x S9 hx
                      exact ⟨by decide, hx⟩
              · intro x S9 hx
                exact hx.elim
            · intro x S9 hx
              exact ⟨by decide, hx⟩
        · intro x S9 hx
          exact hx.elim
      · intro x S9 hx
        exact ⟨by decide, hx⟩
    · intro hc
      rw [if_neg hc] at h
      refine zw_push hm_71 dX6_findRoom_28 (v := .inr (.inr (some 87))) rfl ?_
      refine zw_cv hm_71 dX6_findRoom_29 v_6_47_6 hm_68 [] [] rfl (zT_rt hS s_87 rfl) ⟨by omega, by omega⟩ rfl (zw_mono h (zv_go ?_ ?_))
      · intro S33 hv
        obtain ⟨hS33, h⟩ := hv
        refine zw_push hm_71 dX6_findRoom_32 (v := .inr (.inr (some 87))) rfl ?_
        refine zw_push hm_71 dX6_findRoom_33 (v := .inr (.inr (some 87))) rfl ?_
        refine zw_gf hm_71 dX6_findRoom_34 (v := .inl (mI S33 87 6)) (zT_is hS33 s_87) (zT_t hS33 s_87) rfl f_6_24_6 rfl ?_
        refine zw_cv hm_71 dX6_findRoom_37 v_6_51_6 hm_72 [.inl (mI S33 87 6)] [] rfl (zT_rt hS33 s_87 rfl) ⟨by omega, by omega⟩ rfl (zw_mono h (zi_go ?_ ?_))
        · intro v36 S35 hv
          obtain ⟨hS35, h⟩ := hv
          refine zw_stk hm_71 dX6_findRoom_40 (st' := []) rfl rfl ?_
          refine zw_push hm_71 dX6_findRoom_41 (v := .inr (.inr (some 87))) rfl ?_
          refine zw_push hm_71 dX6_findRoom_42 (v := .inl n) rfl ?_
          refine zw_cv hm_71 dX6_findRoom_43 v_6_55_6 hm_103 [.inl n] [] rfl (zT_rt hS35 s_87 rfl) ⟨by omega, by omega⟩ rfl (zw_mono h (zi_go ?_ ?_))
          · intro v38 S37 hv
            obtain ⟨hS37, h⟩ := hv
            refine zw_sto hm_71 dX6_findRoom_46 [(2, .inl v38), (0, .inr (.inr (some 87))), (1, .inl n)] rfl rfl rfl ?_
            refine zw_push hm_71 dX6_findRoom_47 (v := .inr (.inr (some 87))) rfl ?_
            refine zw_gf hm_71 dX6_findRoom_48 (v := .inl (mI S37 87 8)) (zT_is hS37 s_87) (zT_t hS37 s_87) rfl f_6_31_6 rfl ?_
            refine zw_sto hm_71 dX6_findRoom_51 [(3, .inl (mI S37 87 8)), (2, .inl v38), (0, .inr (.inr (some 87))), (1, .inl n)] rfl rfl rfl ?_
            refine zw_push hm_71 dX6_findRoom_52 (v := .inl v38) rfl ?_
            refine zw_push hm_71 dX6_findRoom_53 (v := .inl (-1 : Int32)) rfl ?_
            refine zw_if2 hm_71 dX6_findRoom_54 (t := 68) rfl zc2_ne ?_ ?_
            · intro hc
              rw [if_neg hc] at h
              refine zw_push hm_71 dX6_findRoom_68 (v := .inl v38) rfl ?_
              refine zw_push hm_71 dX6_findRoom_69 (v := .inl (-1 : Int32)) rfl ?_
              refine zw_if2 hm_71 dX6_findRoom_70 (t := 88) rfl zc2_ne ?_ ?_
              · intro hc
                rw [if_neg hc] at h
                refine zw_push hm_71 dX6_findRoom_88 (v := .inl v38) rfl ?_
                exact zw_iret hm_71 dX6_findRoom_89 h
              · intro hc
                rw [if_pos (Classical.not_not.mp hc)] at h
                refine zw_push hm_71 dX6_findRoom_73 (v := .inl (mI S37 87 8)) rfl ?_
                refine zw_if0 hm_71 dX6_findRoom_74 (t := 88) rfl zc0_eq ?_ ?_
                · intro hc
                  rw [if_pos hc] at h
                  refine zw_push hm_71 dX6_findRoom_88 (v := .inl v38) rfl ?_
                  exact zw_iret hm_71 dX6_findRoom_89 h
                · intro hc
                  rw [if_neg hc] at h
                  refine zw_push hm_71 dX6_findRoom_77 (v := .inr (.inr (some 87))) rfl ?_
                  refine zw_cv hm_71 dX6_findRoom_78 v_6_58_6 hm_67 [] [] rfl (zT_rt hS37 s_87 rfl) ⟨by omega, by omega⟩ rfl (zw_mono h (zi_go ?_ ?_))
                  · intro v40 S39 hv
                    obtain ⟨hS39, h⟩ := hv
                    refine zw_stk hm_71 dX6_findRoom_81 (st' := []) rfl rfl ?_
                    refine zw_push hm_71 dX6_findRoom_82 (v := .inr (.inr (some 87))) rfl ?_
                    refine zw_push hm_71 dX6_findRoom_83 (v := .inl n) rfl ?_
                    refine zw_cv hm_71 dX6_findRoom_84 v_6_55_6 hm_103 [.inl n] [] rfl (zT_rt hS39 s_87 rfl) ⟨by omega, by omega⟩ rfl (zw_mono h (zi_go ?_ ?_))
                    · intro v42 S41 hv
                      obtain ⟨hS41, h⟩ := hv
                      refine zw_sto hm_71 dX6_findRoom_87 [(2, .inl v42), (3, .inl (mI S37 87 8)), (0, .inr (.inr (some 87))), (1, .inl n)] rfl rfl rfl ?_
                      refine zw_push hm_71 dX6_findRoom_88 (v := .inl v42) rfl ?_
                      exact zw_iret hm_71 dX6_findRoom_89 h
                    · intro x S9 hx
                      exact hx.elim
                  · intro x S9 hx
                    exact ⟨by decide, hx⟩
            · intro hc
              rw [if_pos (Classical.not_not.mp hc)] at h
              refine zw_push hm_71 dX6_findRoom_57 (v := .inr (.inr (some 87))) rfl ?_
              refine zw_cv hm_71 dX6_findRoom_58 v_6_58_6 hm_67 [] [] rfl (zT_rt hS37 s_87 rfl) ⟨by omega, by omega⟩ rfl (zw_mono h (zi_go ?_ ?_))
              · intro v44 S43 hv
                obtain ⟨hS43, h⟩ := hv
                refine zw_stk hm_71 dX6_findRoom_61 (st' := []) rfl rfl ?_
                refine zw_push hm_71 dX6_findRoom_62 (v := .inr (.inr (some 87))) rfl ?_
                refine zw_push hm_71 dX6_findRoom_63 (v := .inl n) rfl ?_
                refine zw_cv hm_71 dX6_findRoom_64 v_6_55_6 hm_103 [.inl n] [] rfl (zT_rt hS43 s_87 rfl) ⟨by omega, by omega⟩ rfl (zw_mono h (zi_go ?_ ?_))
                · intro v46 S45 hv
                  obtain ⟨hS45, h⟩ := hv
                  refine zw_sto hm_71 dX6_findRoom_67 [(2, .inl v46), (3, .inl (mI S37 87 8)), (0, .inr (.inr (some 87))), (1, .inl n)] rfl rfl rfl ?_
                  refine zw_push hm_71 dX6_findRoom_68 (v := .inl v46) rfl ?_
                  refine zw_push hm_71 dX6_findRoom_69 (v := .inl (-1 : Int32)) rfl ?_
                  refine zw_if2 hm_71 dX6_findRoom_70 (t := 88) rfl zc2_ne ?_ ?_
                  · intro hc
                    rw [if_neg hc] at h
                    refine zw_push hm_71 dX6_findRoom_88 (v := .inl v46) rfl ?_
                    exact zw_iret hm_71 dX6_findRoom_89 h
                  · intro hc
                    rw [if_pos (Classical.not_not.mp hc)] at h
                    refine zw_push hm_71 dX6_findRoom_73 (v := .inl (mI S37 87 8)) rfl ?_
                    refine zw_if0 hm_71 dX6_findRoom_74 (t := 88) rfl zc0_eq ?_ ?_
                    · intro hc
                      rw [if_pos hc] at h
                      refine zw_push hm_71 dX6_findRoom_88 (v := .inl v46) rfl ?_
                      exact zw_iret hm_71 dX6_findRoom_89 h
                    · intro hc
                      rw [if_neg hc] at h
                      refine zw_push hm_71 dX6_findRoom_77 (v := .inr (.inr (some 87))) rfl ?_
                      refine zw_cv hm_71 dX6_findRoom_78 v_6_58_6 hm_67 [] [] rfl (zT_rt hS45 s_87 rfl) ⟨by omega, by omega⟩ rfl (zw_mono h (zi_go ?_ ?_))
                      · intro v48 S47 hv
                        obtain ⟨hS47, h⟩ := hv
                        refine zw_stk hm_71 dX6_findRoom_81 (st' := []) rfl rfl ?_
                        refine zw_push hm_71 dX6_findRoom_82 (v := .inr (.inr (some 87))) rfl ?_
                        refine zw_push hm_71 dX6_findRoom_83 (v := .inl n) rfl ?_
                        refine zw_cv hm_71 dX6_findRoom_84 v_6_55_6 hm_103 [.inl n] [] rfl (zT_rt hS47 s_87 rfl) ⟨by omega, by omega⟩ rfl (zw_mono h (zi_go ?_ ?_))
                        · intro v50 S49 hv
                          obtain ⟨hS49, h⟩ := hv
                          refine zw_sto hm_71 dX6_findRoom_87 [(2, .inl v50), (3, .inl (mI S37 87 8)), (0, .inr (.inr (some 87))), (1, .inl n)] rfl rfl rfl ?_
                          refine zw_push hm_71 dX6_findRoom_88 (v := .inl v50) rfl ?_
                          exact zw_iret hm_71 dX6_findRoom_89 h
                        · intro x S9 hx
                          exact hx.elim
                      · intro x S9 hx
                        exact ⟨by decide, hx⟩
                · intro x S9 hx
                  exact hx.elim
              · intro x S9 hx
                exact ⟨by decide, hx⟩
          · intro x S9 hx
            exact hx.elim
        · intro x S9 hx
          exact ⟨by decide, hx⟩
      · intro x S9 hx
        exact ⟨by decide, hx⟩
theorem sp_71_87_t {X : Nat × (Nat → Int32)} {d w : Nat} {f : Nat → Nat → Int32} {r : Nat → Nat → Option Nat} {C Z N : Nat} {Q : Option ma_V ⊕ Nat → ma_S → Prop} {S : ma_S} (n : Int32) (hd : 5 ≤ d) (hw : 114 ≤ w) (hI : zJ87 f r C Z N S)  (K : ∀ v S', zJ87 f r C Z N S' → (-1 ≤ v.toInt ∧ v.toInt ≤ 1500) → Q (.inl (some (.inl v))) S') : ma_wp X d w 71 0 [(0, .inr (.inr (some 87))), (1, .inl n)] [] S Q := by
  refine g_71_87_t_0 n (by omega) (by omega) (zG_T hI) ?_
  have f1 := zG_s hI (0) (1) (c := 87) (k := 8) (by decide)
  have li2 : (0 : Int32).toInt = 0 := rfl
  refine zd (fun h3 => ?_) (fun h3 => ?_)
  · skip
    have g4 := i_eq h3
    have f5 := zG_s hI (0) (1500) (c := 87) (k := 0) (by decide)
    have li6 : (4 : Int32).toInt = 4 := rfl
    have b7 := i_bd (mI S 69 8)
    first | have e8 : ((mI S 87 0) - (mI S 69 8)).toInt = (mI S 87 0).toInt - (mI S 69 8).toInt := i_sub (by omega) (by omega) | have b9 := i_bd ((mI S 87 0) - (mI S 69 8))
    first | have f10 := i_muln (x := (4 : Int32)) (y := ((mI S 87 0) - (mI S 69 8))) (by omega) (by omega) (by omega) (by omega) | have b11 := i_bd ((4 : Int32) * ((mI S 87 0) - (mI S 69 8)))
    refine zd (fun h12 => ?_) (fun h12 => ?_)
    · skip
      have g13 := i_le h12
      have f14 := zG_s hI (-1) (1500) (c := 87) (k := 6) (by decide)
      refine sp_72_87 ((mI S 87 6)) (by omega) (by omega) hI  (fun v18 S17 hI_S17 hp_v18 => zi_n ⟨zG_T hI_S17, ?_⟩)
      have b15 := i_bd n
      refine sp_103_87_t (n) (by omega) (by omega) hI_S17  (fun v20 S19 hI_S19 hp_v20 => zi_n ⟨zG_T hI_S19, ?_⟩)
      have b16 := i_bd v20
      have li17 : (-1 : Int32).toInt = -1 := rfl
      refine zd (fun h18 => ?_) (fun h18 => ?_)
      · skip
        have g19 := i_eq h18
        refine sp_67_87  (by omega) (by omega) hI_S19  (fun v26 S25 hI_S25 hp_v26 => zi_n ⟨zG_T hI_S25, ?_⟩)
        refine sp_103_87_t (n) (by omega) (by omega) hI_S25  (fun v28 S27 hI_S27 hp_v28 => zi_n ⟨zG_T hI_S27, ?_⟩)
        have b20 := i_bd v28
        refine zd (fun h21 => ?_) (fun h21 => ?_)
        · skip
          have g22 := i_eq h21
          have f23 := zG_s hI_S19 (0) (1) (c := 87) (k := 8) (by decide)
          refine zd (fun h24 => ?_) (fun h24 => ?_)
          · skip
            have g25 := i_eq h24
            exact K (v28) _ hI_S27 (by omega)
          · skip
            have g26 := i_ne h24
            refine sp_67_87  (by omega) (by omega) hI_S27  (fun v30 S29 hI_S29 hp_v30 => zi_n ⟨zG_T hI_S29, ?_⟩)
            refine sp_103_87_t (n) (by omega) (by omega) hI_S29  (fun v32 S31 hI_S31 hp_v32 => zi_n ⟨zG_T hI_S31, ?_⟩)
            have b27 := i_bd v32
            exact K (v32) _ hI_S31 (by omega)
        · skip
          have g28 := i_ne h21
          exact K (v28) _ hI_S27 (by omega)
      · skip
        have g29 := i_ne h18
        refine zd (fun h30 => ?_) (fun h30 => ?_)
        · skip
          have g31 := i_eq h30
          have f32 := zG_s hI_S19 (0) (1) (c := 87) (k := 8) (by decide)
          refine zd (fun h33 => ?_) (fun h33 => ?_)
          · skip
            have g34 := i_eq h33
            exact K (v20) _ hI_S19 (by omega)
          · skip
            have g35 := i_ne h33
            refine sp_67_87  (by omega) (by omega) hI_S19  (fun v22 S21 hI_S21 hp_v22 => zi_n ⟨zG_T hI_S21, ?_⟩)
            refine sp_103_87_t (n) (by omega) (by omega) hI_S21  (fun v24 S23 hI_S23 hp_v24 => zi_n ⟨zG_T hI_S23, ?_⟩)
            have b36 := i_bd v24
            exact K (v24) _ hI_S23 (by omega)
        · skip
          have g37 := i_ne h30
          exact K (v20) _ hI_S19 (by omega)
    · skip
      have g38 := i_nle h12
      refine sp_68_87  (by omega) (by omega) hI  (fun S33 hI_S33 => zv_n ⟨zG_T hI_S33, ?_⟩)
      have f39 := zG_s hI_S33 (-1) (1500) (c := 87) (k := 6) (by decide)
      refine sp_72_87 ((mI S33 87 6)) (by omega) (by omega) hI_S33  (fun v36 S35 hI_S35 hp_v36 => zi_n ⟨zG_T hI_S35, ?_⟩)
      have b40 := i_bd n
      refine sp_103_87_t (n) (by omega) (by omega) hI_S35  (fun v38 S37 hI_S37 hp_v38 => zi_n ⟨zG_T hI_S37, ?_⟩)
      have b41 := i_bd v38
      have li42 : (-1 : Int32).toInt = -1 := rfl
      refine zd (fun h43 => ?_) (fun h43 => ?_)
      · skip
        have g44 := i_eq h43
        refine sp_67_87  (by omega) (by omega) hI_S37  (fun v44 S43 hI_S43 hp_v44 => zi_n ⟨zG_T hI_S43, ?_⟩)
        refine sp_103_87_t (n) (by omega) (by omega) hI_S43  (fun v46 S45 hI_S45 hp_v46 => zi_n ⟨zG_T hI_S45, ?_⟩)
        have b45 := i_bd v46
        refine zd (fun h46 => ?_) (fun h46 => ?_)
        · skip
          have g47 := i_eq h46
          have f48 := zG_s hI_S37 (0) (1) (c := 87) (k := 8) (by decide)
          refine zd (fun h49 => ?_) (fun h49 => ?_)
          · skip
            have g50 := i_eq h49
            exact K (v46) _ hI_S45 (by omega)
          · skip
            have g51 := i_ne h49
            refine sp_67_87  (by omega) (by omega) hI_S45  (fun v48 S47 hI_S47 hp_v48 => zi_n ⟨zG_T hI_S47, ?_⟩)
            refine sp_103_87_t (n) (by omega) (by omega) hI_S47  (fun v50 S49 hI_S49 hp_v50 => zi_n ⟨zG_T hI_S49, ?_⟩)
            have b52 := i_bd v50
            exact K (v50) _ hI_S49 (by omega)
        · skip
          have g53 := i_ne h46
          exact K (v46) _ hI_S45 (by omega)
      · skip
        have g54 := i_ne h43
        refine zd (fun h55 => ?_) (fun h55 => ?_)
        · skip
          have g56 := i_eq h55
          have f57 := zG_s hI_S37 (0) (1) (c := 87) (k := 8) (by decide)
          refine zd (fun h58 => ?_) (fun h58 => ?_)
          · skip
            have g59 := i_eq h58
            exact K (v38) _ hI_S37 (by omega)
          · skip
            have g60 := i_ne h58
            refine sp_67_87  (by omega) (by omega) hI_S37  (fun v40 S39 hI_S39 hp_v40 => zi_n ⟨zG_T hI_S39, ?_⟩)
            refine sp_103_87_t (n) (by omega) (by omega) hI_S39  (fun v42 S41 hI_S41 hp_v42 => zi_n ⟨zG_T hI_S41, ?_⟩)
            have b61 := i_bd v42
            exact K (v42) _ hI_S41 (by omega)
        · skip
          have g62 := i_ne h55
          exact K (v38) _ hI_S37 (by omega)
  · skip
    have g63 := i_ne h3
    have f64 := zG_s hI (-1) (1500) (c := 87) (k := 6) (by decide)
    refine sp_72_87 ((mI S 87 6)) (by omega) (by omega) hI  (fun v2 S1 hI_S1 hp_v2 => zi_n ⟨zG_T hI_S1, ?_⟩)
    have b65 := i_bd n
    refine sp_103_87_t (n) (by omega) (by omega) hI_S1  (fun v4 S3 hI_S3 hp_v4 => zi_n ⟨zG_T hI_S3, ?_⟩)
    have b66 := i_bd v4
    have li67 : (-1 : Int32).toInt = -1 := rfl
    refine zd (fun h68 => ?_) (fun h68 => ?_)
    · skip
      have g69 := i_eq h68
      refine sp_67_87  (by omega) (by omega) hI_S3  (fun v10 S9 hI_S9 hp_v10 => zi_n ⟨zG_T hI_S9, ?_⟩)
      refine sp_103_87_t (n) (by omega) (by omega) hI_S9  (fun v12 S11 hI_S11 hp_v12 => zi_n ⟨zG_T hI_S11, ?_⟩)
      have b70 := i_bd v12
      refine zd (fun h71 => ?_) (fun h71 => ?_)
      · skip
        have g72 := i_eq h71
        have f73 := zG_s hI_S3 (0) (1) (c := 87) (k := 8) (by decide)
        refine zd (fun h74 => ?_) (fun h74 => ?_)
        · skip
          have g75 := i_eq h74
          exact K (v12) _ hI_S11 (by omega)
        · skip
          have g76 := i_ne h74
          refine sp_67_87  (by omega) (by omega) hI_S11  (fun v14 S13 hI_S13 hp_v14 => zi_n ⟨zG_T hI_S13, ?_⟩)
          refine sp_103_87_t (n) (by omega) (by omega) hI_S13  (fun v16 S15 hI_S15 hp_v16 => zi_n ⟨zG_T hI_S15, ?_⟩)
          have b77 := i_bd v16
          exact K (v16) _ hI_S15 (by omega)
      · skip
        have g78 := i_ne h71
        exact K (v12) _ hI_S11 (by omega)
    · skip
      have g79 := i_ne h68
      refine zd (fun h80 => ?_) (fun h80 => ?_)
      · skip
        have g81 := i_eq h80
        have f82 := zG_s hI_S3 (0) (1) (c := 87) (k := 8) (by decide)
        refine zd (fun h83 => ?_) (fun h83 => ?_)
        · skip
          have g84 := i_eq h83
          exact K (v4) _ hI_S3 (by omega)
        · skip
          have g85 := i_ne h83
          refine sp_67_87  (by omega) (by omega) hI_S3  (fun v6 S5 hI_S5 hp_v6 => zi_n ⟨zG_T hI_S5, ?_⟩)
          refine sp_103_87_t (n) (by omega) (by omega) hI_S5  (fun v8 S7 hI_S7 hp_v8 => zi_n ⟨zG_T hI_S7, ?_⟩)
          have b86 := i_bd v8
          exact K (v8) _ hI_S7 (by omega)
      · skip
        have g87 := i_ne h80
        exact K (v4) _ hI_S3 (by omega)
theorem g_111_87_0 {X : Nat × (Nat → Int32)} {d w : Nat} {S : ma_S} {Q : Option ma_V ⊕ Nat → ma_S → Prop} (i : Int32) (hd : 2 ≤ d) (hw : 45 ≤ w) (hS : zT S) (h : ma_wp X (d - 1) (w - 23) 105 0 [(0, .inr (.inr (some 87))), (1, .inl (0 : Int32))] [] S (zi (fun v2 S1 => zT S1 ∧ (ma_wp X d w 111 8 [(0, .inr (.inr (some 87))), (2, .inl i), (3, .inl v2)] [] S1 Q)) (fun x S9 => Q (.inr x) S9))) : ma_wp X d w 111 0 [(0, .inr (.inr (some 87))), (1, .inl i)] [] S Q := by
  refine zw_push hm_111 dX8_blockPlace_0 (v := .inl i) rfl ?_
  refine zw_sto hm_111 dX8_blockPlace_1 [(2, .inl i), (0, .inr (.inr (some 87))), (1, .inl i)] rfl rfl rfl ?_
  refine zw_push hm_111 dX8_blockPlace_2 (v := .inr (.inr (some 87))) rfl ?_
  refine zw_push hm_111 dX8_blockPlace_3 (v := .inl (0 : Int32)) rfl ?_
  refine zw_cv hm_111 dX8_blockPlace_4 v_8_40_6 hm_105 [.inl (0 : Int32)] [] rfl (zT_rt hS s_87 rfl) ⟨by omega, by omega⟩ rfl (zw_mono h (zi_go ?_ ?_))
  · intro v2 S1 hv
    obtain ⟨hS1, h⟩ := hv
    refine zw_sto hm_111 dX8_blockPlace_7 [(3, .inl v2), (2, .inl i), (0, .inr (.inr (some 87))), (1, .inl i)] rfl rfl rfl ?_
    exact zw_sub (ma_nd_of (ks := [0, 2, 3]) rfl (by decide)) (ma_nd_of (ks := [3, 2, 0, 1]) rfl (by decide)) (ma_le_cons rfl (ma_le_cons rfl (ma_le_cons rfl (ma_le_nil _)))) h
  · intro x S9 hx
    exact ⟨by decide, hx⟩
theorem g_111_87_8 {X : Nat × (Nat → Int32)} {d w : Nat} {S : ma_S} {Q : Option ma_V ⊕ Nat → ma_S → Prop} (l2 : Int32) (l3 : Int32) (hd : 2 ≤ d) (hw : 45 ≤ w) (hS : zT S) (h : if l2 < 0 then (Q (.inl (some (.inl (-1 : Int32)))) S) else (if (mI S 87 0) ≤ l3 then (Q (.inl (some (.inl (-1 : Int32)))) S) else (if l2 = 0 then (Q (.inl (some (.inl l3))) S) else (ma_wp X (d - 1) (w - 22) 106 0 [(0, .inr (.inr (some 87))), (1, .inl l3)] [] S (zi (fun v2 S1 => zT S1 ∧ (ma_wp X (d - 1) (w - 23) 105 0 [(0, .inr (.inr (some 87))), (1, .inl v2)] [] S1 (zi (fun v4 S3 => zT S3 ∧ (ma_wp X d w 111 8 [(0, .inr (.inr (some 87))), (2, .inl (l2 + (-1 : Int32))), (3, .inl v4)] [] S3 Q)) (fun x S9 => Q (.inr x) S9)))) (fun x S9 => Q (.inr x) S9)))))) : ma_wp X d w 111 8 [(0, .inr (.inr (some 87))), (2, .inl l2), (3, .inl l3)] [] S Q := by
  refine zw_push hm_111 dX8_blockPlace_8 (v := .inl l2) rfl ?_
  refine zw_if0 hm_111 dX8_blockPlace_9 (t := 42) rfl zc0_lt ?_ ?_
  · intro hc
    rw [if_pos hc] at h
    refine zw_push hm_111 dX8_blockPlace_42 (v := .inl (-1 : Int32)) rfl ?_
    exact zw_iret hm_111 dX8_blockPlace_43 h
  · intro hc
    rw [if_neg hc] at h
    refine zw_push hm_111 dX8_blockPlace_12 (v := .inl l3) rfl ?_
    refine zw_push hm_111 dX8_blockPlace_13 (v := .inr (.inr (some 87))) rfl ?_
    refine zw_gf hm_111 dX8_blockPlace_14 (v := .inl (mI S 87 0)) (zT_is hS s_87) (zT_t hS s_87) rfl f_8_9_6 rfl ?_
    refine zw_if2 hm_111 dX8_blockPlace_17 (t := 42) rfl zc2_ge ?_ ?_
    · intro hc
      rw [if_pos hc] at h
      refine zw_push hm_111 dX8_blockPlace_42 (v := .inl (-1 : Int32)) rfl ?_
      exact zw_iret hm_111 dX8_blockPlace_43 h
    · intro hc
      rw [if_neg hc] at h
      refine zw_push hm_111 dX8_blockPlace_20 (v := .inl l2) rfl ?_
      refine zw_if0 hm_111 dX8_blockPlace_21 (t := 26) rfl zc0_ne ?_ ?_
      · intro hc
        rw [if_neg hc] at h
        refine zw_sto hm_111 dX8_blockPlace_26 [(2, .inl (l2 + (-1 : Int32))), (0, .inr (.inr (some 87))), (3, .inl l3)] rfl rfl rfl ?_
        refine zw_push hm_111 dX8_blockPlace_29 (v := .inr (.inr (some 87))) rfl ?_
        refine zw_push hm_111 dX8_blockPlace_30 (v := .inr (.inr (some 87))) rfl ?_
        refine zw_push hm_111 dX8_blockPlace_31 (v := .inl l3) rfl ?_
        refine zw_cv hm_111 dX8_blockPlace_32 v_8_43_6 hm_106 [.inl l3] [.inr (.inr (some 87))] rfl (zT_rt hS s_87 rfl) ⟨by omega, by omega⟩ rfl (zw_mono h (zi_go ?_ ?_))
        · intro v2 S1 hv
          obtain ⟨hS1, h⟩ := hv
          refine zw_cv hm_111 dX8_blockPlace_35 v_8_40_6 hm_105 [.inl v2] [] rfl (zT_rt hS1 s_87 rfl) ⟨by omega, by omega⟩ rfl (zw_mono h (zi_go ?_ ?_))
          · intro v4 S3 hv
            obtain ⟨hS3, h⟩ := hv
            refine zw_sto hm_111 dX8_blockPlace_38 [(3, .inl v4), (2, .inl (l2 + (-1 : Int32))), (0, .inr (.inr (some 87)))] rfl rfl rfl ?_
            refine zw_goto hm_111 dX8_blockPlace_39 (t := 8) rfl ?_
            exact zw_sub (ma_nd_of (ks := [0, 2, 3]) rfl (by decide)) (ma_nd_of (ks := [3, 2, 0]) rfl (by decide)) (ma_le_cons rfl (ma_le_cons rfl (ma_le_cons rfl (ma_le_nil _)))) h
          · intro x S9 hx
            exact ⟨by decide, hx⟩
        · intro x S9 hx
          exact ⟨by decide, hx⟩
      · intro hc
        rw [if_pos (Classical.not_not.mp hc)] at h
        refine zw_push hm_111 dX8_blockPlace_24 (v := .inl l3) rfl ?_
        exact zw_iret hm_111 dX8_blockPlace_25 h
theorem lp_111_87_8 {X : Nat × (Nat → Int32)} {d w : Nat} {f : Nat → Nat → Int32} {r : Nat → Nat → Option Nat} {C Z N : Nat} {Q : Option ma_V ⊕ Nat → ma_S → Prop} (hd : 2 ≤ d) (hw : 45 ≤ w) (K : ∀ v S', zJ87 f r C Z N S' → (-1 ≤ v.toInt ∧ v.toInt ≤ 1500) → Q (.inl (some (.inl v))) S') : ∀ (n : Nat) (S : ma_S) (l2 : Int32) (l3 : Int32), (l2.toInt).toNat = n → zJ87 f r C Z N S → (0 ≤ l3.toInt) → (l3.toInt ≤ 1500) → ma_wp X d w 111 8 [(0, .inr (.inr (some 87))), (2, .inl l2), (3, .inl l3)] [] S Q := by
  intro n
  induction n using Nat.strongRecOn with
  | _ n IH =>
    intro S l2 l3 hmu hI  hi0 hi1
    refine g_111_87_8 l2 l3 (by omega) (by omega) (zG_T hI) ?_
    have li1 : (0 : Int32).toInt = 0 := rfl
    refine zd (fun h2 => ?_) (fun h2 => ?_)
    · skip
      have g3 := i_lt h2
      have li4 : (-1 : Int32).toInt = -1 := rfl
      exact K ((-1 : Int32)) _ hI (by omega)
    · skip
      have g5 := i_nlt h2
      have f6 := zG_s hI (0) (1500) (c := 87) (k := 0) (by decide)
      refine zd (fun h7 => ?_) (fun h7 => ?_)
      · skip
        have g8 := i_le h7
        have li9 : (-1 : Int32).toInt = -1 := rfl
        exact K ((-1 : Int32)) _ hI (by omega)
      · skip
        have g10 := i_nle h7
        refine zd (fun h11 => ?_) (fun h11 => ?_)
        · skip
          have g12 := i_eq h11
          exact K (l3) _ hI (by omega)
        · skip
          have g13 := i_ne h11
          refine sp_106_87 (l3) (by omega) (by omega) hI (by omega) (by omega) (fun v2 S1 hI_S1 hp_v2 => zi_n ⟨zG_T hI_S1, ?_⟩)
          refine sp_105_87 (v2) (by omega) (by omega) hI_S1 (by omega) (fun v4 S3 hI_S3 hp_v4 => zi_n ⟨zG_T hI_S3, ?_⟩)
          first | have e14 : (l2 + (-1 : Int32)).toInt = l2.toInt + (-1) := i_addk rfl (by omega) (by omega) | have b15 := i_bd (l2 + (-1 : Int32))
          exact IH _ (by exact mu_dec hmu (by assumption) (by omega)) _ ((l2 + (-1 : Int32))) (v4) rfl hI_S3 (by omega) (by omega)
theorem sp_111_87 {X : Nat × (Nat → Int32)} {d w : Nat} {f : Nat → Nat → Int32} {r : Nat → Nat → Option Nat} {C Z N : Nat} {Q : Option ma_V ⊕ Nat → ma_S → Prop} {S : ma_S} (i : Int32) (hd : 2 ≤ d) (hw : 45 ≤ w) (hI : zJ87 f r C Z N S)  (K : ∀ v S', zJ87 f r C Z N S' → (-1 ≤ v.toInt ∧ v.toInt ≤ 1500) → Q (.inl (some (.inl v))) S') : ma_wp X d w 111 0 [(0, .inr (.inr (some 87))), (1, .inl i)] [] S Q := by
  refine g_111_87_0 i (by omega) (by omega) (zG_T hI) ?_
  have li1 : (0 : Int32).toInt = 0 := rfl
  refine sp_105_87 ((0 : Int32)) (by omega) (by omega) hI (by omega) (fun v2 S1 hI_S1 hp_v2 => zi_n ⟨zG_T hI_S1, ?_⟩)
  exact lp_111_87_8 (by omega) (by omega) K _ _ (i) (v2) rfl hI_S1 (by omega) (by omega)
theorem g_61_80_t_0 {X : Nat × (Nat → Int32)} {d w : Nat} {S : ma_S} {Q : Option ma_V ⊕ Nat → ma_S → Prop} (n : Int32) (hd : 5 ≤ d) (hw : 159 ≤ w) (hS : zT S) (h : if ((mI S 80 3) + n) ≤ (mI S 80 2) then (if ((mI S 80 3) + n) ≤ (mI S 80 2) then (Q (.inl (some (.inl (mI S 80 3)))) S) else (Q (.inl (some (.inl (-1 : Int32)))) S)) else (ma_wp X (d - 1) (w - 21) 62 0 [(0, .inr (.inr (some 80)))] [] S (zi (fun v2 S1 => zT S1 ∧ (if ((mI S1 80 3) + n) ≤ (mI S1 80 2) then (Q (.inl (some (.inl (mI S1 80 3)))) S1) else (Q (.inl (some (.inl (-1 : Int32)))) S1))) (fun x S9 => Q (.inr x) S9)))) : ma_wp X d w 61 0 [(0, .inr (.inr (some 80))), (1, .inl n)] [] S Q := by
  refine zw_push hm_61 dX5_findRoom_0 (v := .inr (.inr (some 80))) rfl ?_
  refine zw_gf hm_61 dX5_findRoom_1 (v := .inl (mI S 80 3)) (zT_is hS s_80) (zT_t hS s_80) rfl f_5_15_5 rfl ?_
  refine zw_push hm_61 dX5_findRoom_4 (v := .inl n) rfl ?_
  refine zw_stk hm_61 dX5_findRoom_5 (st' := [.inl ((mI S 80 3) + n)]) rfl rfl ?_
  refine zw_push hm_61 dX5_findRoom_6 (v := .inr (.inr (some 80))) rfl ?_
  refine zw_gf hm_61 dX5_findRoom_7 (v := .inl (mI S 80 2)) (zT_is hS s_80) (zT_t hS s_80) rfl f_5_9_5 rfl ?_
  refine zw_if2 hm_61 dX5_findRoom_10 (t := 18) rfl zc2_le ?_ ?_
  · intro hc
    rw [if_pos hc] at h
    refine zw_push hm_61 dX5_findRoom_18 (v := .inr (.inr (some 80))) rfl ?_
    refine zw_gf hm_61 dX5_findRoom_19 (v := .inl (mI S 80 3)) (zT_is hS s_80) (zT_t hS s_80) rfl f_5_15_5 rfl ?_
    refine zw_push hm_61 dX5_findRoom_22 (v := .inl n) rfl ?_
    refine zw_stk hm_61 dX5_findRoom_23 (st' := [.inl ((mI S 80 3) + n)]) rfl rfl ?_
    refine zw_push hm_61 dX5_findRoom_24 (v := .inr (.inr (some 80))) rfl ?_
    refine zw_gf hm_61 dX5_findRoom_25 (v := .inl (mI S 80 2)) (zT_is hS s_80) (zT_t hS s_80) rfl f_5_9_5 rfl ?_
    refine zw_if2 hm_61 dX5_findRoom_28 (t := 35) rfl zc2_le ?_ ?_
    · intro hc
      rw [if_pos hc] at h
      refine zw_push hm_61 dX5_findRoom_35 (v := .inr (.inr (some 80))) rfl ?_
      refine zw_gf hm_61 dX5_findRoom_36 (v := .inl (mI S 80 3)) (zT_is hS s_80) (zT_t hS s_80) rfl f_5_15_5 rfl ?_
      exact zw_iret hm_61 dX5_findRoom_39 h
    · intro hc
      rw [if_neg hc] at h
      refine zw_push hm_61 dX5_findRoom_31 (v := .inl (-1 : Int32)) rfl ?_
      refine zw_goto hm_61 dX5_findRoom_32 (t := 39) rfl ?_
      exact zw_iret hm_61 dX5_findRoom_39 h
  · intro hc
    rw [if_neg hc] at h
    refine zw_push hm_61 dX5_findRoom_13 (v := .inr (.inr (some 80))) rfl ?_
    refine zw_cv hm_61 dX5_findRoom_14 v_5_18_5 hm_62 [] [] rfl (zT_rt hS s_80 rfl) ⟨by omega, by omega⟩ rfl (zw_mono h (zi_go ?_ ?_))
    · intro v2 S1 hv
      obtain ⟨hS1, h⟩ := hv
      refine zw_stk hm_61 dX5_findRoom_17 (st' := []) rfl rfl ?_
      refine zw_push hm_61 dX5_findRoom_18 (v := .inr (.inr (some 80))) rfl ?_
      refine zw_gf hm_61 dX5_findRoom_19 (v := .inl (mI S1 80 3)) (zT_is hS1 s_80) (zT_t hS1 s_80) rfl f_5_15_5 rfl ?_
      refine zw_push hm_61 dX5_findRoom_22 (v := .inl n) rfl ?_
      refine zw_stk hm_61 dX5_findRoom_23 (st' := [.inl ((mI S1 80 3) + n)]) rfl rfl ?_
      refine zw_push hm_61 dX5_findRoom_24 (v := .inr (.inr (some 80))) rfl ?_
      refine zw_gf hm_61 dX5_findRoom_25 (v := .inl (mI S1 80 2)) (zT_is hS1 s_80) (zT_t hS1 s_80) rfl f_5_9_5 rfl ?_
      refine zw_if2 hm_61 dX5_findRoom_28 (t := 35) rfl zc2_le ?_ ?_
      · intro hc
        rw [if_pos hc] at h
        refine zw_push hm_61 dX5_findRoom_35 (v := .inr (.inr (some 80))) rfl ?_
        refine zw_gf hm_61 dX5_findRoom_36 (v := .inl (mI S1 80 3)) (zT_is hS1 s_80) (zT_t hS1 s_80) rfl f_5_15_5 rfl ?_
        exact zw_iret hm_61 dX5_findRoom_39 h
      · intro hc
        rw [if_neg hc] at h
        refine zw_push hm_61 dX5_findRoom_31 (v := .inl (-1 : Int32)) rfl ?_
        refine zw_goto hm_61 dX5_findRoom_32 (t := 39) rfl ?_
        exact zw_iret hm_61 dX5_findRoom_39 h
    · intro x S9 hx
      exact ⟨by decide, hx⟩
theorem sp_61_80_t {X : Nat × (Nat → Int32)} {d w : Nat} {f : Nat → Nat → Int32} {r : Nat → Nat → Option Nat} {C Z N : Nat} {Q : Option ma_V ⊕ Nat → ma_S → Prop} {S : ma_S} (n : Int32) (hd : 5 ≤ d) (hw : 159 ≤ w) (hI : zJ80 f r C Z N S) (hpre0 : 1 ≤ n.toInt) (hpre1 : n.toInt ≤ 61) (K : ∀ v S', zJ80 f r C Z N S' → (-1 ≤ v.toInt ∧ v.toInt ≤ 1500) → Q (.inl (some (.inl v))) S') : ma_wp X d w 61 0 [(0, .inr (.inr (some 80))), (1, .inl n)] [] S Q := by
  refine g_61_80_t_0 n (by omega) (by omega) (zG_T hI) ?_
  have f1 := zG_s hI (0) (400000) (c := 80) (k := 3) (by decide)
  have b2 := i_bd n
  first | have e3 : ((mI S 80 3) + n).toInt = (mI S 80 3).toInt + n.toInt := i_add (by omega) (by omega) | have b4 := i_bd ((mI S 80 3) + n)
  have f5 := zG_s hI (0) (1500) (c := 80) (k := 2) (by decide)
  refine zd (fun h6 => ?_) (fun h6 => ?_)
  · skip
    have g7 := i_le h6
    refine zd (fun h8 => ?_) (fun h8 => ?_)
    · skip
      have g9 := i_le h8
      exact K ((mI S 80 3)) _ hI (by omega)
    · skip
      have g10 := i_nle h8
      have li11 : (-1 : Int32).toInt = -1 := rfl
      exact K ((-1 : Int32)) _ hI (by omega)
  · skip
    have g12 := i_nle h6
    refine sp_62_80  (by omega) (by omega) hI  (fun v2 S1 hI_S1 hp_v2 => zi_n ⟨zG_T hI_S1, ?_⟩)
    have f13 := zG_s hI_S1 (0) (400000) (c := 80) (k := 3) (by decide)
    first | have e14 : ((mI S1 80 3) + n).toInt = (mI S1 80 3).toInt + n.toInt := i_add (by omega) (by omega) | have b15 := i_bd ((mI S1 80 3) + n)
    have f16 := zG_s hI_S1 (0) (1500) (c := 80) (k := 2) (by decide)
    refine zd (fun h17 => ?_) (fun h17 => ?_)
    · skip
      have g18 := i_le h17
      exact K ((mI S1 80 3)) _ hI_S1 (by omega)
    · skip
      have g19 := i_nle h17
      have li20 : (-1 : Int32).toInt = -1 := rfl
      exact K ((-1 : Int32)) _ hI_S1 (by omega)
