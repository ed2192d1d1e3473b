/-! from 95.g21 -/
/-! the heap by numbers, the class (written by wip/tools/gen18.py) -/
theorem g_71_87_s_0 {X : Nat × (Nat → Int32)} {d w : Nat} {S : ma_S} {Q : Option ma_V ⊕ Nat → ma_S → Prop} (z : Int32) (hd : 5 ≤ d) (hw : 114 ≤ w) (hS : zT S) (h : if (mI S 87 8) = 0 then (if (mI S 87 0) ≤ ((4 : Int32) * ((mI S 87 0) - (mI S 69 8))) then (ma_wp X (d - 1) (w - 22) 72 0 [(0, .inr (.inr (some 87))), (1, .inl (mI S 87 6))] [] S (zi (fun v18 S17 => zT S17 ∧ (ma_wp X (d - 1) (w - 21) 103 0 [(0, .inr (.inr (some 87))), (1, .inl z)] [] S17 (zi (fun v20 S19 => zT S19 ∧ (if v20 = (-1 : Int32) then (ma_wp X (d - 1) (w - 21) 67 0 [(0, .inr (.inr (some 87)))] [] S19 (zi (fun v26 S25 => zT S25 ∧ (ma_wp X (d - 1) (w - 21) 103 0 [(0, .inr (.inr (some 87))), (1, .inl z)] [] S25 (zi (fun v28 S27 => zT S27 ∧ (if v28 = (-1 : Int32) then (if (mI S19 87 8) = 0 then (Q (.inl (some (.inl v28))) S27) else (ma_wp X (d - 1) (w - 21) 67 0 [(0, .inr (.inr (some 87)))] [] S27 (zi (fun v30 S29 => zT S29 ∧ (ma_wp X (d - 1) (w - 21) 103 0 [(0, .inr (.inr (some 87))), (1, .inl z)] [] S29 (zi (fun v32 S31 => zT S31 ∧ (Q (.inl (some (.inl v32))) S31)) (fun _ _ => False)))) (fun x S9 => Q (.inr x) S9)))) else (Q (.inl (some (.inl v28))) S27))) (fun _ _ => False)))) (fun x S9 => Q (.inr x) S9))) else (if v20 = (-1 : Int32) then (if (mI S19 87 8) = 0 then (Q (.inl (some (.inl v20))) S19) else (ma_wp X (d - 1) (w - 21) 67 0 [(0, .inr (.inr (some 87)))] [] S19 (zi (fun v22 S21 => zT S21 ∧ (ma_wp X (d - 1) (w - 21) 103 0 [(0, .inr (.inr (some 87))), (1, .inl z)] [] S21 (zi (fun v24 S23 => zT S23 ∧ (Q (.inl (some (.inl v24))) S23)) (fun _ _ => False)))) (fun x S9 => Q (.inr x) S9)))) else (Q (.inl (some (.inl v20))) S19)))) (fun _ _ => False)))) (fun x S9 => Q (.inr x) S9))) else (ma_wp X (d - 1) (w - 20) 68 0 [(0, .inr (.inr (some 87)))] [] S (zv (fun S33 => zT S33 ∧ (ma_wp X (d - 1) (w - 22) 72 0 [(0, .inr (.inr (some 87))), (1, .inl (mI S33 87 6))] [] S33 (zi (fun v36 S35 => zT S35 ∧ (ma_wp X (d - 1) (w - 21) 103 0 [(0, .inr (.inr (some 87))), (1, .inl z)] [] S35 (zi (fun v38 S37 => zT S37 ∧ (if v38 = (-1 : Int32) then (ma_wp X (d - 1) (w - 21) 67 0 [(0, .inr (.inr (some 87)))] [] S37 (zi (fun v44 S43 => zT S43 ∧ (ma_wp X (d - 1) (w - 21) 103 0 [(0, .inr (.inr (some 87))), (1, .inl z)] [] S43 (zi (fun v46 S45 => zT S45 ∧ (if v46 = (-1 : Int32) then (if (mI S37 87 8) = 0 then (Q (.inl (some (.inl v46))) S45) else (ma_wp X (d - 1) (w - 21) 67 0 [(0, .inr (.inr (some 87)))] [] S45 (zi (fun v48 S47 => zT S47 ∧ (ma_wp X (d - 1) (w - 21) 103 0 [(0, .inr (.inr (some 87))), (1, .inl z)] [] S47 (zi (fun v50 S49 => zT S49 ∧ (Q (.inl (some (.inl v50))) S49)) (fun _ _ => False)))) (fun x S9 => Q (.inr x) S9)))) else (Q (.inl (some (.inl v46))) S45))) (fun _ _ => False)))) (fun x S9 => Q (.inr x) S9))) else (if v38 = (-1 : Int32) then (if (mI S37 87 8) = 0 then (Q (.inl (some (.inl v38))) S37) else (ma_wp X (d - 1) (w - 21) 67 0 [(0, .inr (.inr (some 87)))] [] S37 (zi (fun v40 S39 => zT S39 ∧ (ma_wp X (d - 1) (w - 21) 103 0 [(0, .inr (.inr (some 87))), (1, .inl z)] [] S39 (zi (fun v42 S41 => zT S41 ∧ (Q (.inl (some (.inl v42))) S41)) (fun _ _ => False)))) (fun x S9 => Q (.inr x) S9)))) else (Q (.inl (some (.inl v38))) S37)))) (fun _ _ => False)))) (fun x S9 => Q (.inr x) S9)))) (fun x S9 => Q (.inr x) S9)))) else (ma_wp X (d - 1) (w - 22) 72 0 [(0, .inr (.inr (some 87))), (1, .inl (mI S 87 6))] [] S (zi (fun v2 S1 => zT S1 ∧ (ma_wp X (d - 1) (w - 21) 103 0 [(0, .inr (.inr (some 87))), (1, .inl z)] [] S1 (zi (fun v4 S3 => zT S3 ∧ (if v4 = (-1 : Int32) then (ma_wp X (d - 1) (w - 21) 67 0 [(0, .inr (.inr (some 87)))] [] S3 (zi (fun v10 S9 => zT S9 ∧ (ma_wp X (d - 1) (w - 21) 103 0 [(0, .inr (.inr (some 87))), (1, .inl z)] [] S9 (zi (fun v12 S11 => zT S11 ∧ (if v12 = (-1 : Int32) then (if (mI S3 87 8) = 0 then (Q (.inl (some (.inl v12))) S11) else (ma_wp X (d - 1) (w - 21) 67 0 [(0, .inr (.inr (some 87)))] [] S11 (zi (fun v14 S13 => zT S13 ∧ (ma_wp X (d - 1) (w - 21) 103 0 [(0, .inr (.inr (some 87))), (1, .inl z)] [] S13 (zi (fun v16 S15 => zT S15 ∧ (Q (.inl (some (.inl v16))) S15)) (fun _ _ => False)))) (fun x S9 => Q (.inr x) S9)))) else (Q (.inl (some (.inl v12))) S11))) (fun _ _ => False)))) (fun x S9 => Q (.inr x) S9))) else (if v4 = (-1 : Int32) then (if (mI S3 87 8) = 0 then (Q (.inl (some (.inl v4))) S3) else (ma_wp X (d - 1) (w - 21) 67 0 [(0, .inr (.inr (some 87)))] [] S3 (zi (fun v6 S5 => zT S5 ∧ (ma_wp X (d - 1) (w - 21) 103 0 [(0, .inr (.inr (some 87))), (1, .inl z)] [] S5 (zi (fun v8 S7 => zT S7 ∧ (Q (.inl (some (.inl v8))) S7)) (fun _ _ => False)))) (fun x S9 => Q (.inr x) S9)))) else (Q (.inl (some (.inl v4))) S3)))) (fun _ _ => False)))) (fun x S9 => Q (.inr x) S9)))) : ma_wp X d w 71 0 [(0, .inr (.inr (some 87))), (1, .inl z)] [] S Q := by
  refine zw_push hm_71 dX6_findRoom_0 (v := .inr (.inr (some 87))) rfl ?_
  refine zw_gf hm_71 dX6_findRoom_1 (v := .inl (mI S 87 8)) (zT_is hS s_87) (zT_t hS s_87) rfl f_6_31_6 rfl ?_
  refine zw_if0 hm_71 dX6_findRoom_4 (t := 32) rfl zc0_ne ?_ ?_
  · intro hc
    rw [if_neg hc] at h
    refine zw_push hm_71 dX6_findRoom_32 (v := .inr (.inr (some 87))) rfl ?_
    refine zw_push hm_71 dX6_findRoom_33 (v := .inr (.inr (some 87))) rfl ?_
    refine zw_gf hm_71 dX6_findRoom_34 (v := .inl (mI S 87 6)) (zT_is hS s_87) (zT_t hS s_87) rfl f_6_24_6 rfl ?_
    refine zw_cv hm_71 dX6_findRoom_37 v_6_51_6 hm_72 [.inl (mI S 87 6)] [] rfl (zT_rt hS s_87 rfl) ⟨by omega, by omega⟩ rfl (zw_mono h (zi_go ?_ ?_))
    · intro v2 S1 hv
      obtain ⟨hS1, h⟩ := hv
      refine zw_stk hm_71 dX6_findRoom_40 (st₉ := []) rfl rfl ?_
      refine zw_push hm_71 dX6_findRoom_41 (v := .inr (.inr (some 87))) rfl ?_
      refine zw_push hm_71 dX6_findRoom_42 (v := .inl z) rfl ?_
      refine zw_cv hm_71 dX6_findRoom_43 v_6_55_6 hm_103 [.inl z] [] rfl (zT_rt hS1 s_87 rfl) ⟨by omega, by omega⟩ rfl (zw_mono h (zi_go ?_ ?_))
      · intro v4 S3 hv
        obtain ⟨hS3, h⟩ := hv
        refine zw_sto hm_71 dX6_findRoom_46 [(2, .inl v4), (0, .inr (.inr (some 87))), (1, .inl z)] rfl rfl rfl ?_
        refine zw_push hm_71 dX6_findRoom_47 (v := .inr (.inr (some 87))) rfl ?_
        refine zw_gf hm_71 dX6_findRoom_48 (v := .inl (mI S3 87 8)) (zT_is hS3 s_87) (zT_t hS3 s_87) rfl f_6_31_6 rfl ?_
        refine zw_sto hm_71 dX6_findRoom_51 [(3, .inl (mI S3 87 8)), (2, .inl v4), (0, .inr (.inr (some 87))), (1, .inl z)] rfl rfl rfl ?_
        refine zw_push hm_71 dX6_findRoom_52 (v := .inl v4) rfl ?_
        refine zw_push hm_71 dX6_findRoom_53 (v := .inl (-1 : Int32)) rfl ?_
        refine zw_if2 hm_71 dX6_findRoom_54 (t := 68) rfl zc2_ne ?_ ?_
        · intro hc
          rw [if_neg hc] at h
          refine zw_push hm_71 dX6_findRoom_68 (v := .inl v4) rfl ?_
          refine zw_push hm_71 dX6_findRoom_69 (v := .inl (-1 : Int32)) rfl ?_
          refine zw_if2 hm_71 dX6_findRoom_70 (t := 88) rfl zc2_ne ?_ ?_
          · intro hc
            rw [if_neg hc] at h
            refine zw_push hm_71 dX6_findRoom_88 (v := .inl v4) rfl ?_
            exact zw_iret hm_71 dX6_findRoom_89 h
          · intro hc
            rw [if_pos (Classical.not_not.mp hc)] at h
            refine zw_push hm_71 dX6_findRoom_73 (v := .inl (mI S3 87 8)) rfl ?_
            refine zw_if0 hm_71 dX6_findRoom_74 (t := 88) rfl zc0_eq ?_ ?_
            · intro hc
              rw [if_pos hc] at h
              refine zw_push hm_71 dX6_findRoom_88 (v := .inl v4) rfl ?_
              exact zw_iret hm_71 dX6_findRoom_89 h
            · intro hc
              rw [if_neg hc] at h
              refine zw_push hm_71 dX6_findRoom_77 (v := .inr (.inr (some 87))) rfl ?_
              refine zw_cv hm_71 dX6_findRoom_78 v_6_58_6 hm_67 [] [] rfl (zT_rt hS3 s_87 rfl) ⟨by omega, by omega⟩ rfl (zw_mono h (zi_go ?_ ?_))
              · intro v6 S5 hv
                obtain ⟨hS5, h⟩ := hv
                refine zw_stk hm_71 dX6_findRoom_81 (st₉ := []) rfl rfl ?_
                refine zw_push hm_71 dX6_findRoom_82 (v := .inr (.inr (some 87))) rfl ?_
                refine zw_push hm_71 dX6_findRoom_83 (v := .inl z) rfl ?_
                refine zw_cv hm_71 dX6_findRoom_84 v_6_55_6 hm_103 [.inl z] [] rfl (zT_rt hS5 s_87 rfl) ⟨by omega, by omega⟩ rfl (zw_mono h (zi_go ?_ ?_))
                · intro v8 S7 hv
                  obtain ⟨hS7, h⟩ := hv
                  refine zw_sto hm_71 dX6_findRoom_87 [(2, .inl v8), (3, .inl (mI S3 87 8)), (0, .inr (.inr (some 87))), (1, .inl z)] rfl rfl rfl ?_
                  refine zw_push hm_71 dX6_findRoom_88 (v := .inl v8) rfl ?_
                  exact zw_iret hm_71 dX6_findRoom_89 h
                · intro x S9 hx
                  exact hx.elim
              · intro x S9 hx
                exact ⟨by decide, hx⟩
        · intro hc
          rw [if_pos (Classical.not_not.mp hc)] at h
          refine zw_push hm_71 dX6_findRoom_57 (v := .inr (.inr (some 87))) rfl ?_
          refine zw_cv hm_71 dX6_findRoom_58 v_6_58_6 hm_67 [] [] rfl (zT_rt hS3 s_87 rfl) ⟨by omega, by omega⟩ rfl (zw_mono h (zi_go ?_ ?_))
          · intro v10 S9 hv
            obtain ⟨hS9, h⟩ := hv
            refine zw_stk hm_71 dX6_findRoom_61 (st₉ := []) rfl rfl ?_
            refine zw_push hm_71 dX6_findRoom_62 (v := .inr (.inr (some 87))) rfl ?_
            refine zw_push hm_71 dX6_findRoom_63 (v := .inl z) rfl ?_
            refine zw_cv hm_71 dX6_findRoom_64 v_6_55_6 hm_103 [.inl z] [] rfl (zT_rt hS9 s_87 rfl) ⟨by omega, by omega⟩ rfl (zw_mono h (zi_go ?_ ?_))
            · intro v12 S11 hv
              obtain ⟨hS11, h⟩ := hv
              refine zw_sto hm_71 dX6_findRoom_67 [(2, .inl v12), (3, .inl (mI S3 87 8)), (0, .inr (.inr (some 87))), (1, .inl z)] rfl rfl rfl ?_
              refine zw_push hm_71 dX6_findRoom_68 (v := .inl v12) rfl ?_
              refine zw_push hm_71 dX6_findRoom_69 (v := .inl (-1 : Int32)) rfl ?_
              refine zw_if2 hm_71 dX6_findRoom_70 (t := 88) rfl zc2_ne ?_ ?_
              · intro hc
                rw [if_neg hc] at h
                refine zw_push hm_71 dX6_findRoom_88 (v := .inl v12) rfl ?_
                exact zw_iret hm_71 dX6_findRoom_89 h
              · intro hc
                rw [if_pos (Classical.not_not.mp hc)] at h
                refine zw_push hm_71 dX6_findRoom_73 (v := .inl (mI S3 87 8)) rfl ?_
                refine zw_if0 hm_71 dX6_findRoom_74 (t := 88) rfl zc0_eq ?_ ?_
                · intro hc
                  rw [if_pos hc] at h
                  refine zw_push hm_71 dX6_findRoom_88 (v := .inl v12) rfl ?_
                  exact zw_iret hm_71 dX6_findRoom_89 h
                · intro hc
                  rw [if_neg hc] at h
                  refine zw_push hm_71 dX6_findRoom_77 (v := .inr (.inr (some 87))) rfl ?_
                  refine zw_cv hm_71 dX6_findRoom_78 v_6_58_6 hm_67 [] [] rfl (zT_rt hS11 s_87 rfl) ⟨by omega, by omega⟩ rfl (zw_mono h (zi_go ?_ ?_))
                  · intro v14 S13 hv
                    obtain ⟨hS13, h⟩ := hv
                    refine zw_stk hm_71 dX6_findRoom_81 (st₉ := []) rfl rfl ?_
                    refine zw_push hm_71 dX6_findRoom_82 (v := .inr (.inr (some 87))) rfl ?_
                    refine zw_push hm_71 dX6_findRoom_83 (v := .inl z) rfl ?_
                    refine zw_cv hm_71 dX6_findRoom_84 v_6_55_6 hm_103 [.inl z] [] rfl (zT_rt hS13 s_87 rfl) ⟨by omega, by omega⟩ rfl (zw_mono h (zi_go ?_ ?_))
                    · intro v16 S15 hv
                      obtain ⟨hS15, h⟩ := hv
                      refine zw_sto hm_71 dX6_findRoom_87 [(2, .inl v16), (3, .inl (mI S3 87 8)), (0, .inr (.inr (some 87))), (1, .inl z)] rfl rfl rfl ?_
                      refine zw_push hm_71 dX6_findRoom_88 (v := .inl v16) rfl ?_
                      exact zw_iret hm_71 dX6_findRoom_89 h
                    · intro x S9 hx
                      exact hx.elim
                  · intro x S9 hx
                    exact ⟨by decide, hx⟩
            · intro x S9 hx
              exact hx.elim
          · intro x S9 hx
            exact ⟨by decide, hx⟩
      · intro x S9 hx
        exact hx.elim
    · intro x S9 hx
      exact ⟨by decide, hx⟩
  · intro hc
    rw [if_pos (Classical.not_not.mp hc)] at h
    refine zw_push hm_71 dX6_findRoom_7 (v := .inl (4 : Int32)) rfl ?_
    refine zw_push hm_71 dX6_findRoom_8 (v := .inr (.inr (some 87))) rfl ?_
    refine zw_gf hm_71 dX6_findRoom_9 (v := .inl (mI S 87 0)) (zT_is hS s_87) (zT_t hS s_87) rfl f_6_35_6 rfl ?_
    refine zw_push hm_71 dX6_findRoom_12 (v := .inr (.inr (some 87))) rfl ?_
    refine zw_gf hm_71 dX6_findRoom_13 (v := .inr (.inr (some 69))) (zT_is hS s_87) (zT_t hS s_87) rfl f_6_38_6 (zT_f hS r_87_3) ?_
    refine zw_gf hm_71 dX6_findRoom_16 (v := .inl (mI S 69 8)) (zT_is hS s_69) (zT_t hS s_69) rfl f_6_42_7 rfl ?_
    refine zw_stk hm_71 dX6_findRoom_19 (st₉ := [.inl ((mI S 87 0) - (mI S 69 8)), .inl (4 : Int32)]) rfl rfl ?_
    refine zw_stk hm_71 dX6_findRoom_20 (st₉ := [.inl ((4 : Int32) * ((mI S 87 0) - (mI S 69 8)))]) rfl rfl ?_
    refine zw_push hm_71 dX6_findRoom_21 (v := .inr (.inr (some 87))) rfl ?_
    refine zw_gf hm_71 dX6_findRoom_22 (v := .inl (mI S 87 0)) (zT_is hS s_87) (zT_t hS s_87) rfl f_6_35_6 rfl ?_
    refine zw_if2 hm_71 dX6_findRoom_25 (t := 32) rfl zc2_ge ?_ ?_
    · intro hc
      rw [if_pos hc] at h
      refine zw_push hm_71 dX6_findRoom_32 (v := .inr (.inr (some 87))) rfl ?_
      refine zw_push hm_71 dX6_findRoom_33 (v := .inr (.inr (some 87))) rfl ?_
      refine zw_gf hm_71 dX6_findRoom_34 (v := .inl (mI S 87 6)) (zT_is hS s_87) (zT_t hS s_87) rfl f_6_24_6 rfl ?_
      refine zw_cv hm_71 dX6_findRoom_37 v_6_51_6 hm_72 [.inl (mI S 87 6)] [] rfl (zT_rt hS s_87 rfl) ⟨by omega, by omega⟩ rfl (zw_mono h (zi_go ?_ ?_))
      · intro v18 S17 hv
        obtain ⟨hS17, h⟩ := hv
        refine zw_stk hm_71 dX6_findRoom_40 (st₉ := []) rfl rfl ?_
        refine zw_push hm_71 dX6_findRoom_41 (v := .inr (.inr (some 87))) rfl ?_
        refine zw_push hm_71 dX6_findRoom_42 (v := .inl z) rfl ?_
        refine zw_cv hm_71 dX6_findRoom_43 v_6_55_6 hm_103 [.inl z] [] rfl (zT_rt hS17 s_87 rfl) ⟨by omega, by omega⟩ rfl (zw_mono h (zi_go ?_ ?_))
        · intro v20 S19 hv
          obtain ⟨hS19, h⟩ := hv
          refine zw_sto hm_71 dX6_findRoom_46 [(2, .inl v20), (0, .inr (.inr (some 87))), (1, .inl z)] rfl rfl rfl ?_
          refine zw_push hm_71 dX6_findRoom_47 (v := .inr (.inr (some 87))) rfl ?_
          refine zw_gf hm_71 dX6_findRoom_48 (v := .inl (mI S19 87 8)) (zT_is hS19 s_87) (zT_t hS19 s_87) rfl f_6_31_6 rfl ?_
          refine zw_sto hm_71 dX6_findRoom_51 [(3, .inl (mI S19 87 8)), (2, .inl v20), (0, .inr (.inr (some 87))), (1, .inl z)] rfl rfl rfl ?_
          refine zw_push hm_71 dX6_findRoom_52 (v := .inl v20) rfl ?_
          refine zw_push hm_71 dX6_findRoom_53 (v := .inl (-1 : Int32)) rfl ?_
          refine zw_if2 hm_71 dX6_findRoom_54 (t := 68) rfl zc2_ne ?_ ?_
          · intro hc
            rw [if_neg hc] at h
            refine zw_push hm_71 dX6_findRoom_68 (v := .inl v20) rfl ?_
            refine zw_push hm_71 dX6_findRoom_69 (v := .inl (-1 : Int32)) rfl ?_
            refine zw_if2 hm_71 dX6_findRoom_70 (t := 88) rfl zc2_ne ?_ ?_
            · intro hc
              rw [if_neg hc] at h
              refine zw_push hm_71 dX6_findRoom_88 (v := .inl v20) rfl ?_
              exact zw_iret hm_71 dX6_findRoom_89 h
            · intro hc
              rw [if_pos (Classical.not_not.mp hc)] at h
              refine zw_push hm_71 dX6_findRoom_73 (v := .inl (mI S19 87 8)) rfl ?_
              refine zw_if0 hm_71 dX6_findRoom_74 (t := 88) rfl zc0_eq ?_ ?_
              · intro hc
                rw [if_pos hc] at h
                refine zw_push hm_71 dX6_findRoom_88 (v := .inl v20) rfl ?_
                exact zw_iret hm_71 dX6_findRoom_89 h
              · intro hc
                rw [if_neg hc] at h
                refine zw_push hm_71 dX6_findRoom_77 (v := .inr (.inr (some 87))) rfl ?_
                refine zw_cv hm_71 dX6_findRoom_78 v_6_58_6 hm_67 [] [] rfl (zT_rt hS19 s_87 rfl) ⟨by omega, by omega⟩ rfl (zw_mono h (zi_go ?_ ?_))
                · intro v22 S21 hv
                  obtain ⟨hS21, h⟩ := hv
                  refine zw_stk hm_71 dX6_findRoom_81 (st₉ := []) rfl rfl ?_
                  refine zw_push hm_71 dX6_findRoom_82 (v := .inr (.inr (some 87))) rfl ?_
                  refine zw_push hm_71 dX6_findRoom_83 (v := .inl z) rfl ?_
                  refine zw_cv hm_71 dX6_findRoom_84 v_6_55_6 hm_103 [.inl z] [] rfl (zT_rt hS21 s_87 rfl) ⟨by omega, by omega⟩ rfl (zw_mono h (zi_go ?_ ?_))
                  · intro v24 S23 hv
                    obtain ⟨hS23, h⟩ := hv
                    refine zw_sto hm_71 dX6_findRoom_87 [(2, .inl v24), (3, .inl (mI S19 87 8)), (0, .inr (.inr (some 87))), (1, .inl z)] rfl rfl rfl ?_
                    refine zw_push hm_71 dX6_findRoom_88 (v := .inl v24) rfl ?_
                    exact zw_iret hm_71 dX6_findRoom_89 h
                  · intro x S9 hx
                    exact hx.elim
                · intro x S9 hx
                  exact ⟨by decide, hx⟩
          · intro hc
            rw [if_pos (Classical.not_not.mp hc)] at h
            refine zw_push hm_71 dX6_findRoom_57 (v := .inr (.inr (some 87))) rfl ?_
            refine zw_cv hm_71 dX6_findRoom_58 v_6_58_6 hm_67 [] [] rfl (zT_rt hS19 s_87 rfl) ⟨by omega, by omega⟩ rfl (zw_mono h (zi_go ?_ ?_))
            · intro v26 S25 hv
              obtain ⟨hS25, h⟩ := hv
              refine zw_stk hm_71 dX6_findRoom_61 (st₉ := []) rfl rfl ?_
              refine zw_push hm_71 dX6_findRoom_62 (v := .inr (.inr (some 87))) rfl ?_
              refine zw_push hm_71 dX6_findRoom_63 (v := .inl z) rfl ?_
              refine zw_cv hm_71 dX6_findRoom_64 v_6_55_6 hm_103 [.inl z] [] rfl (zT_rt hS25 s_87 rfl) ⟨by omega, by omega⟩ rfl (zw_mono h (zi_go ?_ ?_))
              · intro v28 S27 hv
                obtain ⟨hS27, h⟩ := hv
                refine zw_sto hm_71 dX6_findRoom_67 [(2, .inl v28), (3, .inl (mI S19 87 8)), (0, .inr (.inr (some 87))), (1, .inl z)] rfl rfl rfl ?_
                refine zw_push hm_71 dX6_findRoom_68 (v := .inl v28) rfl ?_
                refine zw_push hm_71 dX6_findRoom_69 (v := .inl (-1 : Int32)) rfl ?_
                refine zw_if2 hm_71 dX6_findRoom_70 (t := 88) rfl zc2_ne ?_ ?_
                · intro hc
                  rw [if_neg hc] at h
                  refine zw_push hm_71 dX6_findRoom_88 (v := .inl v28) rfl ?_
                  exact zw_iret hm_71 dX6_findRoom_89 h
                · intro hc
                  rw [if_pos (Classical.not_not.mp hc)] at h
                  refine zw_push hm_71 dX6_findRoom_73 (v := .inl (mI S19 87 8)) rfl ?_
                  refine zw_if0 hm_71 dX6_findRoom_74 (t := 88) rfl zc0_eq ?_ ?_
                  · intro hc
                    rw [if_pos hc] at h
                    refine zw_push hm_71 dX6_findRoom_88 (v := .inl v28) rfl ?_
                    exact zw_iret hm_71 dX6_findRoom_89 h
                  · intro hc
                    rw [if_neg hc] at h
                    refine zw_push hm_71 dX6_findRoom_77 (v := .inr (.inr (some 87))) rfl ?_
                    refine zw_cv hm_71 dX6_findRoom_78 v_6_58_6 hm_67 [] [] rfl (zT_rt hS27 s_87 rfl) ⟨by omega, by omega⟩ rfl (zw_mono h (zi_go ?_ ?_))
                    · intro v30 S29 hv
                      obtain ⟨hS29, h⟩ := hv
                      refine zw_stk hm_71 dX6_findRoom_81 (st₉ := []) rfl rfl ?_
                      refine zw_push hm_71 dX6_findRoom_82 (v := .inr (.inr (some 87))) rfl ?_
                      refine zw_push hm_71 dX6_findRoom_83 (v := .inl z) rfl ?_
                      refine zw_cv hm_71 dX6_findRoom_84 v_6_55_6 hm_103 [.inl z] [] rfl (zT_rt hS29 s_87 rfl) ⟨by omega, by omega⟩ rfl (zw_mono h (zi_go ?_ ?_))
                      · intro v32 S31 hv
                        obtain ⟨hS31, h⟩ := hv
                        refine zw_sto hm_71 dX6_findRoom_87 [(2, .inl v32), (3, .inl (mI S19 87 8)), (0, .inr (.inr (some 87))), (1, .inl z)] rfl rfl rfl ?_
                        refine zw_push hm_71 dX6_findRoom_88 (v := .inl v32) rfl ?_
                        exact zw_iret hm_71 dX6_findRoom_89 h
                      · intro x S9 hx
                        exact hx.elim
                    · intro x S9 hx
                      exact ⟨by decide, hx⟩
              · intro x S9 hx
                exact hx.elim
            · intro x S9 hx
              exact ⟨by decide, hx⟩
        · intro x S9 hx
          exact hx.elim
      · intro x S9 hx
        exact ⟨by decide, hx⟩
    · intro hc
      rw [if_neg hc] at h
      refine zw_push hm_71 dX6_findRoom_28 (v := .inr (.inr (some 87))) rfl ?_
      refine zw_cv hm_71 dX6_findRoom_29 v_6_47_6 hm_68 [] [] rfl (zT_rt hS s_87 rfl) ⟨by omega, by omega⟩ rfl (zw_mono h (zv_go ?_ ?_))
      · intro S33 hv
        obtain ⟨hS33, h⟩ := hv
        refine zw_push hm_71 dX6_findRoom_32 (v := .inr (.inr (some 87))) rfl ?_
        refine zw_push hm_71 dX6_findRoom_33 (v := .inr (.inr (some 87))) rfl ?_
        refine zw_gf hm_71 dX6_findRoom_34 (v := .inl (mI S33 87 6)) (zT_is hS33 s_87) (zT_t hS33 s_87) rfl f_6_24_6 rfl ?_
        refine zw_cv hm_71 dX6_findRoom_37 v_6_51_6 hm_72 [.inl (mI S33 87 6)] [] rfl (zT_rt hS33 s_87 rfl) ⟨by omega, by omega⟩ rfl (zw_mono h (zi_go ?_ ?_))
        · intro v36 S35 hv
          obtain ⟨hS35, h⟩ := hv
          refine zw_stk hm_71 dX6_findRoom_40 (st₉ := []) rfl rfl ?_
          refine zw_push hm_71 dX6_findRoom_41 (v := .inr (.inr (some 87))) rfl ?_
          refine zw_push hm_71 dX6_findRoom_42 (v := .inl z) rfl ?_
          refine zw_cv hm_71 dX6_findRoom_43 v_6_55_6 hm_103 [.inl z] [] rfl (zT_rt hS35 s_87 rfl) ⟨by omega, by omega⟩ rfl (zw_mono h (zi_go ?_ ?_))
          · intro v38 S37 hv
            obtain ⟨hS37, h⟩ := hv
            refine zw_sto hm_71 dX6_findRoom_46 [(2, .inl v38), (0, .inr (.inr (some 87))), (1, .inl z)] rfl rfl rfl ?_
            refine zw_push hm_71 dX6_findRoom_47 (v := .inr (.inr (some 87))) rfl ?_
            refine zw_gf hm_71 dX6_findRoom_48 (v := .inl (mI S37 87 8)) (zT_is hS37 s_87) (zT_t hS37 s_87) rfl f_6_31_6 rfl ?_
            refine zw_sto hm_71 dX6_findRoom_51 [(3, .inl (mI S37 87 8)), (2, .inl v38), (0, .inr (.inr (some 87))), (1, .inl z)] rfl rfl rfl ?_
            refine zw_push hm_71 dX6_findRoom_52 (v := .inl v38) rfl ?_
            refine zw_push hm_71 dX6_findRoom_53 (v := .inl (-1 : Int32)) rfl ?_
            refine zw_if2 hm_71 dX6_findRoom_54 (t := 68) rfl zc2_ne ?_ ?_
            · intro hc
              rw [if_neg hc] at h
              refine zw_push hm_71 dX6_findRoom_68 (v := .inl v38) rfl ?_
              refine zw_push hm_71 dX6_findRoom_69 (v := .inl (-1 : Int32)) rfl ?_
              refine zw_if2 hm_71 dX6_findRoom_70 (t := 88) rfl zc2_ne ?_ ?_
              · intro hc
                rw [if_neg hc] at h
                refine zw_push hm_71 dX6_findRoom_88 (v := .inl v38) rfl ?_
                exact zw_iret hm_71 dX6_findRoom_89 h
              · intro hc
                rw [if_pos (Classical.not_not.mp hc)] at h
                refine zw_push hm_71 dX6_findRoom_73 (v := .inl (mI S37 87 8)) rfl ?_
                refine zw_if0 hm_71 dX6_findRoom_74 (t := 88) rfl zc0_eq ?_ ?_
                · intro hc
                  rw [if_pos hc] at h
                  refine zw_push hm_71 dX6_findRoom_88 (v := .inl v38) rfl ?_
                  exact zw_iret hm_71 dX6_findRoom_89 h
                · intro hc
                  rw [if_neg hc] at h
                  refine zw_push hm_71 dX6_findRoom_77 (v := .inr (.inr (some 87))) rfl ?_
                  refine zw_cv hm_71 dX6_findRoom_78 v_6_58_6 hm_67 [] [] rfl (zT_rt hS37 s_87 rfl) ⟨by omega, by omega⟩ rfl (zw_mono h (zi_go ?_ ?_))
                  · intro v40 S39 hv
                    obtain ⟨hS39, h⟩ := hv
                    refine zw_stk hm_71 dX6_findRoom_81 (st₉ := []) rfl rfl ?_
                    refine zw_push hm_71 dX6_findRoom_82 (v := .inr (.inr (some 87))) rfl ?_
                    refine zw_push hm_71 dX6_findRoom_83 (v := .inl z) rfl ?_
                    refine zw_cv hm_71 dX6_findRoom_84 v_6_55_6 hm_103 [.inl z] [] rfl (zT_rt hS39 s_87 rfl) ⟨by omega, by omega⟩ rfl (zw_mono h (zi_go ?_ ?_))
                    · intro v42 S41 hv
                      obtain ⟨hS41, h⟩ := hv
                      refine zw_sto hm_71 dX6_findRoom_87 [(2, .inl v42), (3, .inl (mI S37 87 8)), (0, .inr (.inr (some 87))), (1, .inl z)] rfl rfl rfl ?_
                      refine zw_push hm_71 dX6_findRoom_88 (v := .inl v42) rfl ?_
                      exact zw_iret hm_71 dX6_findRoom_89 h
                    · intro x S9 hx
                      exact hx.elim
                  · intro x S9 hx
                    exact ⟨by decide, hx⟩
            · intro hc
              rw [if_pos (Classical.not_not.mp hc)] at h
              refine zw_push hm_71 dX6_findRoom_57 (v := .inr (.inr (some 87))) rfl ?_
              refine zw_cv hm_71 dX6_findRoom_58 v_6_58_6 hm_67 [] [] rfl (zT_rt hS37 s_87 rfl) ⟨by omega, by omega⟩ rfl (zw_mono h (zi_go ?_ ?_))
              · intro v44 S43 hv
                obtain ⟨hS43, h⟩ := hv
                refine zw_stk hm_71 dX6_findRoom_61 (st₉ := []) rfl rfl ?_
                refine zw_push hm_71 dX6_findRoom_62 (v := .inr (.inr (some 87))) rfl ?_
                refine zw_push hm_71 dX6_findRoom_63 (v := .inl z) rfl ?_
                refine zw_cv hm_71 dX6_findRoom_64 v_6_55_6 hm_103 [.inl z] [] rfl (zT_rt hS43 s_87 rfl) ⟨by omega, by omega⟩ rfl (zw_mono h (zi_go ?_ ?_))
                · intro v46 S45 hv
                  obtain ⟨hS45, h⟩ := hv
                  refine zw_sto hm_71 dX6_findRoom_67 [(2, .inl v46), (3, .inl (mI S37 87 8)), (0, .inr (.inr (some 87))), (1, .inl z)] rfl rfl rfl ?_
                  refine zw_push hm_71 dX6_findRoom_68 (v := .inl v46) rfl ?_
                  refine zw_push hm_71 dX6_findRoom_69 (v := .inl (-1 : Int32)) rfl ?_
                  refine zw_if2 hm_71 dX6_findRoom_70 (t := 88) rfl zc2_ne ?_ ?_
                  · intro hc
                    rw [if_neg hc] at h
                    refine zw_push hm_71 dX6_findRoom_88 (v := .inl v46) rfl ?_
                    exact zw_iret hm_71 dX6_findRoom_89 h
                  · intro hc
                    rw [if_pos (Classical.not_not.mp hc)] at h
                    refine zw_push hm_71 dX6_findRoom_73 (v := .inl (mI S37 87 8)) rfl ?_
                    refine zw_if0 hm_71 dX6_findRoom_74 (t := 88) rfl zc0_eq ?_ ?_
                    · intro hc
                      rw [if_pos hc] at h
                      refine zw_push hm_71 dX6_findRoom_88 (v := .inl v46) rfl ?_
                      exact zw_iret hm_71 dX6_findRoom_89 h
                    · intro hc
                      rw [if_neg hc] at h
                      refine zw_push hm_71 dX6_findRoom_77 (v := .inr (.inr (some 87))) rfl ?_
                      refine zw_cv hm_71 dX6_findRoom_78 v_6_58_6 hm_67 [] [] rfl (zT_rt hS45 s_87 rfl) ⟨by omega, by omega⟩ rfl (zw_mono h (zi_go ?_ ?_))
                      · intro v48 S47 hv
                        obtain ⟨hS47, h⟩ := hv
                        refine zw_stk hm_71 dX6_findRoom_81 (st₉ := []) rfl rfl ?_
                        refine zw_push hm_71 dX6_findRoom_82 (v := .inr (.inr (some 87))) rfl ?_
                        refine zw_push hm_71 dX6_findRoom_83 (v := .inl z) rfl ?_
                        refine zw_cv hm_71 dX6_findRoom_84 v_6_55_6 hm_103 [.inl z] [] rfl (zT_rt hS47 s_87 rfl) ⟨by omega, by omega⟩ rfl (zw_mono h (zi_go ?_ ?_))
                        · intro v50 S49 hv
                          obtain ⟨hS49, h⟩ := hv
                          refine zw_sto hm_71 dX6_findRoom_87 [(2, .inl v50), (3, .inl (mI S37 87 8)), (0, .inr (.inr (some 87))), (1, .inl z)] rfl rfl rfl ?_
                          refine zw_push hm_71 dX6_findRoom_88 (v := .inl v50) rfl ?_
                          exact zw_iret hm_71 dX6_findRoom_89 h
                        · intro x S9 hx
                          exact hx.elim
                      · intro x S9 hx
                        exact ⟨by decide, hx⟩
                · intro x S9 hx
                  exact hx.elim
              · intro x S9 hx
                exact ⟨by decide, hx⟩
          · intro x S9 hx
            exact hx.elim
        · intro x S9 hx
          exact ⟨by decide, hx⟩
      · intro x S9 hx
        exact ⟨by decide, hx⟩
theorem sp_71_87_s {X : Nat × (Nat → Int32)} {d w : Nat} {f : Nat → Nat → Int32} {r : Nat → Nat → Option Nat} {C Z N : Nat} {Q : Option ma_V ⊕ Nat → ma_S → Prop} {ab : Nat→Nat→Int32} {S : ma_S} (z : Int32) (hd : 5 ≤ d) (hw : 114 ≤ w) (hI : zJ87 f r C Z N S) (hpre0 : xB S (mR S 70)) (hpre1 : aS 88 S = ab) (hpre2 : 0 ≤ (ab 87 6).toInt) (K : ∀ v S₉, zJ87 f r C Z N S₉ → (-1 ≤ v.toInt ∧ v.toInt ≤ 1500) → (xB S₉ (mR S₉ 70)) → (aS 88 S₉ = aRs ab z.toInt ∧ v.toInt = aRp ab z.toInt) → Q (.inl (some (.inl v))) S₉) : ma_wp X d w 71 0 [(0, .inr (.inr (some 87))), (1, .inl z)] [] S Q := by
  refine g_71_87_s_0 z (by omega) (by omega) (zG_T hI) ?_
  have f1 := zG_s hI (0) (1) (c := 87) (k := 8) (by decide)
  have li2 : (0 : Int32).toInt = 0 := rfl
  refine zd (fun h3 => ?_) (fun h3 => ?_)
  · skip
    have g4 := i_eq h3
    have f5 := zG_s hI (0) (1500) (c := 87) (k := 0) (by decide)
    have li6 : (4 : Int32).toInt = 4 := rfl
    have b7 := i_bd (mI S 69 8)
    first | have e8 : ((mI S 87 0) - (mI S 69 8)).toInt = (mI S 87 0).toInt - (mI S 69 8).toInt := i_sub (by omega) (by omega) | have b9 := i_bd ((mI S 87 0) - (mI S 69 8))
    first | have f10 := i_muln (x := (4 : Int32)) (y := ((mI S 87 0) - (mI S 69 8))) (by omega) (by omega) (by omega) (by omega) | have b11 := i_bd ((4 : Int32) * ((mI S 87 0) - (mI S 69 8)))
    refine zd (fun h12 => ?_) (fun h12 => ?_)
    · skip
      have g13 := i_le h12
      have f14 := zG_s hI (-1) (1500) (c := 87) (k := 6) (by decide)
      refine sp_72_87_s (ab := (aS 88 S)) ((mI S 87 6)) (by omega) (by omega) hI (show xB S (mR S 70) from by first | (exact xB_x (xC_o (W := 75) hpre0).2)) (show aS 88 S = (aS 88 S) from by first | (exact rfl)) (show 0 ≤ (mI S 87 6).toInt from by first | (rw [show mI S 87 6 = ab 87 6 from (aS_I (W := 88) (S := S) (c := 87) (c₉ := 87) (k := 6) rfl rfl).symm.trans (congrFun (congrFun hpre1 87) 6)]; exact hpre2)) (fun v18 S17 hI_S17 hp_v18 rp0_S17 rp1_S17 => zi_n ⟨zG_T hI_S17, ?_⟩)
      have rp0_S17 : xB S17 (mR S17 70) := rp0_S17
      have rp1_S17 : aS 88 S17 = aGo (aS 88 S) (mI S 87 6).toInt.toNat ∧ v18.toInt = aGv (aS 88 S) (mI S 87 6).toInt.toNat := rp1_S17
      have b15 := i_bd z
      refine sp_103_87_s (ab := (aS 88 S17)) (z) (by omega) (by omega) hI_S17 (show xB S17 (mR S17 70) from by first | (exact xB_x (xC_o (W := 75) rp0_S17).2)) (show aS 88 S17 = (aS 88 S17) from by first | (exact rfl)) (fun v20 S19 hI_S19 hp_v20 rp0_S19 rp1_S19 rp2_S19 => zi_n ⟨zG_T hI_S19, ?_⟩)
      have rp0_S19 : xB S19 (mR S19 70) := rp0_S19
      have rp1_S19 : aS 88 S19 = (aS 88 S17) := rp1_S19
      have rp2_S19 : v20.toInt = aFt (aS 88 S17) z.toInt := rp2_S19
      have b16 := i_bd v20
      have li17 : (-1 : Int32).toInt = -1 := rfl
      refine zd (fun h18 => ?_) (fun h18 => ?_)
      · skip
        have g19 := i_eq h18
        refine sp_67_87_s (ab := (aS 88 S19)) (by omega) (by omega) hI_S19 (show xB S19 (mR S19 70) from by first | (exact xB_x (xC_o (W := 75) rp0_S19).2)) (show aS 88 S19 = (aS 88 S19) from by first | (exact rfl)) (fun v26 S25 hI_S25 hp_v26 rp0_S25 rp1_S25 => zi_n ⟨zG_T hI_S25, ?_⟩)
        have rp0_S25 : xB S25 (mR S25 70) := rp0_S25
        have rp1_S25 : aS 88 S25 = aCl (aS 88 S19) ∧ v26 = aFv (aC1 (aS 88 S19)) := rp1_S25
        refine sp_103_87_s (ab := (aS 88 S25)) (z) (by omega) (by omega) hI_S25 (show xB S25 (mR S25 70) from by first | (exact xB_x (xC_o (W := 75) rp0_S25).2)) (show aS 88 S25 = (aS 88 S25) from by first | (exact rfl)) (fun v28 S27 hI_S27 hp_v28 rp0_S27 rp1_S27 rp2_S27 => zi_n ⟨zG_T hI_S27, ?_⟩)
        have rp0_S27 : xB S27 (mR S27 70) := rp0_S27
        have rp1_S27 : aS 88 S27 = (aS 88 S25) := rp1_S27
        have rp2_S27 : v28.toInt = aFt (aS 88 S25) z.toInt := rp2_S27
        have b20 := i_bd v28
        refine zd (fun h21 => ?_) (fun h21 => ?_)
        · skip
          have g22 := i_eq h21
          have f23 := zG_s hI_S19 (0) (1) (c := 87) (k := 8) (by decide)
          refine zd (fun h24 => ?_) (fun h24 => ?_)
          · skip
            have g25 := i_eq h24
            exact K (v28) _ hI_S27 (by omega) (show xB S27 (mR S27 70) from by first | (exact xB_x (xC_o (W := 75) rp0_S27).2)) (show aS 88 S27 = aRs ab z.toInt ∧ v28.toInt = aRp ab z.toInt from by first | (have k0 : aS 88 S = aF0 ab := hpre1.trans (aF0_n (fun w => by rw [← hpre1, (aS_I (W := 88) (S := S) (c := 87) (c₉ := 87) (k := 8) rfl rfl), (aS_I (W := 88) (S := S) (c := 87) (c₉ := 87) (k := 0) rfl rfl), (aS_I (W := 88) (S := S) (c := 69) (c₉ := 69) (k := 8) rfl rfl)] at w; first | exact absurd w.1 (by assumption) | (have w2 := i_lt w.2; omega))).symm; have k6 : mI S 87 6 = ab 87 6 := (aS_I (W := 88) (S := S) (c := 87) (c₉ := 87) (k := 6) rfl rfl).symm.trans (congrFun (congrFun hpre1 87) 6); have k1 : aS 88 S17 = aF1 ab := (by have q := rp1_S17.1; rw [k0, k6] at q; exact q); have k2 : aS 88 S19 = aF1 ab := rp1_S19.trans k1; have v2 := rp2_S19; rw [← rp1_S19] at v2; have k3 : aS 88 S27 = aCl (aS 88 S19) := rp1_S27.trans rp1_S25.1; have v4 := rp2_S27; rw [← rp1_S27] at v4; have E := aRs_2 (z := z.toInt) k2 (by omega) k3 (by first | exact Or.inl (by omega) | exact Or.inr ((aS_I (W := 88) (S := S19) (c := 87) (c₉ := 87) (k := 8) rfl rfl).trans (by assumption))); refine ⟨E.symm, ?_⟩; unfold aRp; rw [E]; assumption))
          · skip
            have g26 := i_ne h24
            refine sp_67_87_s (ab := (aS 88 S27)) (by omega) (by omega) hI_S27 (show xB S27 (mR S27 70) from by first | (exact xB_x (xC_o (W := 75) rp0_S27).2)) (show aS 88 S27 = (aS 88 S27) from by first | (exact rfl)) (fun v30 S29 hI_S29 hp_v30 rp0_S29 rp1_S29 => zi_n ⟨zG_T hI_S29, ?_⟩)
            have rp0_S29 : xB S29 (mR S29 70) := rp0_S29
            have rp1_S29 : aS 88 S29 = aCl (aS 88 S27) ∧ v30 = aFv (aC1 (aS 88 S27)) := rp1_S29
            refine sp_103_87_s (ab := (aS 88 S29)) (z) (by omega) (by omega) hI_S29 (show xB S29 (mR S29 70) from by first | (exact xB_x (xC_o (W := 75) rp0_S29).2)) (show aS 88 S29 = (aS 88 S29) from by first | (exact rfl)) (fun v32 S31 hI_S31 hp_v32 rp0_S31 rp1_S31 rp2_S31 => zi_n ⟨zG_T hI_S31, ?_⟩)
            have rp0_S31 : xB S31 (mR S31 70) := rp0_S31
            have rp1_S31 : aS 88 S31 = (aS 88 S29) := rp1_S31
            have rp2_S31 : v32.toInt = aFt (aS 88 S29) z.toInt := rp2_S31
            have b27 := i_bd v32
            exact K (v32) _ hI_S31 (by omega) (show xB S31 (mR S31 70) from by first | (exact xB_x (xC_o (W := 75) rp0_S31).2)) (show aS 88 S31 = aRs ab z.toInt ∧ v32.toInt = aRp ab z.toInt from by first | (have k0 : aS 88 S = aF0 ab := hpre1.trans (aF0_n (fun w => by rw [← hpre1, (aS_I (W := 88) (S := S) (c := 87) (c₉ := 87) (k := 8) rfl rfl), (aS_I (W := 88) (S := S) (c := 87) (c₉ := 87) (k := 0) rfl rfl), (aS_I (W := 88) (S := S) (c := 69) (c₉ := 69) (k := 8) rfl rfl)] at w; first | exact absurd w.1 (by assumption) | (have w2 := i_lt w.2; omega))).symm; have k6 : mI S 87 6 = ab 87 6 := (aS_I (W := 88) (S := S) (c := 87) (c₉ := 87) (k := 6) rfl rfl).symm.trans (congrFun (congrFun hpre1 87) 6); have k1 : aS 88 S17 = aF1 ab := (by have q := rp1_S17.1; rw [k0, k6] at q; exact q); have k2 : aS 88 S19 = aF1 ab := rp1_S19.trans k1; have v2 := rp2_S19; rw [← rp1_S19] at v2; have k3 : aS 88 S27 = aCl (aS 88 S19) := rp1_S27.trans rp1_S25.1; have v4 := rp2_S27; rw [← rp1_S27] at v4; have k5 : aS 88 S31 = aCl (aS 88 S27) := rp1_S31.trans rp1_S29.1; have v6 := rp2_S31; rw [← rp1_S31] at v6; have E := aRs_3 (z := z.toInt) k2 (by omega) k3 (by omega) (fun w => by rw [(aS_I (W := 88) (S := S19) (c := 87) (c₉ := 87) (k := 8) rfl rfl)] at w; exact absurd w (by assumption)) k5; refine ⟨E.symm, ?_⟩; unfold aRp; rw [E]; assumption))
        · skip
          have g28 := i_ne h21
          exact K (v28) _ hI_S27 (by omega) (show xB S27 (mR S27 70) from by first | (exact xB_x (xC_o (W := 75) rp0_S27).2)) (show aS 88 S27 = aRs ab z.toInt ∧ v28.toInt = aRp ab z.toInt from by first | (have k0 : aS 88 S = aF0 ab := hpre1.trans (aF0_n (fun w => by rw [← hpre1, (aS_I (W := 88) (S := S) (c := 87) (c₉ := 87) (k := 8) rfl rfl), (aS_I (W := 88) (S := S) (c := 87) (c₉ := 87) (k := 0) rfl rfl), (aS_I (W := 88) (S := S) (c := 69) (c₉ := 69) (k := 8) rfl rfl)] at w; first | exact absurd w.1 (by assumption) | (have w2 := i_lt w.2; omega))).symm; have k6 : mI S 87 6 = ab 87 6 := (aS_I (W := 88) (S := S) (c := 87) (c₉ := 87) (k := 6) rfl rfl).symm.trans (congrFun (congrFun hpre1 87) 6); have k1 : aS 88 S17 = aF1 ab := (by have q := rp1_S17.1; rw [k0, k6] at q; exact q); have k2 : aS 88 S19 = aF1 ab := rp1_S19.trans k1; have v2 := rp2_S19; rw [← rp1_S19] at v2; have k3 : aS 88 S27 = aCl (aS 88 S19) := rp1_S27.trans rp1_S25.1; have v4 := rp2_S27; rw [← rp1_S27] at v4; have E := aRs_2 (z := z.toInt) k2 (by omega) k3 (by first | exact Or.inl (by omega) | exact Or.inr ((aS_I (W := 88) (S := S19) (c := 87) (c₉ := 87) (k := 8) rfl rfl).trans (by assumption))); refine ⟨E.symm, ?_⟩; unfold aRp; rw [E]; assumption))
      · skip
        have g29 := i_ne h18
        refine zd (fun h30 => ?_) (fun h30 => ?_)
        · skip
          have g31 := i_eq h30
          have f32 := zG_s hI_S19 (0) (1) (c := 87) (k := 8) (by decide)
          refine zd (fun h33 => ?_) (fun h33 => ?_)
          · skip
            have g34 := i_eq h33
            exact K (v20) _ hI_S19 (by omega) (show xB S19 (mR S19 70) from by first | (exact xB_x (xC_o (W := 75) rp0_S19).2)) (show aS 88 S19 = aRs ab z.toInt ∧ v20.toInt = aRp ab z.toInt from by first | (have k0 : aS 88 S = aF0 ab := hpre1.trans (aF0_n (fun w => by rw [← hpre1, (aS_I (W := 88) (S := S) (c := 87) (c₉ := 87) (k := 8) rfl rfl), (aS_I (W := 88) (S := S) (c := 87) (c₉ := 87) (k := 0) rfl rfl), (aS_I (W := 88) (S := S) (c := 69) (c₉ := 69) (k := 8) rfl rfl)] at w; first | exact absurd w.1 (by assumption) | (have w2 := i_lt w.2; omega))).symm; have k6 : mI S 87 6 = ab 87 6 := (aS_I (W := 88) (S := S) (c := 87) (c₉ := 87) (k := 6) rfl rfl).symm.trans (congrFun (congrFun hpre1 87) 6); have k1 : aS 88 S17 = aF1 ab := (by have q := rp1_S17.1; rw [k0, k6] at q; exact q); have k2 : aS 88 S19 = aF1 ab := rp1_S19.trans k1; have v2 := rp2_S19; rw [← rp1_S19] at v2; have E := aRs_1 (z := z.toInt) k2 (by omega); refine ⟨E.symm, ?_⟩; unfold aRp; rw [E]; assumption))
          · skip
            have g35 := i_ne h33
            refine sp_67_87_s (ab := (aS 88 S19)) (by omega) (by omega) hI_S19 (show xB S19 (mR S19 70) from by first | (exact xB_x (xC_o (W := 75) rp0_S19).2)) (show aS 88 S19 = (aS 88 S19) from by first | (exact rfl)) (fun v22 S21 hI_S21 hp_v22 rp0_S21 rp1_S21 => zi_n ⟨zG_T hI_S21, ?_⟩)
            have rp0_S21 : xB S21 (mR S21 70) := rp0_S21
            have rp1_S21 : aS 88 S21 = aCl (aS 88 S19) ∧ v22 = aFv (aC1 (aS 88 S19)) := rp1_S21
            refine sp_103_87_s (ab := (aS 88 S21)) (z) (by omega) (by omega) hI_S21 (show xB S21 (mR S21 70) from by first | (exact xB_x (xC_o (W := 75) rp0_S21).2)) (show aS 88 S21 = (aS 88 S21) from by first | (exact rfl)) (fun v24 S23 hI_S23 hp_v24 rp0_S23 rp1_S23 rp2_S23 => zi_n ⟨zG_T hI_S23, ?_⟩)
            have rp0_S23 : xB S23 (mR S23 70) := rp0_S23
            have rp1_S23 : aS 88 S23 = (aS 88 S21) := rp1_S23
            have rp2_S23 : v24.toInt = aFt (aS 88 S21) z.toInt := rp2_S23
            have b36 := i_bd v24
            exact K (v24) _ hI_S23 (by omega) (show xB S23 (mR S23 70) from by first | (exact xB_x (xC_o (W := 75) rp0_S23).2)) (show aS 88 S23 = aRs ab z.toInt ∧ v24.toInt = aRp ab z.toInt from by first | (have k0 : aS 88 S = aF0 ab := hpre1.trans (aF0_n (fun w => by rw [← hpre1, (aS_I (W := 88) (S := S) (c := 87) (c₉ := 87) (k := 8) rfl rfl), (aS_I (W := 88) (S := S) (c := 87) (c₉ := 87) (k := 0) rfl rfl), (aS_I (W := 88) (S := S) (c := 69) (c₉ := 69) (k := 8) rfl rfl)] at w; first | exact absurd w.1 (by assumption) | (have w2 := i_lt w.2; omega))).symm; have k6 : mI S 87 6 = ab 87 6 := (aS_I (W := 88) (S := S) (c := 87) (c₉ := 87) (k := 6) rfl rfl).symm.trans (congrFun (congrFun hpre1 87) 6); have k1 : aS 88 S17 = aF1 ab := (by have q := rp1_S17.1; rw [k0, k6] at q; exact q); have k2 : aS 88 S19 = aF1 ab := rp1_S19.trans k1; have v2 := rp2_S19; rw [← rp1_S19] at v2; have k3 : aS 88 S23 = aCl (aS 88 S19) := rp1_S23.trans rp1_S21.1; have v4 := rp2_S23; rw [← rp1_S23] at v4; have E := aRs_2 (z := z.toInt) k2 (by omega) k3 (by first | exact Or.inl (by omega) | exact Or.inr ((aS_I (W := 88) (S := S19) (c := 87) (c₉ := 87) (k := 8) rfl rfl).trans (by assumption))); refine ⟨E.symm, ?_⟩; unfold aRp; rw [E]; assumption))
        · skip
          have g37 := i_ne h30
          exact K (v20) _ hI_S19 (by omega) (show xB S19 (mR S19 70) from by first | (exact xB_x (xC_o (W := 75) rp0_S19).2)) (show aS 88 S19 = aRs ab z.toInt ∧ v20.toInt = aRp ab z.toInt from by first | (have k0 : aS 88 S = aF0 ab := hpre1.trans (aF0_n (fun w => by rw [← hpre1, (aS_I (W := 88) (S := S) (c := 87) (c₉ := 87) (k := 8) rfl rfl), (aS_I (W := 88) (S := S) (c := 87) (c₉ := 87) (k := 0) rfl rfl), (aS_I (W := 88) (S := S) (c := 69) (c₉ := 69) (k := 8) rfl rfl)] at w; first | exact absurd w.1 (by assumption) | (have w2 := i_lt w.2; omega))).symm; have k6 : mI S 87 6 = ab 87 6 := (aS_I (W := 88) (S := S) (c := 87) (c₉ := 87) (k := 6) rfl rfl).symm.trans (congrFun (congrFun hpre1 87) 6); have k1 : aS 88 S17 = aF1 ab := (by have q := rp1_S17.1; rw [k0, k6] at q; exact q); have k2 : aS 88 S19 = aF1 ab := rp1_S19.trans k1; have v2 := rp2_S19; rw [← rp1_S19] at v2; have E := aRs_1 (z := z.toInt) k2 (by omega); refine ⟨E.symm, ?_⟩; unfold aRp; rw [E]; assumption))
    · skip
      have g38 := i_nle h12
      refine sp_68_87_s (ab := (aS 88 S)) (by omega) (by omega) hI (show xB S (mR S 70) from by first | (exact xB_x (xC_o (W := 75) hpre0).2)) (show aS 88 S = (aS 88 S) from by first | (exact rfl)) (fun S33 hI_S33 rp0_S33 rp1_S33 => zv_n ⟨zG_T hI_S33, ?_⟩)
      have rp0_S33 : xB S33 (mR S33 70) := rp0_S33
      have rp1_S33 : aS 88 S33 = aB0 (aS 88 S) := rp1_S33
      have f39 := zG_s hI_S33 (-1) (1500) (c := 87) (k := 6) (by decide)
      refine sp_72_87_s (ab := (aS 88 S33)) ((mI S33 87 6)) (by omega) (by omega) hI_S33 (show xB S33 (mR S33 70) from by first | (exact xB_x (xC_o (W := 75) rp0_S33).2)) (show aS 88 S33 = (aS 88 S33) from by first | (exact rfl)) (show 0 ≤ (mI S33 87 6).toInt from by first | (rw [show mI S33 87 6 = ab 87 6 from (aS_I (W := 88) (S := S33) (c := 87) (c₉ := 87) (k := 6) rfl rfl).symm.trans ((congrFun (congrFun rp1_S33 87) 6).trans ((aB0_o ⟨by decide, by decide, by decide⟩ (by decide)).trans (congrFun (congrFun hpre1 87) 6)))]; exact hpre2)) (fun v36 S35 hI_S35 hp_v36 rp0_S35 rp1_S35 => zi_n ⟨zG_T hI_S35, ?_⟩)
      have rp0_S35 : xB S35 (mR S35 70) := rp0_S35
      have rp1_S35 : aS 88 S35 = aGo (aS 88 S33) (mI S33 87 6).toInt.toNat ∧ v36.toInt = aGv (aS 88 S33) (mI S33 87 6).toInt.toNat := rp1_S35
      have b40 := i_bd z
      refine sp_103_87_s (ab := (aS 88 S35)) (z) (by omega) (by omega) hI_S35 (show xB S35 (mR S35 70) from by first | (exact xB_x (xC_o (W := 75) rp0_S35).2)) (show aS 88 S35 = (aS 88 S35) from by first | (exact rfl)) (fun v38 S37 hI_S37 hp_v38 rp0_S37 rp1_S37 rp2_S37 => zi_n ⟨zG_T hI_S37, ?_⟩)
      have rp0_S37 : xB S37 (mR S37 70) := rp0_S37
      have rp1_S37 : aS 88 S37 = (aS 88 S35) := rp1_S37
      have rp2_S37 : v38.toInt = aFt (aS 88 S35) z.toInt := rp2_S37
      have b41 := i_bd v38
      have li42 : (-1 : Int32).toInt = -1 := rfl
      refine zd (fun h43 => ?_) (fun h43 => ?_)
      · skip
        have g44 := i_eq h43
        refine sp_67_87_s (ab := (aS 88 S37)) (by omega) (by omega) hI_S37 (show xB S37 (mR S37 70) from by first | (exact xB_x (xC_o (W := 75) rp0_S37).2)) (show aS 88 S37 = (aS 88 S37) from by first | (exact rfl)) (fun v44 S43 hI_S43 hp_v44 rp0_S43 rp1_S43 => zi_n ⟨zG_T hI_S43, ?_⟩)
        have rp0_S43 : xB S43 (mR S43 70) := rp0_S43
        have rp1_S43 : aS 88 S43 = aCl (aS 88 S37) ∧ v44 = aFv (aC1 (aS 88 S37)) := rp1_S43
        refine sp_103_87_s (ab := (aS 88 S43)) (z) (by omega) (by omega) hI_S43 (show xB S43 (mR S43 70) from by first | (exact xB_x (xC_o (W := 75) rp0_S43).2)) (show aS 88 S43 = (aS 88 S43) from by first | (exact rfl)) (fun v46 S45 hI_S45 hp_v46 rp0_S45 rp1_S45 rp2_S45 => zi_n ⟨zG_T hI_S45, ?_⟩)
        have rp0_S45 : xB S45 (mR S45 70) := rp0_S45
        have rp1_S45 : aS 88 S45 = (aS 88 S43) := rp1_S45
        have rp2_S45 : v46.toInt = aFt (aS 88 S43) z.toInt := rp2_S45
        have b45 := i_bd v46
        refine zd (fun h46 => ?_) (fun h46 => ?_)
        · skip
          have g47 := i_eq h46
          have f48 := zG_s hI_S37 (0) (1) (c := 87) (k := 8) (by decide)
          refine zd (fun h49 => ?_) (fun h49 => ?_)
          · skip
            have g50 := i_eq h49
            exact K (v46) _ hI_S45 (by omega) (show xB S45 (mR S45 70) from by first | (exact xB_x (xC_o (W := 75) rp0_S45).2)) (show aS 88 S45 = aRs ab z.toInt ∧ v46.toInt = aRp ab z.toInt from by first | (have k0 : aS 88 S33 = aF0 ab := (rp1_S33.trans (congrArg aB0 hpre1)).trans (aF0_y (by rw [← hpre1, (aS_I (W := 88) (S := S) (c := 87) (c₉ := 87) (k := 8) rfl rfl)]; assumption) (by rw [← hpre1, (aS_I (W := 88) (S := S) (c := 87) (c₉ := 87) (k := 0) rfl rfl), (aS_I (W := 88) (S := S) (c := 69) (c₉ := 69) (k := 8) rfl rfl)]; first | assumption | exact Int32.lt_iff_toInt_lt.mpr (by omega))).symm; have k6 : mI S33 87 6 = ab 87 6 := (aS_I (W := 88) (S := S33) (c := 87) (c₉ := 87) (k := 6) rfl rfl).symm.trans ((congrFun (congrFun rp1_S33 87) 6).trans ((aB0_o ⟨by decide, by decide, by decide⟩ (by decide)).trans (congrFun (congrFun hpre1 87) 6))); have k1 : aS 88 S35 = aF1 ab := (by have q := rp1_S35.1; rw [k0, k6] at q; exact q); have k2 : aS 88 S37 = aF1 ab := rp1_S37.trans k1; have v2 := rp2_S37; rw [← rp1_S37] at v2; have k3 : aS 88 S45 = aCl (aS 88 S37) := rp1_S45.trans rp1_S43.1; have v4 := rp2_S45; rw [← rp1_S45] at v4; have E := aRs_2 (z := z.toInt) k2 (by omega) k3 (by first | exact Or.inl (by omega) | exact Or.inr ((aS_I (W := 88) (S := S37) (c := 87) (c₉ := 87) (k := 8) rfl rfl).trans (by assumption))); refine ⟨E.symm, ?_⟩; unfold aRp; rw [E]; assumption))
          · skip
            have g51 := i_ne h49
            refine sp_67_87_s (ab := (aS 88 S45)) (by omega) (by omega) hI_S45 (show xB S45 (mR S45 70) from by first | (exact xB_x (xC_o (W := 75) rp0_S45).2)) (show aS 88 S45 = (aS 88 S45) from by first | (exact rfl)) (fun v48 S47 hI_S47 hp_v48 rp0_S47 rp1_S47 => zi_n ⟨zG_T hI_S47, ?_⟩)
            have rp0_S47 : xB S47 (mR S47 70) := rp0_S47
            have rp1_S47 : aS 88 S47 = aCl (aS 88 S45) ∧ v48 = aFv (aC1 (aS 88 S45)) := rp1_S47
            refine sp_103_87_s (ab := (aS 88 S47)) (z) (by omega) (by omega) hI_S47 (show xB S47 (mR S47 70) from by first | (exact xB_x (xC_o (W := 75) rp0_S47).2)) (show aS 88 S47 = (aS 88 S47) from by first | (exact rfl)) (fun v50 S49 hI_S49 hp_v50 rp0_S49 rp1_S49 rp2_S49 => zi_n ⟨zG_T hI_S49, ?_⟩)
            have rp0_S49 : xB S49 (mR S49 70) := rp0_S49
            have rp1_S49 : aS 88 S49 = (aS 88 S47) := rp1_S49
            have rp2_S49 : v50.toInt = aFt (aS 88 S47) z.toInt := rp2_S49
            have b52 := i_bd v50
            exact K (v50) _ hI_S49 (by omega) (show xB S49 (mR S49 70) from by first | (exact xB_x (xC_o (W := 75) rp0_S49).2)) (show aS 88 S49 = aRs ab z.toInt ∧ v50.toInt = aRp ab z.toInt from by first | (have k0 : aS 88 S33 = aF0 ab := (rp1_S33.trans (congrArg aB0 hpre1)).trans (aF0_y (by rw [← hpre1, (aS_I (W := 88) (S := S) (c := 87) (c₉ := 87) (k := 8) rfl rfl)]; assumption) (by rw [← hpre1, (aS_I (W := 88) (S := S) (c := 87) (c₉ := 87) (k := 0) rfl rfl), (aS_I (W := 88) (S := S) (c := 69) (c₉ := 69) (k := 8) rfl rfl)]; first | assumption | exact Int32.lt_iff_toInt_lt.mpr (by omega))).symm; have k6 : mI S33 87 6 = ab 87 6 := (aS_I (W := 88) (S := S33) (c := 87) (c₉ := 87) (k := 6) rfl rfl).symm.trans ((congrFun (congrFun rp1_S33 87) 6).trans ((aB0_o ⟨by decide, by decide, by decide⟩ (by decide)).trans (congrFun (congrFun hpre1 87) 6))); have k1 : aS 88 S35 = aF1 ab := (by have q := rp1_S35.1; rw [k0, k6] at q; exact q); have k2 : aS 88 S37 = aF1 ab := rp1_S37.trans k1; have v2 := rp2_S37; rw [← rp1_S37] at v2; have k3 : aS 88 S45 = aCl (aS 88 S37) := rp1_S45.trans rp1_S43.1; have v4 := rp2_S45; rw [← rp1_S45] at v4; have k5 : aS 88 S49 = aCl (aS 88 S45) := rp1_S49.trans rp1_S47.1; have v6 := rp2_S49; rw [← rp1_S49] at v6; have E := aRs_3 (z := z.toInt) k2 (by omega) k3 (by omega) (fun w => by rw [(aS_I (W := 88) (S := S37) (c := 87) (c₉ := 87) (k := 8) rfl rfl)] at w; exact absurd w (by assumption)) k5; refine ⟨E.symm, ?_⟩; unfold aRp; rw [E]; assumption))
        · skip
          have g53 := i_ne h46
          exact K (v46) _ hI_S45 (by omega) (show xB S45 (mR S45 70) from by first | (exact xB_x (xC_o (W := 75) rp0_S45).2)) (show aS 88 S45 = aRs ab z.toInt ∧ v46.toInt = aRp ab z.toInt from by first | (have k0 : aS 88 S33 = aF0 ab := (rp1_S33.trans (congrArg aB0 hpre1)).trans (aF0_y (by rw [← hpre1, (aS_I (W := 88) (S := S) (c := 87) (c₉ := 87) (k := 8) rfl rfl)]; assumption) (by rw [← hpre1, (aS_I (W := 88) (S := S) (c := 87) (c₉ := 87) (k := 0) rfl rfl), (aS_I (W := 88) (S := S) (c := 69) (c₉ := 69) (k := 8) rfl rfl)]; first | assumption | exact Int32.lt_iff_toInt_lt.mpr (by omega))).symm; have k6 : mI S33 87 6 = ab 87 6 := (aS_I (W := 88) (S := S33) (c := 87) (c₉ := 87) (k := 6) rfl rfl).symm.trans ((congrFun (congrFun rp1_S33 87) 6).trans ((aB0_o ⟨by decide, by decide, by decide⟩ (by decide)).trans (congrFun (congrFun hpre1 87) 6))); have k1 : aS 88 S35 = aF1 ab := (by have q := rp1_S35.1; rw [k0, k6] at q; exact q); have k2 : aS 88 S37 = aF1 ab := rp1_S37.trans k1; have v2 := rp2_S37; rw [← rp1_S37] at v2; have k3 : aS 88 S45 = aCl (aS 88 S37) := rp1_S45.trans rp1_S43.1; have v4 := rp2_S45; rw [← rp1_S45] at v4; have E := aRs_2 (z := z.toInt) k2 (by omega) k3 (by first | exact Or.inl (by omega) | exact Or.inr ((aS_I (W := 88) (S := S37) (c := 87) (c₉ := 87) (k := 8) rfl rfl).trans (by assumption))); refine ⟨E.symm, ?_⟩; unfold aRp; rw [E]; assumption))
      · skip
        have g54 := i_ne h43
        refine zd (fun h55 => ?_) (fun h55 => ?_)
        · skip
          have g56 := i_eq h55
          have f57 := zG_s hI_S37 (0) (1) (c := 87) (k := 8) (by decide)
          refine zd (fun h58 => ?_) (fun h58 => ?_)
          · skip
            have g59 := i_eq h58
            exact K (v38) _ hI_S37 (by omega) (show xB S37 (mR S37 70) from by first | (exact xB_x (xC_o (W := 75) rp0_S37).2)) (show aS 88 S37 = aRs ab z.toInt ∧ v38.toInt = aRp ab z.toInt from by first | (have k0 : aS 88 S33 = aF0 ab := (rp1_S33.trans (congrArg aB0 hpre1)).trans (aF0_y (by rw [← hpre1, (aS_I (W := 88) (S := S) (c := 87) (c₉ := 87) (k := 8) rfl rfl)]; assumption) (by rw [← hpre1, (aS_I (W := 88) (S := S) (c := 87) (c₉ := 87) (k := 0) rfl rfl), (aS_I (W := 88) (S := S) (c := 69) (c₉ := 69) (k := 8) rfl rfl)]; first | assumption | exact Int32.lt_iff_toInt_lt.mpr (by omega))).symm; have k6 : mI S33 87 6 = ab 87 6 := (aS_I (W := 88) (S := S33) (c := 87) (c₉ := 87) (k := 6) rfl rfl).symm.trans ((congrFun (congrFun rp1_S33 87) 6).trans ((aB0_o ⟨by decide, by decide, by decide⟩ (by decide)).trans (congrFun (congrFun hpre1 87) 6))); have k1 : aS 88 S35 = aF1 ab := (by have q := rp1_S35.1; rw [k0, k6] at q; exact q); have k2 : aS 88 S37 = aF1 ab := rp1_S37.trans k1; have v2 := rp2_S37; rw [← rp1_S37] at v2; have E := aRs_1 (z := z.toInt) k2 (by omega); refine ⟨E.symm, ?_⟩; unfold aRp; rw [E]; assumption))
          · skip
            have g60 := i_ne h58
            refine sp_67_87_s (ab := (aS 88 S37)) (by omega) (by omega) hI_S37 (show xB S37 (mR S37 70) from by first | (exact xB_x (xC_o (W := 75) rp0_S37).2)) (show aS 88 S37 = (aS 88 S37) from by first | (exact rfl)) (fun v40 S39 hI_S39 hp_v40 rp0_S39 rp1_S39 => zi_n ⟨zG_T hI_S39, ?_⟩)
            have rp0_S39 : xB S39 (mR S39 70) := rp0_S39
            have rp1_S39 : aS 88 S39 = aCl (aS 88 S37) ∧ v40 = aFv (aC1 (aS 88 S37)) := rp1_S39
            refine sp_103_87_s (ab := (aS 88 S39)) (z) (by omega) (by omega) hI_S39 (show xB S39 (mR S39 70) from by first | (exact xB_x (xC_o (W := 75) rp0_S39).2)) (show aS 88 S39 = (aS 88 S39) from by first | (exact rfl)) (fun v42 S41 hI_S41 hp_v42 rp0_S41 rp1_S41 rp2_S41 => zi_n ⟨zG_T hI_S41, ?_⟩)
            have rp0_S41 : xB S41 (mR S41 70) := rp0_S41
            have rp1_S41 : aS 88 S41 = (aS 88 S39) := rp1_S41
            have rp2_S41 : v42.toInt = aFt (aS 88 S39) z.toInt := rp2_S41
            have b61 := i_bd v42
            exact K (v42) _ hI_S41 (by omega) (show xB S41 (mR S41 70) from by first | (exact xB_x (xC_o (W := 75) rp0_S41).2)) (show aS 88 S41 = aRs ab z.toInt ∧ v42.toInt = aRp ab z.toInt from by first | (have k0 : aS 88 S33 = aF0 ab := (rp1_S33.trans (congrArg aB0 hpre1)).trans (aF0_y (by rw [← hpre1, (aS_I (W := 88) (S := S) (c := 87) (c₉ := 87) (k := 8) rfl rfl)]; assumption) (by rw [← hpre1, (aS_I (W := 88) (S := S) (c := 87) (c₉ := 87) (k := 0) rfl rfl), (aS_I (W := 88) (S := S) (c := 69) (c₉ := 69) (k := 8) rfl rfl)]; first | assumption | exact Int32.lt_iff_toInt_lt.mpr (by omega))).symm; have k6 : mI S33 87 6 = ab 87 6 := (aS_I (W := 88) (S := S33) (c := 87) (c₉ := 87) (k := 6) rfl rfl).symm.trans ((congrFun (congrFun rp1_S33 87) 6).trans ((aB0_o ⟨by decide, by decide, by decide⟩ (by decide)).trans (congrFun (congrFun hpre1 87) 6))); have k1 : aS 88 S35 = aF1 ab := (by have q := rp1_S35.1; rw [k0, k6] at q; exact q); have k2 : aS 88 S37 = aF1 ab := rp1_S37.trans k1; have v2 := rp2_S37; rw [← rp1_S37] at v2; have k3 : aS 88 S41 = aCl (aS 88 S37) := rp1_S41.trans rp1_S39.1; have v4 := rp2_S41; rw [← rp1_S41] at v4; have E := aRs_2 (z := z.toInt) k2 (by omega) k3 (by first | exact Or.inl (by omega) | exact Or.inr ((aS_I (W := 88) (S := S37) (c := 87) (c₉ := 87) (k := 8) rfl rfl).trans (by assumption))); refine ⟨E.symm, ?_⟩; unfold aRp; rw [E]; assumption))
        · skip
          have g62 := i_ne h55
          exact K (v38) _ hI_S37 (by omega) (show xB S37 (mR S37 70) from by first | (exact xB_x (xC_o (W := 75) rp0_S37).2)) (show aS 88 S37 = aRs ab z.toInt ∧ v38.toInt = aRp ab z.toInt from by first | (have k0 : aS 88 S33 = aF0 ab := (rp1_S33.trans (congrArg aB0 hpre1)).trans (aF0_y (by rw [← hpre1, (aS_I (W := 88) (S := S) (c := 87) (c₉ := 87) (k := 8) rfl rfl)]; assumption) (by rw [← hpre1, (aS_I (W := 88) (S := S) (c := 87) (c₉ := 87) (k := 0) rfl rfl), (aS_I (W := 88) (S := S) (c := 69) (c₉ := 69) (k := 8) rfl rfl)]; first | assumption | exact Int32.lt_iff_toInt_lt.mpr (by omega))).symm; have k6 : mI S33 87 6 = ab 87 6 := (aS_I (W := 88) (S := S33) (c := 87) (c₉ := 87) (k := 6) rfl rfl).symm.trans ((congrFun (congrFun rp1_S33 87) 6).trans ((aB0_o ⟨by decide, by decide, by decide⟩ (by decide)).trans (congrFun (congrFun hpre1 87) 6))); have k1 : aS 88 S35 = aF1 ab := (by have q := rp1_S35.1; rw [k0, k6] at q; exact q); have k2 : aS 88 S37 = aF1 ab := rp1_S37.trans k1; have v2 := rp2_S37; rw [← rp1_S37] at v2; have E := aRs_1 (z := z.toInt) k2 (by omega); refine ⟨E.symm, ?_⟩; unfold aRp; rw [E]; assumption))
  · skip
    have g63 := i_ne h3
    have f64 := zG_s hI (-1) (1500) (c := 87) (k := 6) (by decide)
    refine sp_72_87_s (ab := (aS 88 S)) ((mI S 87 6)) (by omega) (by omega) hI (show xB S (mR S 70) from by first | (exact xB_x (xC_o (W := 75) hpre0).2)) (show aS 88 S = (aS 88 S) from by first | (exact rfl)) (show 0 ≤ (mI S 87 6).toInt from by first | (rw [show mI S 87 6 = ab 87 6 from (aS_I (W := 88) (S := S) (c := 87) (c₉ := 87) (k := 6) rfl rfl).symm.trans (congrFun (congrFun hpre1 87) 6)]; exact hpre2)) (fun v2 S1 hI_S1 hp_v2 rp0_S1 rp1_S1 => zi_n ⟨zG_T hI_S1, ?_⟩)
    have rp0_S1 : xB S1 (mR S1 70) := rp0_S1
    have rp1_S1 : aS 88 S1 = aGo (aS 88 S) (mI S 87 6).toInt.toNat ∧ v2.toInt = aGv (aS 88 S) (mI S 87 6).toInt.toNat := rp1_S1
    have b65 := i_bd z
    refine sp_103_87_s (ab := (aS 88 S1)) (z) (by omega) (by omega) hI_S1 (show xB S1 (mR S1 70) from by first | (exact xB_x (xC_o (W := 75) rp0_S1).2)) (show aS 88 S1 = (aS 88 S1) from by first | (exact rfl)) (fun v4 S3 hI_S3 hp_v4 rp0_S3 rp1_S3 rp2_S3 => zi_n ⟨zG_T hI_S3, ?_⟩)
    have rp0_S3 : xB S3 (mR S3 70) := rp0_S3
    have rp1_S3 : aS 88 S3 = (aS 88 S1) := rp1_S3
    have rp2_S3 : v4.toInt = aFt (aS 88 S1) z.toInt := rp2_S3
    have b66 := i_bd v4
    have li67 : (-1 : Int32).toInt = -1 := rfl
    refine zd (fun h68 => ?_) (fun h68 => ?_)
    · skip
      have g69 := i_eq h68
      refine sp_67_87_s (ab := (aS 88 S3)) (by omega) (by omega) hI_S3 (show xB S3 (mR S3 70) from by first | (exact xB_x (xC_o (W := 75) rp0_S3).2)) (show aS 88 S3 = (aS 88 S3) from by first | (exact rfl)) (fun v10 S9 hI_S9 hp_v10 rp0_S9 rp1_S9 => zi_n ⟨zG_T hI_S9, ?_⟩)
      have rp0_S9 : xB S9 (mR S9 70) := rp0_S9
      have rp1_S9 : aS 88 S9 = aCl (aS 88 S3) ∧ v10 = aFv (aC1 (aS 88 S3)) := rp1_S9
      refine sp_103_87_s (ab := (aS 88 S9)) (z) (by omega) (by omega) hI_S9 (show xB S9 (mR S9 70) from by first | (exact xB_x (xC_o (W := 75) rp0_S9).2)) (show aS 88 S9 = (aS 88 S9) from by first | (exact rfl)) (fun v12 S11 hI_S11 hp_v12 rp0_S11 rp1_S11 rp2_S11 => zi_n ⟨zG_T hI_S11, ?_⟩)
      have rp0_S11 : xB S11 (mR S11 70) := rp0_S11
      have rp1_S11 : aS 88 S11 = (aS 88 S9) := rp1_S11
      have rp2_S11 : v12.toInt = aFt (aS 88 S9) z.toInt := rp2_S11
      have b70 := i_bd v12
      refine zd (fun h71 => ?_) (fun h71 => ?_)
      · skip
        have g72 := i_eq h71
        have f73 := zG_s hI_S3 (0) (1) (c := 87) (k := 8) (by decide)
        refine zd (fun h74 => ?_) (fun h74 => ?_)
        · skip
          have g75 := i_eq h74
          exact K (v12) _ hI_S11 (by omega) (show xB S11 (mR S11 70) from by first | (exact xB_x (xC_o (W := 75) rp0_S11).2)) (show aS 88 S11 = aRs ab z.toInt ∧ v12.toInt = aRp ab z.toInt from by first | (have k0 : aS 88 S = aF0 ab := hpre1.trans (aF0_n (fun w => by rw [← hpre1, (aS_I (W := 88) (S := S) (c := 87) (c₉ := 87) (k := 8) rfl rfl), (aS_I (W := 88) (S := S) (c := 87) (c₉ := 87) (k := 0) rfl rfl), (aS_I (W := 88) (S := S) (c := 69) (c₉ := 69) (k := 8) rfl rfl)] at w; first | exact absurd w.1 (by assumption) | (have w2 := i_lt w.2; omega))).symm; have k6 : mI S 87 6 = ab 87 6 := (aS_I (W := 88) (S := S) (c := 87) (c₉ := 87) (k := 6) rfl rfl).symm.trans (congrFun (congrFun hpre1 87) 6); have k1 : aS 88 S1 = aF1 ab := (by have q := rp1_S1.1; rw [k0, k6] at q; exact q); have k2 : aS 88 S3 = aF1 ab := rp1_S3.trans k1; have v2 := rp2_S3; rw [← rp1_S3] at v2; have k3 : aS 88 S11 = aCl (aS 88 S3) := rp1_S11.trans rp1_S9.1; have v4 := rp2_S11; rw [← rp1_S11] at v4; have E := aRs_2 (z := z.toInt) k2 (by omega) k3 (by first | exact Or.inl (by omega) | exact Or.inr ((aS_I (W := 88) (S := S3) (c := 87) (c₉ := 87) (k := 8) rfl rfl).trans (by assumption))); refine ⟨E.symm, ?_⟩; unfold aRp; rw [E]; assumption))
        · skip
          have g76 := i_ne h74
          refine sp_67_87_s (ab := (aS 88 S11)) (by omega) (by omega) hI_S11 (show xB S11 (mR S11 70) from by first | (exact xB_x (xC_o (W := 75) rp0_S11).2)) (show aS 88 S11 = (aS 88 S11) from by first | (exact rfl)) (fun v14 S13 hI_S13 hp_v14 rp0_S13 rp1_S13 => zi_n ⟨zG_T hI_S13, ?_⟩)
          have rp0_S13 : xB S13 (mR S13 70) := rp0_S13
          have rp1_S13 : aS 88 S13 = aCl (aS 88 S11) ∧ v14 = aFv (aC1 (aS 88 S11)) := rp1_S13
          refine sp_103_87_s (ab := (aS 88 S13)) (z) (by omega) (by omega) hI_S13 (show xB S13 (mR S13 70) from by first | (exact xB_x (xC_o (W := 75) rp0_S13).2)) (show aS 88 S13 = (aS 88 S13) from by first | (exact rfl)) (fun v16 S15 hI_S15 hp_v16 rp0_S15 rp1_S15 rp2_S15 => zi_n ⟨zG_T hI_S15, ?_⟩)
          have rp0_S15 : xB S15 (mR S15 70) := rp0_S15
          have rp1_S15 : aS 88 S15 = (aS 88 S13) := rp1_S15
          have rp2_S15 : v16.toInt = aFt (aS 88 S13) z.toInt := rp2_S15
          have b77 := i_bd v16
          exact K (v16) _ hI_S15 (by omega) (show xB S15 (mR S15 70) from by first | (exact xB_x (xC_o (W := 75) rp0_S15).2)) (show aS 88 S15 = aRs ab z.toInt ∧ v16.toInt = aRp ab z.toInt from by first | (have k0 : aS 88 S = aF0 ab := hpre1.trans (aF0_n (fun w => by rw [← hpre1, (aS_I (W := 88) (S := S) (c := 87) (c₉ := 87) (k := 8) rfl rfl), (aS_I (W := 88) (S := S) (c := 87) (c₉ := 87) (k := 0) rfl rfl), (aS_I (W := 88) (S := S) (c := 69) (c₉ := 69) (k := 8) rfl rfl)] at w; first | exact absurd w.1 (by assumption) | (have w2 := i_lt w.2; omega))).symm; have k6 : mI S 87 6 = ab 87 6 := (aS_I (W := 88) (S := S) (c := 87) (c₉ := 87) (k := 6) rfl rfl).symm.trans (congrFun (congrFun hpre1 87) 6); have k1 : aS 88 S1 = aF1 ab := (by have q := rp1_S1.1; rw [k0, k6] at q; exact q); have k2 : aS 88 S3 = aF1 ab := rp1_S3.trans k1; have v2 := rp2_S3; rw [← rp1_S3] at v2; have k3 : aS 88 S11 = aCl (aS 88 S3) := rp1_S11.trans rp1_S9.1; have v4 := rp2_S11; rw [← rp1_S11] at v4; have k5 : aS 88 S15 = aCl (aS 88 S11) := rp1_S15.trans rp1_S13.1; have v6 := rp2_S15; rw [← rp1_S15] at v6; have E := aRs_3 (z := z.toInt) k2 (by omega) k3 (by omega) (fun w => by rw [(aS_I (W := 88) (S := S3) (c := 87) (c₉ := 87) (k := 8) rfl rfl)] at w; exact absurd w (by assumption)) k5; refine ⟨E.symm, ?_⟩; unfold aRp; rw [E]; assumption))
      · skip
        have g78 := i_ne h71
        exact K (v12) _ hI_S11 (by omega) (show xB S11 (mR S11 70) from by first | (exact xB_x (xC_o (W := 75) rp0_S11).2)) (show aS 88 S11 = aRs ab z.toInt ∧ v12.toInt = aRp ab z.toInt from by first | (have k0 : aS 88 S = aF0 ab := hpre1.trans (aF0_n (fun w => by rw [← hpre1, (aS_I (W := 88) (S := S) (c := 87) (c₉ := 87) (k := 8) rfl rfl), (aS_I (W := 88) (S := S) (c := 87) (c₉ := 87) (k := 0) rfl rfl), (aS_I (W := 88) (S := S) (c := 69) (c₉ := 69) (k := 8) rfl rfl)] at w; first | exact absurd w.1 (by assumption) | (have w2 := i_lt w.2; omega))).symm; have k6 : mI S 87 6 = ab 87 6 := (aS_I (W := 88) (S := S) (c := 87) (c₉ := 87) (k := 6) rfl rfl).symm.trans (congrFun (congrFun hpre1 87) 6); have k1 : aS 88 S1 = aF1 ab := (by have q := rp1_S1.1; rw [k0, k6] at q; exact q); have k2 : aS 88 S3 = aF1 ab := rp1_S3.trans k1; have v2 := rp2_S3; rw [← rp1_S3] at v2; have k3 : aS 88 S11 = aCl (aS 88 S3) := rp1_S11.trans rp1_S9.1; have v4 := rp2_S11; rw [← rp1_S11] at v4; have E := aRs_2 (z := z.toInt) k2 (by omega) k3 (by first | exact Or.inl (by omega) | exact Or.inr ((aS_I (W := 88) (S := S3) (c := 87) (c₉ := 87) (k := 8) rfl rfl).trans (by assumption))); refine ⟨E.symm, ?_⟩; unfold aRp; rw [E]; assumption))
    · skip
      have g79 := i_ne h68
      refine zd (fun h80 => ?_) (fun h80 => ?_)
      · skip
        have g81 := i_eq h80
        have f82 := zG_s hI_S3 (0) (1) (c := 87) (k := 8) (by decide)
        refine zd (fun h83 => ?_) (fun h83 => ?_)
        · skip
          have g84 := i_eq h83
          exact K (v4) _ hI_S3 (by omega) (show xB S3 (mR S3 70) from by first | (exact xB_x (xC_o (W := 75) rp0_S3).2)) (show aS 88 S3 = aRs ab z.toInt ∧ v4.toInt = aRp ab z.toInt from by first | (have k0 : aS 88 S = aF0 ab := hpre1.trans (aF0_n (fun w => by rw [← hpre1, (aS_I (W := 88) (S := S) (c := 87) (c₉ := 87) (k := 8) rfl rfl), (aS_I (W := 88) (S := S) (c := 87) (c₉ := 87) (k := 0) rfl rfl), (aS_I (W := 88) (S := S) (c := 69) (c₉ := 69) (k := 8) rfl rfl)] at w; first | exact absurd w.1 (by assumption) | (have w2 := i_lt w.2; omega))).symm; have k6 : mI S 87 6 = ab 87 6 := (aS_I (W := 88) (S := S) (c := 87) (c₉ := 87) (k := 6) rfl rfl).symm.trans (congrFun (congrFun hpre1 87) 6); have k1 : aS 88 S1 = aF1 ab := (by have q := rp1_S1.1; rw [k0, k6] at q; exact q); have k2 : aS 88 S3 = aF1 ab := rp1_S3.trans k1; have v2 := rp2_S3; rw [← rp1_S3] at v2; have E := aRs_1 (z := z.toInt) k2 (by omega); refine ⟨E.symm, ?_⟩; unfold aRp; rw [E]; assumption))
        · skip
          have g85 := i_ne h83
          refine sp_67_87_s (ab := (aS 88 S3)) (by omega) (by omega) hI_S3 (show xB S3 (mR S3 70) from by first | (exact xB_x (xC_o (W := 75) rp0_S3).2)) (show aS 88 S3 = (aS 88 S3) from by first | (exact rfl)) (fun v6 S5 hI_S5 hp_v6 rp0_S5 rp1_S5 => zi_n ⟨zG_T hI_S5, ?_⟩)
          have rp0_S5 : xB S5 (mR S5 70) := rp0_S5
          have rp1_S5 : aS 88 S5 = aCl (aS 88 S3) ∧ v6 = aFv (aC1 (aS 88 S3)) := rp1_S5
          refine sp_103_87_s (ab := (aS 88 S5)) (z) (by omega) (by omega) hI_S5 (show xB S5 (mR S5 70) from by first | (exact xB_x (xC_o (W := 75) rp0_S5).2)) (show aS 88 S5 = (aS 88 S5) from by first | (exact rfl)) (fun v8 S7 hI_S7 hp_v8 rp0_S7 rp1_S7 rp2_S7 => zi_n ⟨zG_T hI_S7, ?_⟩)
          have rp0_S7 : xB S7 (mR S7 70) := rp0_S7
          have rp1_S7 : aS 88 S7 = (aS 88 S5) := rp1_S7
          have rp2_S7 : v8.toInt = aFt (aS 88 S5) z.toInt := rp2_S7
          have b86 := i_bd v8
          exact K (v8) _ hI_S7 (by omega) (show xB S7 (mR S7 70) from by first | (exact xB_x (xC_o (W := 75) rp0_S7).2)) (show aS 88 S7 = aRs ab z.toInt ∧ v8.toInt = aRp ab z.toInt from by first | (have k0 : aS 88 S = aF0 ab := hpre1.trans (aF0_n (fun w => by rw [← hpre1, (aS_I (W := 88) (S := S) (c := 87) (c₉ := 87) (k := 8) rfl rfl), (aS_I (W := 88) (S := S) (c := 87) (c₉ := 87) (k := 0) rfl rfl), (aS_I (W := 88) (S := S) (c := 69) (c₉ := 69) (k := 8) rfl rfl)] at w; first | exact absurd w.1 (by assumption) | (have w2 := i_lt w.2; omega))).symm; have k6 : mI S 87 6 = ab 87 6 := (aS_I (W := 88) (S := S) (c := 87) (c₉ := 87) (k := 6) rfl rfl).symm.trans (congrFun (congrFun hpre1 87) 6); have k1 : aS 88 S1 = aF1 ab := (by have q := rp1_S1.1; rw [k0, k6] at q; exact q); have k2 : aS 88 S3 = aF1 ab := rp1_S3.trans k1; have v2 := rp2_S3; rw [← rp1_S3] at v2; have k3 : aS 88 S7 = aCl (aS 88 S3) := rp1_S7.trans rp1_S5.1; have v4 := rp2_S7; rw [← rp1_S7] at v4; have E := aRs_2 (z := z.toInt) k2 (by omega) k3 (by first | exact Or.inl (by omega) | exact Or.inr ((aS_I (W := 88) (S := S3) (c := 87) (c₉ := 87) (k := 8) rfl rfl).trans (by assumption))); refine ⟨E.symm, ?_⟩; unfold aRp; rw [E]; assumption))
      · skip
        have g87 := i_ne h80
        exact K (v4) _ hI_S3 (by omega) (show xB S3 (mR S3 70) from by first | (exact xB_x (xC_o (W := 75) rp0_S3).2)) (show aS 88 S3 = aRs ab z.toInt ∧ v4.toInt = aRp ab z.toInt from by first | (have k0 : aS 88 S = aF0 ab := hpre1.trans (aF0_n (fun w => by rw [← hpre1, (aS_I (W := 88) (S := S) (c := 87) (c₉ := 87) (k := 8) rfl rfl), (aS_I (W := 88) (S := S) (c := 87) (c₉ := 87) (k := 0) rfl rfl), (aS_I (W := 88) (S := S) (c := 69) (c₉ := 69) (k := 8) rfl rfl)] at w; first | exact absurd w.1 (by assumption) | (have w2 := i_lt w.2; omega))).symm; have k6 : mI S 87 6 = ab 87 6 := (aS_I (W := 88) (S := S) (c := 87) (c₉ := 87) (k := 6) rfl rfl).symm.trans (congrFun (congrFun hpre1 87) 6); have k1 : aS 88 S1 = aF1 ab := (by have q := rp1_S1.1; rw [k0, k6] at q; exact q); have k2 : aS 88 S3 = aF1 ab := rp1_S3.trans k1; have v2 := rp2_S3; rw [← rp1_S3] at v2; have E := aRs_1 (z := z.toInt) k2 (by omega); refine ⟨E.symm, ?_⟩; unfold aRp; rw [E]; assumption))

