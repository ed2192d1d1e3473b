/-! the law -/
theorem gl_23 {X : Nat × (Nat → Int32)} {d w : Nat} {S : ma_S} {Q : Option ma_V → ma_S → Prop} (i : Int32) (hd : 13 ≤ d) (hw : 494 ≤ w) (hS : zT S) (h : if ((Int32.ofNat X.1) - (6 : Int32)) < i then (Q (some (.inl (1 : Int32))) S) else ((0 ≤ i ∧ i.toNatClampNeg < X.1) ∧ (if ((X.2 i.toNatClampNeg) &&& (31 : Int32)) = (0 : Int32) then (ma_fp X 0 d w 136 [(0, .inr (.inr (some 30))), (1, .inr (.inr (some 64))), (2, .inr (.inr (some 94))), (3, .inr (.inr (some 125))), (4, .inl i)] [] S Q) else (if ((X.2 i.toNatClampNeg) &&& (31 : Int32)) = (1 : Int32) then (ma_fp X 0 d w 212 [(0, .inr (.inr (some 30))), (1, .inr (.inr (some 64))), (2, .inr (.inr (some 94))), (3, .inr (.inr (some 125))), (4, .inl i)] [] S Q) else (if ((X.2 i.toNatClampNeg) &&& (31 : Int32)) = (2 : Int32) then (ma_fp X 0 d w 240 [(0, .inr (.inr (some 30))), (1, .inr (.inr (some 64))), (2, .inr (.inr (some 94))), (3, .inr (.inr (some 125))), (4, .inl i)] [] S Q) else (if ((X.2 i.toNatClampNeg) &&& (31 : Int32)) = (3 : Int32) then (ma_fp X 0 d w 280 [(0, .inr (.inr (some 30))), (1, .inr (.inr (some 64))), (2, .inr (.inr (some 94))), (3, .inr (.inr (some 125))), (4, .inl i)] [] S Q) else (if ((X.2 i.toNatClampNeg) &&& (31 : Int32)) = (4 : Int32) then (ma_fp X 0 d w 293 [(0, .inr (.inr (some 30))), (1, .inr (.inr (some 64))), (2, .inr (.inr (some 94))), (3, .inr (.inr (some 125))), (4, .inl i)] [] S Q) else (if ((X.2 i.toNatClampNeg) &&& (31 : Int32)) = (5 : Int32) then (ma_fp X 0 d w 333 [(0, .inr (.inr (some 30))), (1, .inr (.inr (some 64))), (2, .inr (.inr (some 94))), (3, .inr (.inr (some 125))), (4, .inl i)] [] S Q) else (if ((X.2 i.toNatClampNeg) &&& (31 : Int32)) = (6 : Int32) then (ma_fp X 0 d w 401 [(0, .inr (.inr (some 30))), (1, .inr (.inr (some 64))), (2, .inr (.inr (some 94))), (3, .inr (.inr (some 125))), (4, .inl i)] [] S Q) else (if ((X.2 i.toNatClampNeg) &&& (31 : Int32)) = (7 : Int32) then (ma_fp X 0 d w 453 [(0, .inr (.inr (some 30))), (1, .inr (.inr (some 64))), (2, .inr (.inr (some 94))), (3, .inr (.inr (some 125))), (4, .inl i)] [] S Q) else (if ((X.2 i.toNatClampNeg) &&& (31 : Int32)) = (8 : Int32) then (ma_fp X 0 d w 505 [(0, .inr (.inr (some 30))), (1, .inr (.inr (some 64))), (2, .inr (.inr (some 94))), (3, .inr (.inr (some 125))), (4, .inl i)] [] S Q) else (if ((X.2 i.toNatClampNeg) &&& (31 : Int32)) = (9 : Int32) then (ma_fp X 0 d w 573 [(0, .inr (.inr (some 30))), (1, .inr (.inr (some 64))), (2, .inr (.inr (some 94))), (3, .inr (.inr (some 125))), (4, .inl i)] [] S Q) else (if ((X.2 i.toNatClampNeg) &&& (31 : Int32)) = (10 : Int32) then (ma_fp X 0 d w 613 [(0, .inr (.inr (some 30))), (1, .inr (.inr (some 64))), (2, .inr (.inr (some 94))), (3, .inr (.inr (some 125))), (4, .inl i)] [] S Q) else (if ((X.2 i.toNatClampNeg) &&& (31 : Int32)) = (11 : Int32) then (ma_fp X 0 d w 653 [(0, .inr (.inr (some 30))), (1, .inr (.inr (some 64))), (2, .inr (.inr (some 94))), (3, .inr (.inr (some 125))), (4, .inl i)] [] S Q) else (if ((X.2 i.toNatClampNeg) &&& (31 : Int32)) = (12 : Int32) then (ma_fp X 0 d w 693 [(0, .inr (.inr (some 30))), (1, .inr (.inr (some 64))), (2, .inr (.inr (some 94))), (3, .inr (.inr (some 125))), (4, .inl i)] [] S Q) else (if ((X.2 i.toNatClampNeg) &&& (31 : Int32)) = (13 : Int32) then (ma_fp X 0 d w 749 [(0, .inr (.inr (some 30))), (1, .inr (.inr (some 64))), (2, .inr (.inr (some 94))), (3, .inr (.inr (some 125))), (4, .inl i)] [] S Q) else (if ((X.2 i.toNatClampNeg) &&& (31 : Int32)) = (14 : Int32) then (ma_fp X 0 d w 777 [(0, .inr (.inr (some 30))), (1, .inr (.inr (some 64))), (2, .inr (.inr (some 94))), (3, .inr (.inr (some 125))), (4, .inl i)] [] S Q) else (if ((X.2 i.toNatClampNeg) &&& (31 : Int32)) = (15 : Int32) then (ma_fp X 0 d w 805 [(0, .inr (.inr (some 30))), (1, .inr (.inr (some 64))), (2, .inr (.inr (some 94))), (3, .inr (.inr (some 125))), (4, .inl i)] [] S Q) else (if ((X.2 i.toNatClampNeg) &&& (31 : Int32)) = (16 : Int32) then (ma_fp X 0 d w 821 [(0, .inr (.inr (some 30))), (1, .inr (.inr (some 64))), (2, .inr (.inr (some 94))), (3, .inr (.inr (some 125))), (4, .inl i)] [] S Q) else (if ((X.2 i.toNatClampNeg) &&& (31 : Int32)) = (17 : Int32) then (ma_fp X 0 d w 849 [(0, .inr (.inr (some 30))), (1, .inr (.inr (some 64))), (2, .inr (.inr (some 94))), (3, .inr (.inr (some 125))), (4, .inl i)] [] S Q) else (if ((X.2 i.toNatClampNeg) &&& (31 : Int32)) = (18 : Int32) then (ma_fp X 0 d w 889 [(0, .inr (.inr (some 30))), (1, .inr (.inr (some 64))), (2, .inr (.inr (some 94))), (3, .inr (.inr (some 125))), (4, .inl i)] [] S Q) else (if ((X.2 i.toNatClampNeg) &&& (31 : Int32)) = (19 : Int32) then (ma_fp X 0 d w 929 [(0, .inr (.inr (some 30))), (1, .inr (.inr (some 64))), (2, .inr (.inr (some 94))), (3, .inr (.inr (some 125))), (4, .inl i)] [] S Q) else (ma_fp X 0 d w 957 [(0, .inr (.inr (some 30))), (1, .inr (.inr (some 64))), (2, .inr (.inr (some 94))), (3, .inr (.inr (some 125))), (4, .inl i)] [] S Q))))))))))))))))))))))) : ma_fp X 0 d w 23 [(0, .inr (.inr (some 30))), (1, .inr (.inr (some 64))), (2, .inr (.inr (some 94))), (3, .inr (.inr (some 125))), (4, .inl i)] [] S Q := by
  refine zf_push fm_0 dF0_23 (v := .inl i) rfl ?_
  refine zf_push fm_0 dF0_25 (v := .inr (.inr (some 30))) rfl ?_
  refine zf_one fm_0 dF0_26 oo_sl ?_
  refine zf_push fm_0 dF0_27 (v := .inl (6 : Int32)) rfl ?_
  refine zf_stk fm_0 dF0_29 (st₉ := [.inl ((Int32.ofNat X.1) - (6 : Int32)), .inl i]) rfl rfl ?_
  refine zf_if2 fm_0 dF0_30 (t := 963) rfl zc2_gt ?_ ?_
  · intro hc
    rw [if_pos hc] at h
    refine zf_push fm_0 dF0_963 (v := .inl (1 : Int32)) rfl ?_
    exact zf_bret fm_0 dF0_964 (by decide) h
  · intro hc
    rw [if_neg hc] at h
    refine zf_push fm_0 dF0_33 (v := .inr (.inr (some 30))) rfl ?_
    refine zf_push fm_0 dF0_34 (v := .inl i) rfl ?_
    obtain ⟨hg, h⟩ := h
    refine zf_one fm_0 dF0_36 (oo_sc hg) ?_
    refine zf_push fm_0 dF0_37 (v := .inl (31 : Int32)) rfl ?_
    refine zf_stk fm_0 dF0_39 (st₉ := [.inl ((X.2 i.toNatClampNeg) &&& (31 : Int32))]) rfl rfl ?_
    by_cases hc0 : ((X.2 i.toNatClampNeg) &&& (31 : Int32)) = (0 : Int32)
    · rw [if_pos hc0] at h
      refine zf_jmp fm_0 dF0_40 (t := 136) (st₉ := []) rfl rfl rfl (ma_jmp_tab (by rw [hc0]; decide +kernel)) ?_
      exact h
    rw [if_neg hc0] at h
    by_cases hc1 : ((X.2 i.toNatClampNeg) &&& (31 : Int32)) = (1 : Int32)
    · rw [if_pos hc1] at h
      refine zf_jmp fm_0 dF0_40 (t := 212) (st₉ := []) rfl rfl rfl (ma_jmp_tab (by rw [hc1]; decide +kernel)) ?_
      exact h
    rw [if_neg hc1] at h
    by_cases hc2 : ((X.2 i.toNatClampNeg) &&& (31 : Int32)) = (2 : Int32)
    · rw [if_pos hc2] at h
      refine zf_jmp fm_0 dF0_40 (t := 240) (st₉ := []) rfl rfl rfl (ma_jmp_tab (by rw [hc2]; decide +kernel)) ?_
      exact h
    rw [if_neg hc2] at h
    by_cases hc3 : ((X.2 i.toNatClampNeg) &&& (31 : Int32)) = (3 : Int32)
    · rw [if_pos hc3] at h
      refine zf_jmp fm_0 dF0_40 (t := 280) (st₉ := []) rfl rfl rfl (ma_jmp_tab (by rw [hc3]; decide +kernel)) ?_
      exact h
    rw [if_neg hc3] at h
    by_cases hc4 : ((X.2 i.toNatClampNeg) &&& (31 : Int32)) = (4 : Int32)
    · rw [if_pos hc4] at h
      refine zf_jmp fm_0 dF0_40 (t := 293) (st₉ := []) rfl rfl rfl (ma_jmp_tab (by rw [hc4]; decide +kernel)) ?_
      exact h
    rw [if_neg hc4] at h
    by_cases hc5 : ((X.2 i.toNatClampNeg) &&& (31 : Int32)) = (5 : Int32)
    · rw [if_pos hc5] at h
      refine zf_jmp fm_0 dF0_40 (t := 333) (st₉ := []) rfl rfl rfl (ma_jmp_tab (by rw [hc5]; decide +kernel)) ?_
      exact h
    rw [if_neg hc5] at h
    by_cases hc6 : ((X.2 i.toNatClampNeg) &&& (31 : Int32)) = (6 : Int32)
    · rw [if_pos hc6] at h
      refine zf_jmp fm_0 dF0_40 (t := 401) (st₉ := []) rfl rfl rfl (ma_jmp_tab (by rw [hc6]; decide +kernel)) ?_
      exact h
    rw [if_neg hc6] at h
    by_cases hc7 : ((X.2 i.toNatClampNeg) &&& (31 : Int32)) = (7 : Int32)
    · rw [if_pos hc7] at h
      refine zf_jmp fm_0 dF0_40 (t := 453) (st₉ := []) rfl rfl rfl (ma_jmp_tab (by rw [hc7]; decide +kernel)) ?_
      exact h
    rw [if_neg hc7] at h
    by_cases hc8 : ((X.2 i.toNatClampNeg) &&& (31 : Int32)) = (8 : Int32)
    · rw [if_pos hc8] at h
      refine zf_jmp fm_0 dF0_40 (t := 505) (st₉ := []) rfl rfl rfl (ma_jmp_tab (by rw [hc8]; decide +kernel)) ?_
      exact h
    rw [if_neg hc8] at h
    by_cases hc9 : ((X.2 i.toNatClampNeg) &&& (31 : Int32)) = (9 : Int32)
    · rw [if_pos hc9] at h
      refine zf_jmp fm_0 dF0_40 (t := 573) (st₉ := []) rfl rfl rfl (ma_jmp_tab (by rw [hc9]; decide +kernel)) ?_
      exact h
    rw [if_neg hc9] at h
    by_cases hc10 : ((X.2 i.toNatClampNeg) &&& (31 : Int32)) = (10 : Int32)
    · rw [if_pos hc10] at h
      refine zf_jmp fm_0 dF0_40 (t := 613) (st₉ := []) rfl rfl rfl (ma_jmp_tab (by rw [hc10]; decide +kernel)) ?_
      exact h
    rw [if_neg hc10] at h
    by_cases hc11 : ((X.2 i.toNatClampNeg) &&& (31 : Int32)) = (11 : Int32)
    · rw [if_pos hc11] at h
      refine zf_jmp fm_0 dF0_40 (t := 653) (st₉ := []) rfl rfl rfl (ma_jmp_tab (by rw [hc11]; decide +kernel)) ?_
      exact h
    rw [if_neg hc11] at h
    by_cases hc12 : ((X.2 i.toNatClampNeg) &&& (31 : Int32)) = (12 : Int32)
    · rw [if_pos hc12] at h
      refine zf_jmp fm_0 dF0_40 (t := 693) (st₉ := []) rfl rfl rfl (ma_jmp_tab (by rw [hc12]; decide +kernel)) ?_
      exact h
    rw [if_neg hc12] at h
    by_cases hc13 : ((X.2 i.toNatClampNeg) &&& (31 : Int32)) = (13 : Int32)
    · rw [if_pos hc13] at h
      refine zf_jmp fm_0 dF0_40 (t := 749) (st₉ := []) rfl rfl rfl (ma_jmp_tab (by rw [hc13]; decide +kernel)) ?_
      exact h
    rw [if_neg hc13] at h
    by_cases hc14 : ((X.2 i.toNatClampNeg) &&& (31 : Int32)) = (14 : Int32)
    · rw [if_pos hc14] at h
      refine zf_jmp fm_0 dF0_40 (t := 777) (st₉ := []) rfl rfl rfl (ma_jmp_tab (by rw [hc14]; decide +kernel)) ?_
      exact h
    rw [if_neg hc14] at h
    by_cases hc15 : ((X.2 i.toNatClampNeg) &&& (31 : Int32)) = (15 : Int32)
    · rw [if_pos hc15] at h
      refine zf_jmp fm_0 dF0_40 (t := 805) (st₉ := []) rfl rfl rfl (ma_jmp_tab (by rw [hc15]; decide +kernel)) ?_
      exact h
    rw [if_neg hc15] at h
    by_cases hc16 : ((X.2 i.toNatClampNeg) &&& (31 : Int32)) = (16 : Int32)
    · rw [if_pos hc16] at h
      refine zf_jmp fm_0 dF0_40 (t := 821) (st₉ := []) rfl rfl rfl (ma_jmp_tab (by rw [hc16]; decide +kernel)) ?_
      exact h
    rw [if_neg hc16] at h
    by_cases hc17 : ((X.2 i.toNatClampNeg) &&& (31 : Int32)) = (17 : Int32)
    · rw [if_pos hc17] at h
      refine zf_jmp fm_0 dF0_40 (t := 849) (st₉ := []) rfl rfl rfl (ma_jmp_tab (by rw [hc17]; decide +kernel)) ?_
      exact h
    rw [if_neg hc17] at h
    by_cases hc18 : ((X.2 i.toNatClampNeg) &&& (31 : Int32)) = (18 : Int32)
    · rw [if_pos hc18] at h
      refine zf_jmp fm_0 dF0_40 (t := 889) (st₉ := []) rfl rfl rfl (ma_jmp_tab (by rw [hc18]; decide +kernel)) ?_
      exact h
    rw [if_neg hc18] at h
    by_cases hc19 : ((X.2 i.toNatClampNeg) &&& (31 : Int32)) = (19 : Int32)
    · rw [if_pos hc19] at h
      refine zf_jmp fm_0 dF0_40 (t := 929) (st₉ := []) rfl rfl rfl (ma_jmp_tab (by rw [hc19]; decide +kernel)) ?_
      exact h
    rw [if_neg hc19] at h
    refine zf_jmp fm_0 dF0_40 (t := 957) (st₉ := []) rfl rfl rfl (ma_jmp_def (m := 20) (by decide) (fun j hj => by
        have hj2 : j = 0 ∨ j = 1 ∨ j = 2 ∨ j = 3 ∨ j = 4 ∨ j = 5 ∨ j = 6 ∨ j = 7 ∨ j = 8 ∨ j = 9 ∨ j = 10 ∨ j = 11 ∨ j = 12 ∨ j = 13 ∨ j = 14 ∨ j = 15 ∨ j = 16 ∨ j = 17 ∨ j = 18 ∨ j = 19 := by omega
        rcases hj2 with rfl | rfl | rfl | rfl | rfl | rfl | rfl | rfl | rfl | rfl | rfl | rfl | rfl | rfl | rfl | rfl | rfl | rfl | rfl | rfl
        · exact hc0
        · exact hc1
        · exact hc2
        · exact hc3
        · exact hc4
        · exact hc5
        · exact hc6
        · exact hc7
        · exact hc8
        · exact hc9
        · exact hc10
        · exact hc11
        · exact hc12
        · exact hc13
        · exact hc14
        · exact hc15
        · exact hc16
        · exact hc17
        · exact hc18
        · exact hc19
        ) rfl) ?_
    exact h
theorem gl_957 {X : Nat × (Nat → Int32)} {d w : Nat} {S : ma_S} {Q : Option ma_V → ma_S → Prop} (i : Int32) (hd : 13 ≤ d) (hw : 494 ≤ w) (hS : zT S) (h : ma_fp X 0 d w 23 [(0, .inr (.inr (some 30))), (1, .inr (.inr (some 64))), (2, .inr (.inr (some 94))), (3, .inr (.inr (some 125))), (4, .inl (i + (6 : Int32)))] [] S Q) : ma_fp X 0 d w 957 [(0, .inr (.inr (some 30))), (1, .inr (.inr (some 64))), (2, .inr (.inr (some 94))), (3, .inr (.inr (some 125))), (4, .inl i)] [] S Q := by
  refine zf_sto fm_0 dF0_957 [(4, .inl (i + (6 : Int32))), (0, .inr (.inr (some 30))), (1, .inr (.inr (some 64))), (2, .inr (.inr (some 94))), (3, .inr (.inr (some 125)))] rfl rfl rfl ?_
  refine zf_goto fm_0 dF0_960 (t := 23) rfl ?_
  exact zf_sub (ma_nd_of (ks := [0, 1, 2, 3, 4]) rfl (by decide)) (ma_nd_of (ks := [4, 0, 1, 2, 3]) rfl (by decide)) (ma_le_cons rfl (ma_le_cons rfl (ma_le_cons rfl (ma_le_cons rfl (ma_le_cons rfl (ma_le_nil _)))))) h
theorem gl_136 {X : Nat × (Nat → Int32)} {d w : Nat} {S : ma_S} {Q : Option ma_V → ma_S → Prop} (i : Int32) (hd : 13 ≤ d) (hw : 494 ≤ w) (hS : zT S) (h : (0 ≤ (i + (1 : Int32)) ∧ ((i + (1 : Int32))).toNatClampNeg < X.1) ∧ ((0 ≤ (i + (2 : Int32)) ∧ ((i + (2 : Int32))).toNatClampNeg < X.1) ∧ ((0 ≤ (i + (3 : Int32)) ∧ ((i + (3 : Int32))).toNatClampNeg < X.1) ∧ ((0 ≤ (i + (4 : Int32)) ∧ ((i + (4 : Int32))).toNatClampNeg < X.1) ∧ ((0 ≤ (i + (5 : Int32)) ∧ ((i + (5 : Int32))).toNatClampNeg < X.1) ∧ (ma_fp X 1 (d - 1) (w - 27) 0 [(0, .inr (.inr (some 64))), (1, .inl (X.2 ((i + (1 : Int32))).toNatClampNeg)), (2, .inl (X.2 ((i + (2 : Int32))).toNatClampNeg)), (3, .inl (X.2 ((i + (3 : Int32))).toNatClampNeg)), (4, .inl (X.2 ((i + (4 : Int32))).toNatClampNeg)), (5, .inl (X.2 ((i + (5 : Int32))).toNatClampNeg)), (6, .inr (.inr (some 125)))] [] S (zfi_ (fun v1 S2 => zT S2 ∧ ((0 ≤ (i + (1 : Int32)) ∧ ((i + (1 : Int32))).toNatClampNeg < X.1) ∧ ((0 ≤ (i + (2 : Int32)) ∧ ((i + (2 : Int32))).toNatClampNeg < X.1) ∧ ((0 ≤ (i + (3 : Int32)) ∧ ((i + (3 : Int32))).toNatClampNeg < X.1) ∧ ((0 ≤ (i + (4 : Int32)) ∧ ((i + (4 : Int32))).toNatClampNeg < X.1) ∧ ((0 ≤ (i + (5 : Int32)) ∧ ((i + (5 : Int32))).toNatClampNeg < X.1) ∧ (ma_wp X (d - 1) (w - 25) 166 0 [(0, .inr (.inr (some 94))), (1, .inl (X.2 ((i + (1 : Int32))).toNatClampNeg)), (2, .inl (X.2 ((i + (2 : Int32))).toNatClampNeg)), (3, .inl (X.2 ((i + (3 : Int32))).toNatClampNeg)), (4, .inl (X.2 ((i + (4 : Int32))).toNatClampNeg)), (5, .inl (X.2 ((i + (5 : Int32))).toNatClampNeg))] [] S2 (zi (fun v4 S3 => zT S3 ∧ (ma_fp X 0 d w 957 [(0, .inr (.inr (some 30))), (1, .inr (.inr (some 64))), (2, .inr (.inr (some 94))), (3, .inr (.inr (some 125))), (4, .inl i)] [] S3 Q)) (fun _ _ => False)))))))))))))))) : ma_fp X 0 d w 136 [(0, .inr (.inr (some 30))), (1, .inr (.inr (some 64))), (2, .inr (.inr (some 94))), (3, .inr (.inr (some 125))), (4, .inl i)] [] S Q := by
  refine zf_push fm_0 dF0_136 (v := .inr (.inr (some 64))) rfl ?_
  refine zf_push fm_0 dF0_137 (v := .inr (.inr (some 30))) rfl ?_
  refine zf_push fm_0 dF0_138 (v := .inl i) rfl ?_
  refine zf_push fm_0 dF0_140 (v := .inl (1 : Int32)) rfl ?_
  refine zf_stk fm_0 dF0_141 (st₉ := [.inl (i + (1 : Int32)), .inr (.inr (some 30)), .inr (.inr (some 64))]) rfl rfl ?_
  obtain ⟨hg, h⟩ := h
  refine zf_one fm_0 dF0_142 (oo_sc hg) ?_
  refine zf_push fm_0 dF0_143 (v := .inr (.inr (some 30))) rfl ?_
  refine zf_push fm_0 dF0_144 (v := .inl i) rfl ?_
  refine zf_push fm_0 dF0_146 (v := .inl (2 : Int32)) rfl ?_
  refine zf_stk fm_0 dF0_147 (st₉ := [.inl (i + (2 : Int32)), .inr (.inr (some 30)), .inl (X.2 ((i + (1 : Int32))).toNatClampNeg), .inr (.inr (some 64))]) rfl rfl ?_
  obtain ⟨hg, h⟩ := h
  refine zf_one fm_0 dF0_148 (oo_sc hg) ?_
  refine zf_push fm_0 dF0_149 (v := .inr (.inr (some 30))) rfl ?_
  refine zf_push fm_0 dF0_150 (v := .inl i) rfl ?_
  refine zf_push fm_0 dF0_152 (v := .inl (3 : Int32)) rfl ?_
  refine zf_stk fm_0 dF0_153 (st₉ := [.inl (i + (3 : Int32)), .inr (.inr (some 30)), .inl (X.2 ((i + (2 : Int32))).toNatClampNeg), .inl (X.2 ((i + (1 : Int32))).toNatClampNeg), .inr (.inr (some 64))]) rfl rfl ?_
  obtain ⟨hg, h⟩ := h
  refine zf_one fm_0 dF0_154 (oo_sc hg) ?_
  refine zf_push fm_0 dF0_155 (v := .inr (.inr (some 30))) rfl ?_
  refine zf_push fm_0 dF0_156 (v := .inl i) rfl ?_
  refine zf_push fm_0 dF0_158 (v := .inl (4 : Int32)) rfl ?_
  refine zf_stk fm_0 dF0_159 (st₉ := [.inl (i + (4 : Int32)), .inr (.inr (some 30)), .inl (X.2 ((i + (3 : Int32))).toNatClampNeg), .inl (X.2 ((i + (2 : Int32))).toNatClampNeg), .inl (X.2 ((i + (1 : Int32))).toNatClampNeg), .inr (.inr (some 64))]) rfl rfl ?_
  obtain ⟨hg, h⟩ := h
  refine zf_one fm_0 dF0_160 (oo_sc hg) ?_
  refine zf_push fm_0 dF0_161 (v := .inr (.inr (some 30))) rfl ?_
  refine zf_push fm_0 dF0_162 (v := .inl i) rfl ?_
  refine zf_push fm_0 dF0_164 (v := .inl (5 : Int32)) rfl ?_
  refine zf_stk fm_0 dF0_165 (st₉ := [.inl (i + (5 : Int32)), .inr (.inr (some 30)), .inl (X.2 ((i + (4 : Int32))).toNatClampNeg), .inl (X.2 ((i + (3 : Int32))).toNatClampNeg), .inl (X.2 ((i + (2 : Int32))).toNatClampNeg), .inl (X.2 ((i + (1 : Int32))).toNatClampNeg), .inr (.inr (some 64))]) rfl rfl ?_
  obtain ⟨hg, h⟩ := h
  refine zf_one fm_0 dF0_166 (oo_sc hg) ?_
  refine zf_push fm_0 dF0_167 (v := .inr (.inr (some 125))) rfl ?_
  refine zf_cw fm_0 dF0_168 cw_89 fm_1 [.inr (.inr (some 125)), .inl (X.2 ((i + (5 : Int32))).toNatClampNeg), .inl (X.2 ((i + (4 : Int32))).toNatClampNeg), .inl (X.2 ((i + (3 : Int32))).toNatClampNeg), .inl (X.2 ((i + (2 : Int32))).toNatClampNeg), .inl (X.2 ((i + (1 : Int32))).toNatClampNeg), .inr (.inr (some 64))] [] rfl (by omega) (by omega) rfl (zf_mono h (zfi_go ?_))
  · intro v1 S2 hv
    obtain ⟨hS2, h⟩ := hv
    refine zf_sto fm_0 dF0_171 [(5, .inl v1), (0, .inr (.inr (some 30))), (1, .inr (.inr (some 64))), (2, .inr (.inr (some 94))), (3, .inr (.inr (some 125))), (4, .inl i)] rfl rfl rfl ?_
    refine zf_push fm_0 dF0_173 (v := .inr (.inr (some 94))) rfl ?_
    refine zf_push fm_0 dF0_174 (v := .inr (.inr (some 30))) rfl ?_
    refine zf_push fm_0 dF0_175 (v := .inl i) rfl ?_
    refine zf_push fm_0 dF0_177 (v := .inl (1 : Int32)) rfl ?_
    refine zf_stk fm_0 dF0_178 (st₉ := [.inl (i + (1 : Int32)), .inr (.inr (some 30)), .inr (.inr (some 94))]) rfl rfl ?_
    obtain ⟨hg, h⟩ := h
    refine zf_one fm_0 dF0_179 (oo_sc hg) ?_
    refine zf_push fm_0 dF0_180 (v := .inr (.inr (some 30))) rfl ?_
    refine zf_push fm_0 dF0_181 (v := .inl i) rfl ?_
    refine zf_push fm_0 dF0_183 (v := .inl (2 : Int32)) rfl ?_
    refine zf_stk fm_0 dF0_184 (st₉ := [.inl (i + (2 : Int32)), .inr (.inr (some 30)), .inl (X.2 ((i + (1 : Int32))).toNatClampNeg), .inr (.inr (some 94))]) rfl rfl ?_
    obtain ⟨hg, h⟩ := h
    refine zf_one fm_0 dF0_185 (oo_sc hg) ?_
    refine zf_push fm_0 dF0_186 (v := .inr (.inr (some 30))) rfl ?_
    refine zf_push fm_0 dF0_187 (v := .inl i) rfl ?_
    refine zf_push fm_0 dF0_189 (v := .inl (3 : Int32)) rfl ?_
    refine zf_stk fm_0 dF0_190 (st₉ := [.inl (i + (3 : Int32)), .inr (.inr (some 30)), .inl (X.2 ((i + (2 : Int32))).toNatClampNeg), .inl (X.2 ((i + (1 : Int32))).toNatClampNeg), .inr (.inr (some 94))]) rfl rfl ?_
    obtain ⟨hg, h⟩ := h
    refine zf_one fm_0 dF0_191 (oo_sc hg) ?_
    refine zf_push fm_0 dF0_192 (v := .inr (.inr (some 30))) rfl ?_
    refine zf_push fm_0 dF0_193 (v := .inl i) rfl ?_
    refine zf_push fm_0 dF0_195 (v := .inl (4 : Int32)) rfl ?_
    refine zf_stk fm_0 dF0_196 (st₉ := [.inl (i + (4 : Int32)), .inr (.inr (some 30)), .inl (X.2 ((i + (3 : Int32))).toNatClampNeg), .inl (X.2 ((i + (2 : Int32))).toNatClampNeg), .inl (X.2 ((i + (1 : Int32))).toNatClampNeg), .inr (.inr (some 94))]) rfl rfl ?_
    obtain ⟨hg, h⟩ := h
    refine zf_one fm_0 dF0_197 (oo_sc hg) ?_
    refine zf_push fm_0 dF0_198 (v := .inr (.inr (some 30))) rfl ?_
    refine zf_push fm_0 dF0_199 (v := .inl i) rfl ?_
    refine zf_push fm_0 dF0_201 (v := .inl (5 : Int32)) rfl ?_
    refine zf_stk fm_0 dF0_202 (st₉ := [.inl (i + (5 : Int32)), .inr (.inr (some 30)), .inl (X.2 ((i + (4 : Int32))).toNatClampNeg), .inl (X.2 ((i + (3 : Int32))).toNatClampNeg), .inl (X.2 ((i + (2 : Int32))).toNatClampNeg), .inl (X.2 ((i + (1 : Int32))).toNatClampNeg), .inr (.inr (some 94))]) rfl rfl ?_
    obtain ⟨hg, h⟩ := h
    refine zf_one fm_0 dF0_203 (oo_sc hg) ?_
    refine zf_cv fm_0 dF0_204 v_14_94_12 hm_166 [.inl (X.2 ((i + (5 : Int32))).toNatClampNeg), .inl (X.2 ((i + (4 : Int32))).toNatClampNeg), .inl (X.2 ((i + (3 : Int32))).toNatClampNeg), .inl (X.2 ((i + (2 : Int32))).toNatClampNeg), .inl (X.2 ((i + (1 : Int32))).toNatClampNeg)] [] rfl (zT_rt hS2 s_94 rfl) ⟨by omega, by omega⟩ rfl (zw_mono h (zi_go ?_ ?_))
    · intro v4 S3 hv
      obtain ⟨hS3, h⟩ := hv
      refine zf_sto fm_0 dF0_207 [(6, .inl v4), (5, .inl v1), (0, .inr (.inr (some 30))), (1, .inr (.inr (some 64))), (2, .inr (.inr (some 94))), (3, .inr (.inr (some 125))), (4, .inl i)] rfl rfl rfl ?_
      refine zf_goto fm_0 dF0_209 (t := 957) rfl ?_
      exact zf_sub (ma_nd_of (ks := [0, 1, 2, 3, 4]) rfl (by decide)) (ma_nd_of (ks := [6, 5, 0, 1, 2, 3, 4]) rfl (by decide)) (ma_le_cons rfl (ma_le_cons rfl (ma_le_cons rfl (ma_le_cons rfl (ma_le_cons rfl (ma_le_nil _)))))) h
    · intro x S9 hx
      exact hx.elim
theorem gl_212 {X : Nat × (Nat → Int32)} {d w : Nat} {S : ma_S} {Q : Option ma_V → ma_S → Prop} (i : Int32) (hd : 13 ≤ d) (hw : 494 ≤ w) (hS : zT S) (h : (0 ≤ (i + (1 : Int32)) ∧ ((i + (1 : Int32))).toNatClampNeg < X.1) ∧ (ma_fp X 2 (d - 1) (w - 23) 0 [(0, .inr (.inr (some 64))), (1, .inl (X.2 ((i + (1 : Int32))).toNatClampNeg)), (2, .inr (.inr (some 125)))] [] S (zfi_ (fun v1 S2 => zT S2 ∧ ((0 ≤ (i + (1 : Int32)) ∧ ((i + (1 : Int32))).toNatClampNeg < X.1) ∧ (ma_wp X (d - 1) (w - 21) 169 0 [(0, .inr (.inr (some 94))), (1, .inl (X.2 ((i + (1 : Int32))).toNatClampNeg))] [] S2 (zi (fun v4 S3 => zT S3 ∧ (ma_fp X 0 d w 957 [(0, .inr (.inr (some 30))), (1, .inr (.inr (some 64))), (2, .inr (.inr (some 94))), (3, .inr (.inr (some 125))), (4, .inl i)] [] S3 Q)) (fun _ _ => False)))))))) : ma_fp X 0 d w 212 [(0, .inr (.inr (some 30))), (1, .inr (.inr (some 64))), (2, .inr (.inr (some 94))), (3, .inr (.inr (some 125))), (4, .inl i)] [] S Q := by
  refine zf_push fm_0 dF0_212 (v := .inr (.inr (some 64))) rfl ?_
  refine zf_push fm_0 dF0_213 (v := .inr (.inr (some 30))) rfl ?_
  refine zf_push fm_0 dF0_214 (v := .inl i) rfl ?_
  refine zf_push fm_0 dF0_216 (v := .inl (1 : Int32)) rfl ?_
  refine zf_stk fm_0 dF0_217 (st₉ := [.inl (i + (1 : Int32)), .inr (.inr (some 30)), .inr (.inr (some 64))]) rfl rfl ?_
  obtain ⟨hg, h⟩ := h
  refine zf_one fm_0 dF0_218 (oo_sc hg) ?_
  refine zf_push fm_0 dF0_219 (v := .inr (.inr (some 125))) rfl ?_
  refine zf_cw fm_0 dF0_220 cw_95 fm_2 [.inr (.inr (some 125)), .inl (X.2 ((i + (1 : Int32))).toNatClampNeg), .inr (.inr (some 64))] [] rfl (by omega) (by omega) rfl (zf_mono h (zfi_go ?_))
  · intro v1 S2 hv
    obtain ⟨hS2, h⟩ := hv
    refine zf_sto fm_0 dF0_223 [(5, .inl v1), (0, .inr (.inr (some 30))), (1, .inr (.inr (some 64))), (2, .inr (.inr (some 94))), (3, .inr (.inr (some 125))), (4, .inl i)] rfl rfl rfl ?_
    refine zf_push fm_0 dF0_225 (v := .inr (.inr (some 94))) rfl ?_
    refine zf_push fm_0 dF0_226 (v := .inr (.inr (some 30))) rfl ?_
    refine zf_push fm_0 dF0_227 (v := .inl i) rfl ?_
    refine zf_push fm_0 dF0_229 (v := .inl (1 : Int32)) rfl ?_
    refine zf_stk fm_0 dF0_230 (st₉ := [.inl (i + (1 : Int32)), .inr (.inr (some 30)), .inr (.inr (some 94))]) rfl rfl ?_
    obtain ⟨hg, h⟩ := h
    refine zf_one fm_0 dF0_231 (oo_sc hg) ?_
    refine zf_cv fm_0 dF0_232 v_14_98_12 hm_169 [.inl (X.2 ((i + (1 : Int32))).toNatClampNeg)] [] rfl (zT_rt hS2 s_94 rfl) ⟨by omega, by omega⟩ rfl (zw_mono h (zi_go ?_ ?_))
    · intro v4 S3 hv
      obtain ⟨hS3, h⟩ := hv
      refine zf_sto fm_0 dF0_235 [(6, .inl v4), (5, .inl v1), (0, .inr (.inr (some 30))), (1, .inr (.inr (some 64))), (2, .inr (.inr (some 94))), (3, .inr (.inr (some 125))), (4, .inl i)] rfl rfl rfl ?_
      refine zf_goto fm_0 dF0_237 (t := 957) rfl ?_
      exact zf_sub (ma_nd_of (ks := [0, 1, 2, 3, 4]) rfl (by decide)) (ma_nd_of (ks := [6, 5, 0, 1, 2, 3, 4]) rfl (by decide)) (ma_le_cons rfl (ma_le_cons rfl (ma_le_cons rfl (ma_le_cons rfl (ma_le_cons rfl (ma_le_nil _)))))) h
    · intro x S9 hx
      exact hx.elim
theorem gl_240 {X : Nat × (Nat → Int32)} {d w : Nat} {S : ma_S} {Q : Option ma_V → ma_S → Prop} (i : Int32) (hd : 13 ≤ d) (hw : 494 ≤ w) (hS : zT S) (h : (0 ≤ (i + (1 : Int32)) ∧ ((i + (1 : Int32))).toNatClampNeg < X.1) ∧ ((0 ≤ (i + (2 : Int32)) ∧ ((i + (2 : Int32))).toNatClampNeg < X.1) ∧ (ma_fp X 3 (d - 1) (w - 24) 0 [(0, .inr (.inr (some 64))), (1, .inl (X.2 ((i + (1 : Int32))).toNatClampNeg)), (2, .inl (X.2 ((i + (2 : Int32))).toNatClampNeg)), (3, .inr (.inr (some 125)))] [] S (zfi_ (fun v1 S2 => zT S2 ∧ ((0 ≤ (i + (1 : Int32)) ∧ ((i + (1 : Int32))).toNatClampNeg < X.1) ∧ ((0 ≤ (i + (2 : Int32)) ∧ ((i + (2 : Int32))).toNatClampNeg < X.1) ∧ (ma_wp X (d - 1) (w - 23) 170 0 [(0, .inr (.inr (some 94))), (1, .inl (X.2 ((i + (1 : Int32))).toNatClampNeg)), (2, .inl (X.2 ((i + (2 : Int32))).toNatClampNeg))] [] S2 (zi (fun v4 S3 => zT S3 ∧ (ma_fp X 0 d w 957 [(0, .inr (.inr (some 30))), (1, .inr (.inr (some 64))), (2, .inr (.inr (some 94))), (3, .inr (.inr (some 125))), (4, .inl i)] [] S3 Q)) (fun _ _ => False)))))))))) : ma_fp X 0 d w 240 [(0, .inr (.inr (some 30))), (1, .inr (.inr (some 64))), (2, .inr (.inr (some 94))), (3, .inr (.inr (some 125))), (4, .inl i)] [] S Q := by
  refine zf_push fm_0 dF0_240 (v := .inr (.inr (some 64))) rfl ?_
  refine zf_push fm_0 dF0_241 (v := .inr (.inr (some 30))) rfl ?_
  refine zf_push fm_0 dF0_242 (v := .inl i) rfl ?_
  refine zf_push fm_0 dF0_244 (v := .inl (1 : Int32)) rfl ?_
  refine zf_stk fm_0 dF0_245 (st₉ := [.inl (i + (1 : Int32)), .inr (.inr (some 30)), .inr (.inr (some 64))]) rfl rfl ?_
  obtain ⟨hg, h⟩ := h
  refine zf_one fm_0 dF0_246 (oo_sc hg) ?_
  refine zf_push fm_0 dF0_247 (v := .inr (.inr (some 30))) rfl ?_
  refine zf_push fm_0 dF0_248 (v := .inl i) rfl ?_
  refine zf_push fm_0 dF0_250 (v := .inl (2 : Int32)) rfl ?_
  refine zf_stk fm_0 dF0_251 (st₉ := [.inl (i + (2 : Int32)), .inr (.inr (some 30)), .inl (X.2 ((i + (1 : Int32))).toNatClampNeg), .inr (.inr (some 64))]) rfl rfl ?_
  obtain ⟨hg, h⟩ := h
  refine zf_one fm_0 dF0_252 (oo_sc hg) ?_
  refine zf_push fm_0 dF0_253 (v := .inr (.inr (some 125))) rfl ?_
  refine zf_cw fm_0 dF0_254 cw_99 fm_3 [.inr (.inr (some 125)), .inl (X.2 ((i + (2 : Int32))).toNatClampNeg), .inl (X.2 ((i + (1 : Int32))).toNatClampNeg), .inr (.inr (some 64))] [] rfl (by omega) (by omega) rfl (zf_mono h (zfi_go ?_))
  · intro v1 S2 hv
    obtain ⟨hS2, h⟩ := hv
    refine zf_sto fm_0 dF0_257 [(5, .inl v1), (0, .inr (.inr (some 30))), (1, .inr (.inr (some 64))), (2, .inr (.inr (some 94))), (3, .inr (.inr (some 125))), (4, .inl i)] rfl rfl rfl ?_
    refine zf_push fm_0 dF0_259 (v := .inr (.inr (some 94))) rfl ?_
    refine zf_push fm_0 dF0_260 (v := .inr (.inr (some 30))) rfl ?_
    refine zf_push fm_0 dF0_261 (v := .inl i) rfl ?_
    refine zf_push fm_0 dF0_263 (v := .inl (1 : Int32)) rfl ?_
    refine zf_stk fm_0 dF0_264 (st₉ := [.inl (i + (1 : Int32)), .inr (.inr (some 30)), .inr (.inr (some 94))]) rfl rfl ?_
    obtain ⟨hg, h⟩ := h
    refine zf_one fm_0 dF0_265 (oo_sc hg) ?_
    refine zf_push fm_0 dF0_266 (v := .inr (.inr (some 30))) rfl ?_
    refine zf_push fm_0 dF0_267 (v := .inl i) rfl ?_
    refine zf_push fm_0 dF0_269 (v := .inl (2 : Int32)) rfl ?_
    refine zf_stk fm_0 dF0_270 (st₉ := [.inl (i + (2 : Int32)), .inr (.inr (some 30)), .inl (X.2 ((i + (1 : Int32))).toNatClampNeg), .inr (.inr (some 94))]) rfl rfl ?_
    obtain ⟨hg, h⟩ := h
    refine zf_one fm_0 dF0_271 (oo_sc hg) ?_
    refine zf_cv fm_0 dF0_272 v_14_102_12 hm_170 [.inl (X.2 ((i + (2 : Int32))).toNatClampNeg), .inl (X.2 ((i + (1 : Int32))).toNatClampNeg)] [] rfl (zT_rt hS2 s_94 rfl) ⟨by omega, by omega⟩ rfl (zw_mono h (zi_go ?_ ?_))
    · intro v4 S3 hv
      obtain ⟨hS3, h⟩ := hv
      refine zf_sto fm_0 dF0_275 [(6, .inl v4), (5, .inl v1), (0, .inr (.inr (some 30))), (1, .inr (.inr (some 64))), (2, .inr (.inr (some 94))), (3, .inr (.inr (some 125))), (4, .inl i)] rfl rfl rfl ?_
      refine zf_goto fm_0 dF0_277 (t := 957) rfl ?_
      exact zf_sub (ma_nd_of (ks := [0, 1, 2, 3, 4]) rfl (by decide)) (ma_nd_of (ks := [6, 5, 0, 1, 2, 3, 4]) rfl (by decide)) (ma_le_cons rfl (ma_le_cons rfl (ma_le_cons rfl (ma_le_cons rfl (ma_le_cons rfl (ma_le_nil _)))))) h
    · intro x S9 hx
      exact hx.elim
theorem gl_280 {X : Nat × (Nat → Int32)} {d w : Nat} {S : ma_S} {Q : Option ma_V → ma_S → Prop} (i : Int32) (hd : 13 ≤ d) (hw : 494 ≤ w) (hS : zT S) (h : ma_wp X (d - 1) (w - 21) 127 0 [(0, .inr (.inr (some 64)))] [] S (zi (fun v2 S1 => zT S1 ∧ (ma_wp X (d - 1) (w - 21) 171 0 [(0, .inr (.inr (some 94)))] [] S1 (zi (fun v4 S3 => zT S3 ∧ (ma_fp X 0 d w 957 [(0, .inr (.inr (some 30))), (1, .inr (.inr (some 64))), (2, .inr (.inr (some 94))), (3, .inr (.inr (some 125))), (4, .inl i)] [] S3 Q)) (fun _ _ => False)))) (fun _ _ => False))) : ma_fp X 0 d w 280 [(0, .inr (.inr (some 30))), (1, .inr (.inr (some 64))), (2, .inr (.inr (some 94))), (3, .inr (.inr (some 125))), (4, .inl i)] [] S Q := by
  refine zf_push fm_0 dF0_280 (v := .inr (.inr (some 64))) rfl ?_
  refine zf_cv fm_0 dF0_281 v_14_103_11 hm_127 [] [] rfl (zT_rt hS s_64 rfl) ⟨by omega, by omega⟩ rfl (zw_mono h (zi_go ?_ ?_))
  · intro v2 S1 hv
    obtain ⟨hS1, h⟩ := hv
    refine zf_stk fm_0 dF0_284 (st₉ := []) rfl rfl ?_
    refine zf_push fm_0 dF0_285 (v := .inr (.inr (some 94))) rfl ?_
    refine zf_cv fm_0 dF0_286 v_14_106_12 hm_171 [] [] rfl (zT_rt hS1 s_94 rfl) ⟨by omega, by omega⟩ rfl (zw_mono h (zi_go ?_ ?_))
    · intro v4 S3 hv
      obtain ⟨hS3, h⟩ := hv
      refine zf_stk fm_0 dF0_289 (st₉ := []) rfl rfl ?_
      refine zf_goto fm_0 dF0_290 (t := 957) rfl ?_
      exact h
    · intro x S9 hx
      exact hx.elim
  · intro x S9 hx
    exact hx.elim
theorem gl_293 {X : Nat × (Nat → Int32)} {d w : Nat} {S : ma_S} {Q : Option ma_V → ma_S → Prop} (i : Int32) (hd : 13 ≤ d) (hw : 494 ≤ w) (hS : zT S) (h : (0 ≤ (i + (1 : Int32)) ∧ ((i + (1 : Int32))).toNatClampNeg < X.1) ∧ ((0 ≤ (i + (2 : Int32)) ∧ ((i + (2 : Int32))).toNatClampNeg < X.1) ∧ (ma_fp X 4 (d - 1) (w - 24) 0 [(0, .inr (.inr (some 64))), (1, .inl (X.2 ((i + (1 : Int32))).toNatClampNeg)), (2, .inl (X.2 ((i + (2 : Int32))).toNatClampNeg)), (3, .inr (.inr (some 125)))] [] S (zfi_ (fun v1 S2 => zT S2 ∧ ((0 ≤ (i + (1 : Int32)) ∧ ((i + (1 : Int32))).toNatClampNeg < X.1) ∧ ((0 ≤ (i + (2 : Int32)) ∧ ((i + (2 : Int32))).toNatClampNeg < X.1) ∧ (ma_wp X (d - 1) (w - 22) 181 0 [(0, .inr (.inr (some 94))), (1, .inl (X.2 ((i + (1 : Int32))).toNatClampNeg)), (2, .inl (X.2 ((i + (2 : Int32))).toNatClampNeg))] [] S2 (zi (fun v4 S3 => zT S3 ∧ (ma_fp X 0 d w 957 [(0, .inr (.inr (some 30))), (1, .inr (.inr (some 64))), (2, .inr (.inr (some 94))), (3, .inr (.inr (some 125))), (4, .inl i)] [] S3 Q)) (fun _ _ => False)))))))))) : ma_fp X 0 d w 293 [(0, .inr (.inr (some 30))), (1, .inr (.inr (some 64))), (2, .inr (.inr (some 94))), (3, .inr (.inr (some 125))), (4, .inl i)] [] S Q := by
  refine zf_push fm_0 dF0_293 (v := .inr (.inr (some 64))) rfl ?_
  refine zf_push fm_0 dF0_294 (v := .inr (.inr (some 30))) rfl ?_
  refine zf_push fm_0 dF0_295 (v := .inl i) rfl ?_
  refine zf_push fm_0 dF0_297 (v := .inl (1 : Int32)) rfl ?_
  refine zf_stk fm_0 dF0_298 (st₉ := [.inl (i + (1 : Int32)), .inr (.inr (some 30)), .inr (.inr (some 64))]) rfl rfl ?_
  obtain ⟨hg, h⟩ := h
  refine zf_one fm_0 dF0_299 (oo_sc hg) ?_
  refine zf_push fm_0 dF0_300 (v := .inr (.inr (some 30))) rfl ?_
  refine zf_push fm_0 dF0_301 (v := .inl i) rfl ?_
  refine zf_push fm_0 dF0_303 (v := .inl (2 : Int32)) rfl ?_
  refine zf_stk fm_0 dF0_304 (st₉ := [.inl (i + (2 : Int32)), .inr (.inr (some 30)), .inl (X.2 ((i + (1 : Int32))).toNatClampNeg), .inr (.inr (some 64))]) rfl rfl ?_
  obtain ⟨hg, h⟩ := h
  refine zf_one fm_0 dF0_305 (oo_sc hg) ?_
  refine zf_push fm_0 dF0_306 (v := .inr (.inr (some 125))) rfl ?_
  refine zf_cw fm_0 dF0_307 cw_107 fm_4 [.inr (.inr (some 125)), .inl (X.2 ((i + (2 : Int32))).toNatClampNeg), .inl (X.2 ((i + (1 : Int32))).toNatClampNeg), .inr (.inr (some 64))] [] rfl (by omega) (by omega) rfl (zf_mono h (zfi_go ?_))
  · intro v1 S2 hv
    obtain ⟨hS2, h⟩ := hv
    refine zf_sto fm_0 dF0_310 [(5, .inl v1), (0, .inr (.inr (some 30))), (1, .inr (.inr (some 64))), (2, .inr (.inr (some 94))), (3, .inr (.inr (some 125))), (4, .inl i)] rfl rfl rfl ?_
    refine zf_push fm_0 dF0_312 (v := .inr (.inr (some 94))) rfl ?_
    refine zf_push fm_0 dF0_313 (v := .inr (.inr (some 30))) rfl ?_
    refine zf_push fm_0 dF0_314 (v := .inl i) rfl ?_
    refine zf_push fm_0 dF0_316 (v := .inl (1 : Int32)) rfl ?_
    refine zf_stk fm_0 dF0_317 (st₉ := [.inl (i + (1 : Int32)), .inr (.inr (some 30)), .inr (.inr (some 94))]) rfl rfl ?_
    obtain ⟨hg, h⟩ := h
    refine zf_one fm_0 dF0_318 (oo_sc hg) ?_
    refine zf_push fm_0 dF0_319 (v := .inr (.inr (some 30))) rfl ?_
    refine zf_push fm_0 dF0_320 (v := .inl i) rfl ?_
    refine zf_push fm_0 dF0_322 (v := .inl (2 : Int32)) rfl ?_
    refine zf_stk fm_0 dF0_323 (st₉ := [.inl (i + (2 : Int32)), .inr (.inr (some 30)), .inl (X.2 ((i + (1 : Int32))).toNatClampNeg), .inr (.inr (some 94))]) rfl rfl ?_
    obtain ⟨hg, h⟩ := h
    refine zf_one fm_0 dF0_324 (oo_sc hg) ?_
    refine zf_cv fm_0 dF0_325 v_14_109_12 hm_181 [.inl (X.2 ((i + (2 : Int32))).toNatClampNeg), .inl (X.2 ((i + (1 : Int32))).toNatClampNeg)] [] rfl (zT_rt hS2 s_94 rfl) ⟨by omega, by omega⟩ rfl (zw_mono h (zi_go ?_ ?_))
    · intro v4 S3 hv
      obtain ⟨hS3, h⟩ := hv
      refine zf_sto fm_0 dF0_328 [(6, .inl v4), (5, .inl v1), (0, .inr (.inr (some 30))), (1, .inr (.inr (some 64))), (2, .inr (.inr (some 94))), (3, .inr (.inr (some 125))), (4, .inl i)] rfl rfl rfl ?_
      refine zf_goto fm_0 dF0_330 (t := 957) rfl ?_
      exact zf_sub (ma_nd_of (ks := [0, 1, 2, 3, 4]) rfl (by decide)) (ma_nd_of (ks := [6, 5, 0, 1, 2, 3, 4]) rfl (by decide)) (ma_le_cons rfl (ma_le_cons rfl (ma_le_cons rfl (ma_le_cons rfl (ma_le_cons rfl (ma_le_nil _)))))) h
    · intro x S9 hx
      exact hx.elim
theorem gl_333 {X : Nat × (Nat → Int32)} {d w : Nat} {S : ma_S} {Q : Option ma_V → ma_S → Prop} (i : Int32) (hd : 13 ≤ d) (hw : 494 ≤ w) (hS : zT S) (h : (0 ≤ (i + (1 : Int32)) ∧ ((i + (1 : Int32))).toNatClampNeg < X.1) ∧ (if (X.2 ((i + (1 : Int32))).toNatClampNeg) = 0 then ((0 ≤ (i + (2 : Int32)) ∧ ((i + (2 : Int32))).toNatClampNeg < X.1) ∧ ((0 ≤ (i + (3 : Int32)) ∧ ((i + (3 : Int32))).toNatClampNeg < X.1) ∧ (ma_fp X 5 (d - 1) (w - 25) 0 [(0, .inr (.inr (some 64))), (1, .inl (0 : Int32)), (2, .inl (X.2 ((i + (2 : Int32))).toNatClampNeg)), (3, .inl (X.2 ((i + (3 : Int32))).toNatClampNeg)), (4, .inr (.inr (some 125)))] [] S (zfi_ (fun v1 S2 => zT S2 ∧ ((0 ≤ (i + (1 : Int32)) ∧ ((i + (1 : Int32))).toNatClampNeg < X.1) ∧ (if (X.2 ((i + (1 : Int32))).toNatClampNeg) = 0 then ((0 ≤ (i + (2 : Int32)) ∧ ((i + (2 : Int32))).toNatClampNeg < X.1) ∧ ((0 ≤ (i + (3 : Int32)) ∧ ((i + (3 : Int32))).toNatClampNeg < X.1) ∧ (ma_wp X (d - 1) (w - 23) 243 0 [(0, .inr (.inr (some 94))), (1, .inl (0 : Int32)), (2, .inl (X.2 ((i + (2 : Int32))).toNatClampNeg)), (3, .inl (X.2 ((i + (3 : Int32))).toNatClampNeg))] [] S2 (zi (fun v4 S3 => zT S3 ∧ (ma_fp X 0 d w 957 [(0, .inr (.inr (some 30))), (1, .inr (.inr (some 64))), (2, .inr (.inr (some 94))), (3, .inr (.inr (some 125))), (4, .inl i)] [] S3 Q)) (fun _ _ => False))))) else ((0 ≤ (i + (2 : Int32)) ∧ ((i + (2 : Int32))).toNatClampNeg < X.1) ∧ ((0 ≤ (i + (3 : Int32)) ∧ ((i + (3 : Int32))).toNatClampNeg < X.1) ∧ (ma_wp X (d - 1) (w - 23) 243 0 [(0, .inr (.inr (some 94))), (1, .inl (1 : Int32)), (2, .inl (X.2 ((i + (2 : Int32))).toNatClampNeg)), (3, .inl (X.2 ((i + (3 : Int32))).toNatClampNeg))] [] S2 (zi (fun v6 S5 => zT S5 ∧ (ma_fp X 0 d w 957 [(0, .inr (.inr (some 30))), (1, .inr (.inr (some 64))), (2, .inr (.inr (some 94))), (3, .inr (.inr (some 125))), (4, .inl i)] [] S5 Q)) (fun _ _ => False)))))))))))) else ((0 ≤ (i + (2 : Int32)) ∧ ((i + (2 : Int32))).toNatClampNeg < X.1) ∧ ((0 ≤ (i + (3 : Int32)) ∧ ((i + (3 : Int32))).toNatClampNeg < X.1) ∧ (ma_fp X 5 (d - 1) (w - 25) 0 [(0, .inr (.inr (some 64))), (1, .inl (1 : Int32)), (2, .inl (X.2 ((i + (2 : Int32))).toNatClampNeg)), (3, .inl (X.2 ((i + (3 : Int32))).toNatClampNeg)), (4, .inr (.inr (some 125)))] [] S (zfi_ (fun v7 S8 => zT S8 ∧ ((0 ≤ (i + (1 : Int32)) ∧ ((i + (1 : Int32))).toNatClampNeg < X.1) ∧ (if (X.2 ((i + (1 : Int32))).toNatClampNeg) = 0 then ((0 ≤ (i + (2 : Int32)) ∧ ((i + (2 : Int32))).toNatClampNeg < X.1) ∧ ((0 ≤ (i + (3 : Int32)) ∧ ((i + (3 : Int32))).toNatClampNeg < X.1) ∧ (ma_wp X (d - 1) (w - 23) 243 0 [(0, .inr (.inr (some 94))), (1, .inl (0 : Int32)), (2, .inl (X.2 ((i + (2 : Int32))).toNatClampNeg)), (3, .inl (X.2 ((i + (3 : Int32))).toNatClampNeg))] [] S8 (zi (fun v10 S9 => zT S9 ∧ (ma_fp X 0 d w 957 [(0, .inr (.inr (some 30))), (1, .inr (.inr (some 64))), (2, .inr (.inr (some 94))), (3, .inr (.inr (some 125))), (4, .inl i)] [] S9 Q)) (fun _ _ => False))))) else ((0 ≤ (i + (2 : Int32)) ∧ ((i + (2 : Int32))).toNatClampNeg < X.1) ∧ ((0 ≤ (i + (3 : Int32)) ∧ ((i + (3 : Int32))).toNatClampNeg < X.1) ∧ (ma_wp X (d - 1) (w - 23) 243 0 [(0, .inr (.inr (some 94))), (1, .inl (1 : Int32)), (2, .inl (X.2 ((i + (2 : Int32))).toNatClampNeg)), (3, .inl (X.2 ((i + (3 : Int32))).toNatClampNeg))] [] S8 (zi (fun v12 S11 => zT S11 ∧ (ma_fp X 0 d w 957 [(0, .inr (.inr (some 30))), (1, .inr (.inr (some 64))), (2, .inr (.inr (some 94))), (3, .inr (.inr (some 125))), (4, .inl i)] [] S11 Q)) (fun _ _ => False)))))))))))))) : ma_fp X 0 d w 333 [(0, .inr (.inr (some 30))), (1, .inr (.inr (some 64))), (2, .inr (.inr (some 94))), (3, .inr (.inr (some 125))), (4, .inl i)] [] S Q := by
  refine zf_push fm_0 dF0_333 (v := .inr (.inr (some 64))) rfl ?_
  refine zf_push fm_0 dF0_334 (v := .inr (.inr (some 30))) rfl ?_
  refine zf_push fm_0 dF0_335 (v := .inl i) rfl ?_
  refine zf_push fm_0 dF0_337 (v := .inl (1 : Int32)) rfl ?_
  refine zf_stk fm_0 dF0_338 (st₉ := [.inl (i + (1 : Int32)), .inr (.inr (some 30)), .inr (.inr (some 64))]) rfl rfl ?_
  obtain ⟨hg, h⟩ := h
  refine zf_one fm_0 dF0_339 (oo_sc hg) ?_
  refine zf_if0 fm_0 dF0_340 (t := 347) rfl zc0_eq ?_ ?_
  · intro hc
    rw [if_pos hc] at h
    refine zf_push fm_0 dF0_347 (v := .inl (0 : Int32)) rfl ?_
    refine zf_push fm_0 dF0_348 (v := .inr (.inr (some 30))) rfl ?_
    refine zf_push fm_0 dF0_349 (v := .inl i) rfl ?_
    refine zf_push fm_0 dF0_351 (v := .inl (2 : Int32)) rfl ?_
    refine zf_stk fm_0 dF0_352 (st₉ := [.inl (i + (2 : Int32)), .inr (.inr (some 30)), .inl (0 : Int32), .inr (.inr (some 64))]) rfl rfl ?_
    obtain ⟨hg, h⟩ := h
    refine zf_one fm_0 dF0_353 (oo_sc hg) ?_
    refine zf_push fm_0 dF0_354 (v := .inr (.inr (some 30))) rfl ?_
    refine zf_push fm_0 dF0_355 (v := .inl i) rfl ?_
    refine zf_push fm_0 dF0_357 (v := .inl (3 : Int32)) rfl ?_
    refine zf_stk fm_0 dF0_358 (st₉ := [.inl (i + (3 : Int32)), .inr (.inr (some 30)), .inl (X.2 ((i + (2 : Int32))).toNatClampNeg), .inl (0 : Int32), .inr (.inr (some 64))]) rfl rfl ?_
    obtain ⟨hg, h⟩ := h
    refine zf_one fm_0 dF0_359 (oo_sc hg) ?_
    refine zf_push fm_0 dF0_360 (v := .inr (.inr (some 125))) rfl ?_
    refine zf_cw fm_0 dF0_361 cw_110 fm_5 [.inr (.inr (some 125)), .inl (X.2 ((i + (3 : Int32))).toNatClampNeg), .inl (X.2 ((i + (2 : Int32))).toNatClampNeg), .inl (0 : Int32), .inr (.inr (some 64))] [] rfl (by omega) (by omega) rfl (zf_mono h (zfi_go ?_))
    · intro v1 S2 hv
      obtain ⟨hS2, h⟩ := hv
      refine zf_sto fm_0 dF0_364 [(5, .inl v1), (0, .inr (.inr (some 30))), (1, .inr (.inr (some 64))), (2, .inr (.inr (some 94))), (3, .inr (.inr (some 125))), (4, .inl i)] rfl rfl rfl ?_
      refine zf_push fm_0 dF0_366 (v := .inr (.inr (some 94))) rfl ?_
      refine zf_push fm_0 dF0_367 (v := .inr (.inr (some 30))) rfl ?_
      refine zf_push fm_0 dF0_368 (v := .inl i) rfl ?_
      refine zf_push fm_0 dF0_370 (v := .inl (1 : Int32)) rfl ?_
      refine zf_stk fm_0 dF0_371 (st₉ := [.inl (i + (1 : Int32)), .inr (.inr (some 30)), .inr (.inr (some 94))]) rfl rfl ?_
      obtain ⟨hg, h⟩ := h
      refine zf_one fm_0 dF0_372 (oo_sc hg) ?_
      refine zf_if0 fm_0 dF0_373 (t := 380) rfl zc0_eq ?_ ?_
      · intro hc
        rw [if_pos hc] at h
        refine zf_push fm_0 dF0_380 (v := .inl (0 : Int32)) rfl ?_
        refine zf_push fm_0 dF0_381 (v := .inr (.inr (some 30))) rfl ?_
        refine zf_push fm_0 dF0_382 (v := .inl i) rfl ?_
        refine zf_push fm_0 dF0_384 (v := .inl (2 : Int32)) rfl ?_
        refine zf_stk fm_0 dF0_385 (st₉ := [.inl (i + (2 : Int32)), .inr (.inr (some 30)), .inl (0 : Int32), .inr (.inr (some 94))]) rfl rfl ?_
        obtain ⟨hg, h⟩ := h
        refine zf_one fm_0 dF0_386 (oo_sc hg) ?_
        refine zf_push fm_0 dF0_387 (v := .inr (.inr (some 30))) rfl ?_
        refine zf_push fm_0 dF0_388 (v := .inl i) rfl ?_
        refine zf_push fm_0 dF0_390 (v := .inl (3 : Int32)) rfl ?_
        refine zf_stk fm_0 dF0_391 (st₉ := [.inl (i + (3 : Int32)), .inr (.inr (some 30)), .inl (X.2 ((i + (2 : Int32))).toNatClampNeg), .inl (0 : Int32), .inr (.inr (some 94))]) rfl rfl ?_
        obtain ⟨hg, h⟩ := h
        refine zf_one fm_0 dF0_392 (oo_sc hg) ?_
        refine zf_cv fm_0 dF0_393 v_14_113_12 hm_243 [.inl (X.2 ((i + (3 : Int32))).toNatClampNeg), .inl (X.2 ((i + (2 : Int32))).toNatClampNeg), .inl (0 : Int32)] [] rfl (zT_rt hS2 s_94 rfl) ⟨by omega, by omega⟩ rfl (zw_mono h (zi_go ?_ ?_))
        · intro v4 S3 hv
          obtain ⟨hS3, h⟩ := hv
          refine zf_sto fm_0 dF0_396 [(6, .inl v4), (5, .inl v1), (0, .inr (.inr (some 30))), (1, .inr (.inr (some 64))), (2, .inr (.inr (some 94))), (3, .inr (.inr (some 125))), (4, .inl i)] rfl rfl rfl ?_
          refine zf_goto fm_0 dF0_398 (t := 957) rfl ?_
          exact zf_sub (ma_nd_of (ks := [0, 1, 2, 3, 4]) rfl (by decide)) (ma_nd_of (ks := [6, 5, 0, 1, 2, 3, 4]) rfl (by decide)) (ma_le_cons rfl (ma_le_cons rfl (ma_le_cons rfl (ma_le_cons rfl (ma_le_cons rfl (ma_le_nil _)))))) h
        · intro x S9 hx
          exact hx.elim
      · intro hc
        rw [if_neg hc] at h
        refine zf_push fm_0 dF0_376 (v := .inl (1 : Int32)) rfl ?_
        refine zf_goto fm_0 dF0_377 (t := 381) rfl ?_
        refine zf_push fm_0 dF0_381 (v := .inr (.inr (some 30))) rfl ?_
        refine zf_push fm_0 dF0_382 (v := .inl i) rfl ?_
        refine zf_push fm_0 dF0_384 (v := .inl (2 : Int32)) rfl ?_
        refine zf_stk fm_0 dF0_385 (st₉ := [.inl (i + (2 : Int32)), .inr (.inr (some 30)), .inl (1 : Int32), .inr (.inr (some 94))]) rfl rfl ?_
        obtain ⟨hg, h⟩ := h
        refine zf_one fm_0 dF0_386 (oo_sc hg) ?_
        refine zf_push fm_0 dF0_387 (v := .inr (.inr (some 30))) rfl ?_
        refine zf_push fm_0 dF0_388 (v := .inl i) rfl ?_
        refine zf_push fm_0 dF0_390 (v := .inl (3 : Int32)) rfl ?_
        refine zf_stk fm_0 dF0_391 (st₉ := [.inl (i + (3 : Int32)), .inr (.inr (some 30)), .inl (X.2 ((i + (2 : Int32))).toNatClampNeg), .inl (1 : Int32), .inr (.inr (some 94))]) rfl rfl ?_
        obtain ⟨hg, h⟩ := h
        refine zf_one fm_0 dF0_392 (oo_sc hg) ?_
        refine zf_cv fm_0 dF0_393 v_14_113_12 hm_243 [.inl (X.2 ((i + (3 : Int32))).toNatClampNeg), .inl (X.2 ((i + (2 : Int32))).toNatClampNeg), .inl (1 : Int32)] [] rfl (zT_rt hS2 s_94 rfl) ⟨by omega, by omega⟩ rfl (zw_mono h (zi_go ?_ ?_))
        · intro v6 S5 hv
          obtain ⟨hS5, h⟩ := hv
          refine zf_sto fm_0 dF0_396 [(6, .inl v6), (5, .inl v1), (0, .inr (.inr (some 30))), (1, .inr (.inr (some 64))), (2, .inr (.inr (some 94))), (3, .inr (.inr (some 125))), (4, .inl i)] rfl rfl rfl ?_
          refine zf_goto fm_0 dF0_398 (t := 957) rfl ?_
          exact zf_sub (ma_nd_of (ks := [0, 1, 2, 3, 4]) rfl (by decide)) (ma_nd_of (ks := [6, 5, 0, 1, 2, 3, 4]) rfl (by decide)) (ma_le_cons rfl (ma_le_cons rfl (ma_le_cons rfl (ma_le_cons rfl (ma_le_cons rfl (ma_le_nil _)))))) h
        · intro x S9 hx
          exact hx.elim
  · intro hc
    rw [if_neg hc] at h
    refine zf_push fm_0 dF0_343 (v := .inl (1 : Int32)) rfl ?_
    refine zf_goto fm_0 dF0_344 (t := 348) rfl ?_
    refine zf_push fm_0 dF0_348 (v := .inr (.inr (some 30))) rfl ?_
    refine zf_push fm_0 dF0_349 (v := .inl i) rfl ?_
    refine zf_push fm_0 dF0_351 (v := .inl (2 : Int32)) rfl ?_
    refine zf_stk fm_0 dF0_352 (st₉ := [.inl (i + (2 : Int32)), .inr (.inr (some 30)), .inl (1 : Int32), .inr (.inr (some 64))]) rfl rfl ?_
    obtain ⟨hg, h⟩ := h
    refine zf_one fm_0 dF0_353 (oo_sc hg) ?_
    refine zf_push fm_0 dF0_354 (v := .inr (.inr (some 30))) rfl ?_
    refine zf_push fm_0 dF0_355 (v := .inl i) rfl ?_
    refine zf_push fm_0 dF0_357 (v := .inl (3 : Int32)) rfl ?_
    refine zf_stk fm_0 dF0_358 (st₉ := [.inl (i + (3 : Int32)), .inr (.inr (some 30)), .inl (X.2 ((i + (2 : Int32))).toNatClampNeg), .inl (1 : Int32), .inr (.inr (some 64))]) rfl rfl ?_
    obtain ⟨hg, h⟩ := h
    refine zf_one fm_0 dF0_359 (oo_sc hg) ?_
    refine zf_push fm_0 dF0_360 (v := .inr (.inr (some 125))) rfl ?_
    refine zf_cw fm_0 dF0_361 cw_110 fm_5 [.inr (.inr (some 125)), .inl (X.2 ((i + (3 : Int32))).toNatClampNeg), .inl (X.2 ((i + (2 : Int32))).toNatClampNeg), .inl (1 : Int32), .inr (.inr (some 64))] [] rfl (by omega) (by omega) rfl (zf_mono h (zfi_go ?_))
    · intro v7 S8 hv
      obtain ⟨hS8, h⟩ := hv
      refine zf_sto fm_0 dF0_364 [(5, .inl v7), (0, .inr (.inr (some 30))), (1, .inr (.inr (some 64))), (2, .inr (.inr (some 94))), (3, .inr (.inr (some 125))), (4, .inl i)] rfl rfl rfl ?_
      refine zf_push fm_0 dF0_366 (v := .inr (.inr (some 94))) rfl ?_
      refine zf_push fm_0 dF0_367 (v := .inr (.inr (some 30))) rfl ?_
      refine zf_push fm_0 dF0_368 (v := .inl i) rfl ?_
      refine zf_push fm_0 dF0_370 (v := .inl (1 : Int32)) rfl ?_
      refine zf_stk fm_0 dF0_371 (st₉ := [.inl (i + (1 : Int32)), .inr (.inr (some 30)), .inr (.inr (some 94))]) rfl rfl ?_
      obtain ⟨hg, h⟩ := h
      refine zf_one fm_0 dF0_372 (oo_sc hg) ?_
      refine zf_if0 fm_0 dF0_373 (t := 380) rfl zc0_eq ?_ ?_
      · intro hc
        rw [if_pos hc] at h
        refine zf_push fm_0 dF0_380 (v := .inl (0 : Int32)) rfl ?_
        refine zf_push fm_0 dF0_381 (v := .inr (.inr (some 30))) rfl ?_
        refine zf_push fm_0 dF0_382 (v := .inl i) rfl ?_
        refine zf_push fm_0 dF0_384 (v := .inl (2 : Int32)) rfl ?_
        refine zf_stk fm_0 dF0_385 (st₉ := [.inl (i + (2 : Int32)), .inr (.inr (some 30)), .inl (0 : Int32), .inr (.inr (some 94))]) rfl rfl ?_
        obtain ⟨hg, h⟩ := h
        refine zf_one fm_0 dF0_386 (oo_sc hg) ?_
        refine zf_push fm_0 dF0_387 (v := .inr (.inr (some 30))) rfl ?_
        refine zf_push fm_0 dF0_388 (v := .inl i) rfl ?_
        refine zf_push fm_0 dF0_390 (v := .inl (3 : Int32)) rfl ?_
        refine zf_stk fm_0 dF0_391 (st₉ := [.inl (i + (3 : Int32)), .inr (.inr (some 30)), .inl (X.2 ((i + (2 : Int32))).toNatClampNeg), .inl (0 : Int32), .inr (.inr (some 94))]) rfl rfl ?_
        obtain ⟨hg, h⟩ := h
        refine zf_one fm_0 dF0_392 (oo_sc hg) ?_
        refine zf_cv fm_0 dF0_393 v_14_113_12 hm_243 [.inl (X.2 ((i + (3 : Int32))).toNatClampNeg), .inl (X.2 ((i + (2 : Int32))).toNatClampNeg), .inl (0 : Int32)] [] rfl (zT_rt hS8 s_94 rfl) ⟨by omega, by omega⟩ rfl (zw_mono h (zi_go ?_ ?_))
        · intro v10 S9 hv
          obtain ⟨hS9, h⟩ := hv
          refine zf_sto fm_0 dF0_396 [(6, .inl v10), (5, .inl v7), (0, .inr (.inr (some 30))), (1, .inr (.inr (some 64))), (2, .inr (.inr (some 94))), (3, .inr (.inr (some 125))), (4, .inl i)] rfl rfl rfl ?_
          refine zf_goto fm_0 dF0_398 (t := 957) rfl ?_
          exact zf_sub (ma_nd_of (ks := [0, 1, 2, 3, 4]) rfl (by decide)) (ma_nd_of (ks := [6, 5, 0, 1, 2, 3, 4]) rfl (by decide)) (ma_le_cons rfl (ma_le_cons rfl (ma_le_cons rfl (ma_le_cons rfl (ma_le_cons rfl (ma_le_nil _)))))) h
        · intro x S9 hx
          exact hx.elim
      · intro hc
        rw [if_neg hc] at h
        refine zf_push fm_0 dF0_376 (v := .inl (1 : Int32)) rfl ?_
        refine zf_goto fm_0 dF0_377 (t := 381) rfl ?_
        refine zf_push fm_0 dF0_381 (v := .inr (.inr (some 30))) rfl ?_
        refine zf_push fm_0 dF0_382 (v := .inl i) rfl ?_
        refine zf_push fm_0 dF0_384 (v := .inl (2 : Int32)) rfl ?_
        refine zf_stk fm_0 dF0_385 (st₉ := [.inl (i + (2 : Int32)), .inr (.inr (some 30)), .inl (1 : Int32), .inr (.inr (some 94))]) rfl rfl ?_
        obtain ⟨hg, h⟩ := h
        refine zf_one fm_0 dF0_386 (oo_sc hg) ?_
        refine zf_push fm_0 dF0_387 (v := .inr (.inr (some 30))) rfl ?_
        refine zf_push fm_0 dF0_388 (v := .inl i) rfl ?_
        refine zf_push fm_0 dF0_390 (v := .inl (3 : Int32)) rfl ?_
        refine zf_stk fm_0 dF0_391 (st₉ := [.inl (i + (3 : Int32)), .inr (.inr (some 30)), .inl (X.2 ((i + (2 : Int32))).toNatClampNeg), .inl (1 : Int32), .inr (.inr (some 94))]) rfl rfl ?_
        obtain ⟨hg, h⟩ := h
        refine zf_one fm_0 dF0_392 (oo_sc hg) ?_
        refine zf_cv fm_0 dF0_393 v_14_113_12 hm_243 [.inl (X.2 ((i + (3 : Int32))).toNatClampNeg), .inl (X.2 ((i + (2 : Int32))).toNatClampNeg), .inl (1 : Int32)] [] rfl (zT_rt hS8 s_94 rfl) ⟨by omega, by omega⟩ rfl (zw_mono h (zi_go ?_ ?_))
        · intro v12 S11 hv
          obtain ⟨hS11, h⟩ := hv
          refine zf_sto fm_0 dF0_396 [(6, .inl v12), (5, .inl v7), (0, .inr (.inr (some 30))), (1, .inr (.inr (some 64))), (2, .inr (.inr (some 94))), (3, .inr (.inr (some 125))), (4, .inl i)] rfl rfl rfl ?_
          refine zf_goto fm_0 dF0_398 (t := 957) rfl ?_
          exact zf_sub (ma_nd_of (ks := [0, 1, 2, 3, 4]) rfl (by decide)) (ma_nd_of (ks := [6, 5, 0, 1, 2, 3, 4]) rfl (by decide)) (ma_le_cons rfl (ma_le_cons rfl (ma_le_cons rfl (ma_le_cons rfl (ma_le_cons rfl (ma_le_nil _)))))) h
        · intro x S9 hx
          exact hx.elim
theorem gl_401 {X : Nat × (Nat → Int32)} {d w : Nat} {S : ma_S} {Q : Option ma_V → ma_S → Prop} (i : Int32) (hd : 13 ≤ d) (hw : 494 ≤ w) (hS : zT S) (h : (0 ≤ (i + (1 : Int32)) ∧ ((i + (1 : Int32))).toNatClampNeg < X.1) ∧ ((0 ≤ (i + (2 : Int32)) ∧ ((i + (2 : Int32))).toNatClampNeg < X.1) ∧ ((0 ≤ (i + (3 : Int32)) ∧ ((i + (3 : Int32))).toNatClampNeg < X.1) ∧ (ma_fp X 6 (d - 1) (w - 25) 0 [(0, .inr (.inr (some 64))), (1, .inl (X.2 ((i + (1 : Int32))).toNatClampNeg)), (2, .inl (X.2 ((i + (2 : Int32))).toNatClampNeg)), (3, .inl (X.2 ((i + (3 : Int32))).toNatClampNeg)), (4, .inr (.inr (some 125)))] [] S (zfi_ (fun v1 S2 => zT S2 ∧ ((0 ≤ (i + (1 : Int32)) ∧ ((i + (1 : Int32))).toNatClampNeg < X.1) ∧ ((0 ≤ (i + (2 : Int32)) ∧ ((i + (2 : Int32))).toNatClampNeg < X.1) ∧ ((0 ≤ (i + (3 : Int32)) ∧ ((i + (3 : Int32))).toNatClampNeg < X.1) ∧ (ma_wp X (d - 1) (w - 25) 244 0 [(0, .inr (.inr (some 94))), (1, .inl (X.2 ((i + (1 : Int32))).toNatClampNeg)), (2, .inl (X.2 ((i + (2 : Int32))).toNatClampNeg)), (3, .inl (X.2 ((i + (3 : Int32))).toNatClampNeg))] [] S2 (zi (fun v4 S3 => zT S3 ∧ (ma_fp X 0 d w 957 [(0, .inr (.inr (some 30))), (1, .inr (.inr (some 64))), (2, .inr (.inr (some 94))), (3, .inr (.inr (some 125))), (4, .inl i)] [] S3 Q)) (fun _ _ => False)))))))))))) : ma_fp X 0 d w 401 [(0, .inr (.inr (some 30))), (1, .inr (.inr (some 64))), (2, .inr (.inr (some 94))), (3, .inr (.inr (some 125))), (4, .inl i)] [] S Q := by
  refine zf_push fm_0 dF0_401 (v := .inr (.inr (some 64))) rfl ?_
  refine zf_push fm_0 dF0_402 (v := .inr (.inr (some 30))) rfl ?_
  refine zf_push fm_0 dF0_403 (v := .inl i) rfl ?_
  refine zf_push fm_0 dF0_405 (v := .inl (1 : Int32)) rfl ?_
  refine zf_stk fm_0 dF0_406 (st₉ := [.inl (i + (1 : Int32)), .inr (.inr (some 30)), .inr (.inr (some 64))]) rfl rfl ?_
  obtain ⟨hg, h⟩ := h
  refine zf_one fm_0 dF0_407 (oo_sc hg) ?_
  refine zf_push fm_0 dF0_408 (v := .inr (.inr (some 30))) rfl ?_
  refine zf_push fm_0 dF0_409 (v := .inl i) rfl ?_
  refine zf_push fm_0 dF0_411 (v := .inl (2 : Int32)) rfl ?_
  refine zf_stk fm_0 dF0_412 (st₉ := [.inl (i + (2 : Int32)), .inr (.inr (some 30)), .inl (X.2 ((i + (1 : Int32))).toNatClampNeg), .inr (.inr (some 64))]) rfl rfl ?_
  obtain ⟨hg, h⟩ := h
  refine zf_one fm_0 dF0_413 (oo_sc hg) ?_
  refine zf_push fm_0 dF0_414 (v := .inr (.inr (some 30))) rfl ?_
  refine zf_push fm_0 dF0_415 (v := .inl i) rfl ?_
  refine zf_push fm_0 dF0_417 (v := .inl (3 : Int32)) rfl ?_
  refine zf_stk fm_0 dF0_418 (st₉ := [.inl (i + (3 : Int32)), .inr (.inr (some 30)), .inl (X.2 ((i + (2 : Int32))).toNatClampNeg), .inl (X.2 ((i + (1 : Int32))).toNatClampNeg), .inr (.inr (some 64))]) rfl rfl ?_
  obtain ⟨hg, h⟩ := h
  refine zf_one fm_0 dF0_419 (oo_sc hg) ?_
  refine zf_push fm_0 dF0_420 (v := .inr (.inr (some 125))) rfl ?_
  refine zf_cw fm_0 dF0_421 cw_114 fm_6 [.inr (.inr (some 125)), .inl (X.2 ((i + (3 : Int32))).toNatClampNeg), .inl (X.2 ((i + (2 : Int32))).toNatClampNeg), .inl (X.2 ((i + (1 : Int32))).toNatClampNeg), .inr (.inr (some 64))] [] rfl (by omega) (by omega) rfl (zf_mono h (zfi_go ?_))
  · intro v1 S2 hv
    obtain ⟨hS2, h⟩ := hv
    refine zf_sto fm_0 dF0_424 [(5, .inl v1), (0, .inr (.inr (some 30))), (1, .inr (.inr (some 64))), (2, .inr (.inr (some 94))), (3, .inr (.inr (some 125))), (4, .inl i)] rfl rfl rfl ?_
    refine zf_push fm_0 dF0_426 (v := .inr (.inr (some 94))) rfl ?_
    refine zf_push fm_0 dF0_427 (v := .inr (.inr (some 30))) rfl ?_
    refine zf_push fm_0 dF0_428 (v := .inl i) rfl ?_
    refine zf_push fm_0 dF0_430 (v := .inl (1 : Int32)) rfl ?_
    refine zf_stk fm_0 dF0_431 (st₉ := [.inl (i + (1 : Int32)), .inr (.inr (some 30)), .inr (.inr (some 94))]) rfl rfl ?_
    obtain ⟨hg, h⟩ := h
    refine zf_one fm_0 dF0_432 (oo_sc hg) ?_
    refine zf_push fm_0 dF0_433 (v := .inr (.inr (some 30))) rfl ?_
    refine zf_push fm_0 dF0_434 (v := .inl i) rfl ?_
    refine zf_push fm_0 dF0_436 (v := .inl (2 : Int32)) rfl ?_
    refine zf_stk fm_0 dF0_437 (st₉ := [.inl (i + (2 : Int32)), .inr (.inr (some 30)), .inl (X.2 ((i + (1 : Int32))).toNatClampNeg), .inr (.inr (some 94))]) rfl rfl ?_
    obtain ⟨hg, h⟩ := h
    refine zf_one fm_0 dF0_438 (oo_sc hg) ?_
    refine zf_push fm_0 dF0_439 (v := .inr (.inr (some 30))) rfl ?_
    refine zf_push fm_0 dF0_440 (v := .inl i) rfl ?_
    refine zf_push fm_0 dF0_442 (v := .inl (3 : Int32)) rfl ?_
    refine zf_stk fm_0 dF0_443 (st₉ := [.inl (i + (3 : Int32)), .inr (.inr (some 30)), .inl (X.2 ((i + (2 : Int32))).toNatClampNeg), .inl (X.2 ((i + (1 : Int32))).toNatClampNeg), .inr (.inr (some 94))]) rfl rfl ?_
    obtain ⟨hg, h⟩ := h
    refine zf_one fm_0 dF0_444 (oo_sc hg) ?_
    refine zf_cv fm_0 dF0_445 v_14_117_12 hm_244 [.inl (X.2 ((i + (3 : Int32))).toNatClampNeg), .inl (X.2 ((i + (2 : Int32))).toNatClampNeg), .inl (X.2 ((i + (1 : Int32))).toNatClampNeg)] [] rfl (zT_rt hS2 s_94 rfl) ⟨by omega, by omega⟩ rfl (zw_mono h (zi_go ?_ ?_))
    · intro v4 S3 hv
      obtain ⟨hS3, h⟩ := hv
      refine zf_sto fm_0 dF0_448 [(6, .inl v4), (5, .inl v1), (0, .inr (.inr (some 30))), (1, .inr (.inr (some 64))), (2, .inr (.inr (some 94))), (3, .inr (.inr (some 125))), (4, .inl i)] rfl rfl rfl ?_
      refine zf_goto fm_0 dF0_450 (t := 957) rfl ?_
      exact zf_sub (ma_nd_of (ks := [0, 1, 2, 3, 4]) rfl (by decide)) (ma_nd_of (ks := [6, 5, 0, 1, 2, 3, 4]) rfl (by decide)) (ma_le_cons rfl (ma_le_cons rfl (ma_le_cons rfl (ma_le_cons rfl (ma_le_cons rfl (ma_le_nil _)))))) h
    · intro x S9 hx
      exact hx.elim
