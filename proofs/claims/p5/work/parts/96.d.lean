theorem lg_refl (x : Int64) : lg_cmp x x = 0 := by
  unfold lg_cmp
  simp
theorem lw_more {C0 Z0 T : Nat} {S : ma_S} (H : zLw C0 Z0 T S) (ht : T + 1 ≤ 3000) : zLw C0 Z0 (T + 1) S := by
  obtain ⟨h1, ⟨hV, r_W, r_GW, h⟩, h3, h7, h4, h5, h6⟩ := H
  exact ⟨h1, ⟨hV, r_W, GW_up r_GW ht, h.imp id (fun z => ⟨GU_up z.1 ht, z.2⟩)⟩, h3, h7, by omega, by omega, h6⟩
/-! A CALL OF EACH KIND, AND THE LOOP -/
theorem gl_23 {X : Nat × (Nat → Int32)} {d w : Nat} {S : ma_S} {Q : Option ma_V → ma_S → Prop} (i : Int32) (hd : 13 ≤ d) (hw : 494 ≤ w) (hS : zT S) (h : if ((Int32.ofNat X.1) - (6 : Int32)) < i then (Q (some (.inl (1 : Int32))) S) else ((0 ≤ i ∧ i.toNatClampNeg < X.1) ∧ (if ((X.2 i.toNatClampNeg) &&& (31 : Int32)) = (0 : Int32) then (ma_fp X 0 d w 136 [(0, .inr (.inr (some 30))), (1, .inr (.inr (some 64))), (2, .inr (.inr (some 94))), (3, .inr (.inr (some 125))), (4, .inl i)] [] S Q) else (if ((X.2 i.toNatClampNeg) &&& (31 : Int32)) = (1 : Int32) then (ma_fp X 0 d w 212 [(0, .inr (.inr (some 30))), (1, .inr (.inr (some 64))), (2, .inr (.inr (some 94))), (3, .inr (.inr (some 125))), (4, .inl i)] [] S Q) else (if ((X.2 i.toNatClampNeg) &&& (31 : Int32)) = (2 : Int32) then (ma_fp X 0 d w 240 [(0, .inr (.inr (some 30))), (1, .inr (.inr (some 64))), (2, .inr (.inr (some 94))), (3, .inr (.inr (some 125))), (4, .inl i)] [] S Q) else (if ((X.2 i.toNatClampNeg) &&& (31 : Int32)) = (3 : Int32) then (ma_fp X 0 d w 280 [(0, .inr (.inr (some 30))), (1, .inr (.inr (some 64))), (2, .inr (.inr (some 94))), (3, .inr (.inr (some 125))), (4, .inl i)] [] S Q) else (if ((X.2 i.toNatClampNeg) &&& (31 : Int32)) = (4 : Int32) then (ma_fp X 0 d w 293 [(0, .inr (.inr (some 30))), (1, .inr (.inr (some 64))), (2, .inr (.inr (some 94))), (3, .inr (.inr (some 125))), (4, .inl i)] [] S Q) else (if ((X.2 i.toNatClampNeg) &&& (31 : Int32)) = (5 : Int32) then (ma_fp X 0 d w 333 [(0, .inr (.inr (some 30))), (1, .inr (.inr (some 64))), (2, .inr (.inr (some 94))), (3, .inr (.inr (some 125))), (4, .inl i)] [] S Q) else (if ((X.2 i.toNatClampNeg) &&& (31 : Int32)) = (6 : Int32) then (ma_fp X 0 d w 401 [(0, .inr (.inr (some 30))), (1, .inr (.inr (some 64))), (2, .inr (.inr (some 94))), (3, .inr (.inr (some 125))), (4, .inl i)] [] S Q) else (if ((X.2 i.toNatClampNeg) &&& (31 : Int32)) = (7 : Int32) then (ma_fp X 0 d w 453 [(0, .inr (.inr (some 30))), (1, .inr (.inr (some 64))), (2, .inr (.inr (some 94))), (3, .inr (.inr (some 125))), (4, .inl i)] [] S Q) else (if ((X.2 i.toNatClampNeg) &&& (31 : Int32)) = (8 : Int32) then (ma_fp X 0 d w 505 [(0, .inr (.inr (some 30))), (1, .inr (.inr (some 64))), (2, .inr (.inr (some 94))), (3, .inr (.inr (some 125))), (4, .inl i)] [] S Q) else (if ((X.2 i.toNatClampNeg) &&& (31 : Int32)) = (9 : Int32) then (ma_fp X 0 d w 545 [(0, .inr (.inr (some 30))), (1, .inr (.inr (some 64))), (2, .inr (.inr (some 94))), (3, .inr (.inr (some 125))), (4, .inl i)] [] S Q) else (if ((X.2 i.toNatClampNeg) &&& (31 : Int32)) = (10 : Int32) then (ma_fp X 0 d w 585 [(0, .inr (.inr (some 30))), (1, .inr (.inr (some 64))), (2, .inr (.inr (some 94))), (3, .inr (.inr (some 125))), (4, .inl i)] [] S Q) else (if ((X.2 i.toNatClampNeg) &&& (31 : Int32)) = (11 : Int32) then (ma_fp X 0 d w 625 [(0, .inr (.inr (some 30))), (1, .inr (.inr (some 64))), (2, .inr (.inr (some 94))), (3, .inr (.inr (some 125))), (4, .inl i)] [] S Q) else (if ((X.2 i.toNatClampNeg) &&& (31 : Int32)) = (12 : Int32) then (ma_fp X 0 d w 665 [(0, .inr (.inr (some 30))), (1, .inr (.inr (some 64))), (2, .inr (.inr (some 94))), (3, .inr (.inr (some 125))), (4, .inl i)] [] S Q) else (if ((X.2 i.toNatClampNeg) &&& (31 : Int32)) = (13 : Int32) then (ma_fp X 0 d w 721 [(0, .inr (.inr (some 30))), (1, .inr (.inr (some 64))), (2, .inr (.inr (some 94))), (3, .inr (.inr (some 125))), (4, .inl i)] [] S Q) else (if ((X.2 i.toNatClampNeg) &&& (31 : Int32)) = (14 : Int32) then (ma_fp X 0 d w 749 [(0, .inr (.inr (some 30))), (1, .inr (.inr (some 64))), (2, .inr (.inr (some 94))), (3, .inr (.inr (some 125))), (4, .inl i)] [] S Q) else (if ((X.2 i.toNatClampNeg) &&& (31 : Int32)) = (15 : Int32) then (ma_fp X 0 d w 777 [(0, .inr (.inr (some 30))), (1, .inr (.inr (some 64))), (2, .inr (.inr (some 94))), (3, .inr (.inr (some 125))), (4, .inl i)] [] S Q) else (if ((X.2 i.toNatClampNeg) &&& (31 : Int32)) = (16 : Int32) then (ma_fp X 0 d w 793 [(0, .inr (.inr (some 30))), (1, .inr (.inr (some 64))), (2, .inr (.inr (some 94))), (3, .inr (.inr (some 125))), (4, .inl i)] [] S Q) else (if ((X.2 i.toNatClampNeg) &&& (31 : Int32)) = (17 : Int32) then (ma_fp X 0 d w 821 [(0, .inr (.inr (some 30))), (1, .inr (.inr (some 64))), (2, .inr (.inr (some 94))), (3, .inr (.inr (some 125))), (4, .inl i)] [] S Q) else (if ((X.2 i.toNatClampNeg) &&& (31 : Int32)) = (18 : Int32) then (ma_fp X 0 d w 861 [(0, .inr (.inr (some 30))), (1, .inr (.inr (some 64))), (2, .inr (.inr (some 94))), (3, .inr (.inr (some 125))), (4, .inl i)] [] S Q) else (if ((X.2 i.toNatClampNeg) &&& (31 : Int32)) = (19 : Int32) then (ma_fp X 0 d w 901 [(0, .inr (.inr (some 30))), (1, .inr (.inr (some 64))), (2, .inr (.inr (some 94))), (3, .inr (.inr (some 125))), (4, .inl i)] [] S Q) else (ma_fp X 0 d w 929 [(0, .inr (.inr (some 30))), (1, .inr (.inr (some 64))), (2, .inr (.inr (some 94))), (3, .inr (.inr (some 125))), (4, .inl i)] [] S Q))))))))))))))))))))))) : ma_fp X 0 d w 23 [(0, .inr (.inr (some 30))), (1, .inr (.inr (some 64))), (2, .inr (.inr (some 94))), (3, .inr (.inr (some 125))), (4, .inl i)] [] S Q := by
  refine zf_push fm_0 dF0_23 (v := .inl i) rfl ?_
  refine zf_push fm_0 dF0_25 (v := .inr (.inr (some 30))) rfl ?_
  refine zf_one fm_0 dF0_26 oo_sl ?_
  refine zf_push fm_0 dF0_27 (v := .inl (6 : Int32)) rfl ?_
  refine zf_stk fm_0 dF0_29 (st' := [.inl ((Int32.ofNat X.1) - (6 : Int32)), .inl i]) rfl rfl ?_
  refine zf_if2 fm_0 dF0_30 (t := 935) rfl zc2_gt ?_ ?_
  · intro hc
    rw [if_pos hc] at h
    refine zf_push fm_0 dF0_935 (v := .inl (1 : Int32)) rfl ?_
    exact zf_bret fm_0 dF0_936 (by decide) h
  · intro hc
    rw [if_neg hc] at h
    refine zf_push fm_0 dF0_33 (v := .inr (.inr (some 30))) rfl ?_
    refine zf_push fm_0 dF0_34 (v := .inl i) rfl ?_
    obtain ⟨hg, h⟩ := h
    refine zf_one fm_0 dF0_36 (oo_sc hg) ?_
    refine zf_push fm_0 dF0_37 (v := .inl (31 : Int32)) rfl ?_
    refine zf_stk fm_0 dF0_39 (st' := [.inl ((X.2 i.toNatClampNeg) &&& (31 : Int32))]) rfl rfl ?_
    by_cases hc0 : ((X.2 i.toNatClampNeg) &&& (31 : Int32)) = (0 : Int32)
    · rw [if_pos hc0] at h
      refine zf_jmp fm_0 dF0_40 (t := 136) (st' := []) rfl rfl rfl (ma_jmp_tab (by rw [hc0]; decide +kernel)) ?_
      exact h
    rw [if_neg hc0] at h
    by_cases hc1 : ((X.2 i.toNatClampNeg) &&& (31 : Int32)) = (1 : Int32)
    · rw [if_pos hc1] at h
      refine zf_jmp fm_0 dF0_40 (t := 212) (st' := []) rfl rfl rfl (ma_jmp_tab (by rw [hc1]; decide +kernel)) ?_
      exact h
    rw [if_neg hc1] at h
    by_cases hc2 : ((X.2 i.toNatClampNeg) &&& (31 : Int32)) = (2 : Int32)
    · rw [if_pos hc2] at h
      refine zf_jmp fm_0 dF0_40 (t := 240) (st' := []) rfl rfl rfl (ma_jmp_tab (by rw [hc2]; decide +kernel)) ?_
      exact h
    rw [if_neg hc2] at h
    by_cases hc3 : ((X.2 i.toNatClampNeg) &&& (31 : Int32)) = (3 : Int32)
    · rw [if_pos hc3] at h
      refine zf_jmp fm_0 dF0_40 (t := 280) (st' := []) rfl rfl rfl (ma_jmp_tab (by rw [hc3]; decide +kernel)) ?_
      exact h
    rw [if_neg hc3] at h
    by_cases hc4 : ((X.2 i.toNatClampNeg) &&& (31 : Int32)) = (4 : Int32)
    · rw [if_pos hc4] at h
      refine zf_jmp fm_0 dF0_40 (t := 293) (st' := []) rfl rfl rfl (ma_jmp_tab (by rw [hc4]; decide +kernel)) ?_
      exact h
    rw [if_neg hc4] at h
    by_cases hc5 : ((X.2 i.toNatClampNeg) &&& (31 : Int32)) = (5 : Int32)
    · rw [if_pos hc5] at h
      refine zf_jmp fm_0 dF0_40 (t := 333) (st' := []) rfl rfl rfl (ma_jmp_tab (by rw [hc5]; decide +kernel)) ?_
      exact h
    rw [if_neg hc5] at h
    by_cases hc6 : ((X.2 i.toNatClampNeg) &&& (31 : Int32)) = (6 : Int32)
    · rw [if_pos hc6] at h
      refine zf_jmp fm_0 dF0_40 (t := 401) (st' := []) rfl rfl rfl (ma_jmp_tab (by rw [hc6]; decide +kernel)) ?_
      exact h
    rw [if_neg hc6] at h
    by_cases hc7 : ((X.2 i.toNatClampNeg) &&& (31 : Int32)) = (7 : Int32)
    · rw [if_pos hc7] at h
      refine zf_jmp fm_0 dF0_40 (t := 453) (st' := []) rfl rfl rfl (ma_jmp_tab (by rw [hc7]; decide +kernel)) ?_
      exact h
    rw [if_neg hc7] at h
    by_cases hc8 : ((X.2 i.toNatClampNeg) &&& (31 : Int32)) = (8 : Int32)
    · rw [if_pos hc8] at h
      refine zf_jmp fm_0 dF0_40 (t := 505) (st' := []) rfl rfl rfl (ma_jmp_tab (by rw [hc8]; decide +kernel)) ?_
      exact h
    rw [if_neg hc8] at h
    by_cases hc9 : ((X.2 i.toNatClampNeg) &&& (31 : Int32)) = (9 : Int32)
    · rw [if_pos hc9] at h
      refine zf_jmp fm_0 dF0_40 (t := 545) (st' := []) rfl rfl rfl (ma_jmp_tab (by rw [hc9]; decide +kernel)) ?_
      exact h
    rw [if_neg hc9] at h
    by_cases hc10 : ((X.2 i.toNatClampNeg) &&& (31 : Int32)) = (10 : Int32)
    · rw [if_pos hc10] at h
      refine zf_jmp fm_0 dF0_40 (t := 585) (st' := []) rfl rfl rfl (ma_jmp_tab (by rw [hc10]; decide +kernel)) ?_
      exact h
    rw [if_neg hc10] at h
    by_cases hc11 : ((X.2 i.toNatClampNeg) &&& (31 : Int32)) = (11 : Int32)
    · rw [if_pos hc11] at h
      refine zf_jmp fm_0 dF0_40 (t := 625) (st' := []) rfl rfl rfl (ma_jmp_tab (by rw [hc11]; decide +kernel)) ?_
      exact h
    rw [if_neg hc11] at h
    by_cases hc12 : ((X.2 i.toNatClampNeg) &&& (31 : Int32)) = (12 : Int32)
    · rw [if_pos hc12] at h
      refine zf_jmp fm_0 dF0_40 (t := 665) (st' := []) rfl rfl rfl (ma_jmp_tab (by rw [hc12]; decide +kernel)) ?_
      exact h
    rw [if_neg hc12] at h
    by_cases hc13 : ((X.2 i.toNatClampNeg) &&& (31 : Int32)) = (13 : Int32)
    · rw [if_pos hc13] at h
      refine zf_jmp fm_0 dF0_40 (t := 721) (st' := []) rfl rfl rfl (ma_jmp_tab (by rw [hc13]; decide +kernel)) ?_
      exact h
    rw [if_neg hc13] at h
    by_cases hc14 : ((X.2 i.toNatClampNeg) &&& (31 : Int32)) = (14 : Int32)
    · rw [if_pos hc14] at h
      refine zf_jmp fm_0 dF0_40 (t := 749) (st' := []) rfl rfl rfl (ma_jmp_tab (by rw [hc14]; decide +kernel)) ?_
      exact h
    rw [if_neg hc14] at h
    by_cases hc15 : ((X.2 i.toNatClampNeg) &&& (31 : Int32)) = (15 : Int32)
    · rw [if_pos hc15] at h
      refine zf_jmp fm_0 dF0_40 (t := 777) (st' := []) rfl rfl rfl (ma_jmp_tab (by rw [hc15]; decide +kernel)) ?_
      exact h
    rw [if_neg hc15] at h
    by_cases hc16 : ((X.2 i.toNatClampNeg) &&& (31 : Int32)) = (16 : Int32)
    · rw [if_pos hc16] at h
      refine zf_jmp fm_0 dF0_40 (t := 793) (st' := []) rfl rfl rfl (ma_jmp_tab (by rw [hc16]; decide +kernel)) ?_
      exact h
    rw [if_neg hc16] at h
    by_cases hc17 : ((X.2 i.toNatClampNeg) &&& (31 : Int32)) = (17 : Int32)
    · rw [if_pos hc17] at h
      refine zf_jmp fm_0 dF0_40 (t := 821) (st' := []) rfl rfl rfl (ma_jmp_tab (by rw [hc17]; decide +kernel)) ?_
      exact h
    rw [if_neg hc17] at h
    by_cases hc18 : ((X.2 i.toNatClampNeg) &&& (31 : Int32)) = (18 : Int32)
    · rw [if_pos hc18] at h
      refine zf_jmp fm_0 dF0_40 (t := 861) (st' := []) rfl rfl rfl (ma_jmp_tab (by rw [hc18]; decide +kernel)) ?_
      exact h
    rw [if_neg hc18] at h
    by_cases hc19 : ((X.2 i.toNatClampNeg) &&& (31 : Int32)) = (19 : Int32)
    · rw [if_pos hc19] at h
      refine zf_jmp fm_0 dF0_40 (t := 901) (st' := []) rfl rfl rfl (ma_jmp_tab (by rw [hc19]; decide +kernel)) ?_
      exact h
    rw [if_neg hc19] at h
    refine zf_jmp fm_0 dF0_40 (t := 929) (st' := []) rfl rfl rfl (ma_jmp_def (m := 20) (by decide) (fun j hj => by
        have hj2 : j = 0 ∨ j = 1 ∨ j = 2 ∨ j = 3 ∨ j = 4 ∨ j = 5 ∨ j = 6 ∨ j = 7 ∨ j = 8 ∨ j = 9 ∨ j = 10 ∨ j = 11 ∨ j = 12 ∨ j = 13 ∨ j = 14 ∨ j = 15 ∨ j = 16 ∨ j = 17 ∨ j = 18 ∨ j = 19 := by omega
        rcases hj2 with rfl | rfl | rfl | rfl | rfl | rfl | rfl | rfl | rfl | rfl | rfl | rfl | rfl | rfl | rfl | rfl | rfl | rfl | rfl | rfl
        · exact hc0
        · exact hc1
        · exact hc2
        · exact hc3
        · exact hc4
        · exact hc5
        · exact hc6
        · exact hc7
        · exact hc8
        · exact hc9
        · exact hc10
        · exact hc11
        · exact hc12
        · exact hc13
        · exact hc14
        · exact hc15
        · exact hc16
        · exact hc17
        · exact hc18
        · exact hc19
        ) rfl) ?_
    exact h
theorem gl_929 {X : Nat × (Nat → Int32)} {d w : Nat} {S : ma_S} {Q : Option ma_V → ma_S → Prop} (i : Int32) (hd : 13 ≤ d) (hw : 494 ≤ w) (hS : zT S) (h : ma_fp X 0 d w 23 [(0, .inr (.inr (some 30))), (1, .inr (.inr (some 64))), (2, .inr (.inr (some 94))), (3, .inr (.inr (some 125))), (4, .inl (i + (6 : Int32)))] [] S Q) : ma_fp X 0 d w 929 [(0, .inr (.inr (some 30))), (1, .inr (.inr (some 64))), (2, .inr (.inr (some 94))), (3, .inr (.inr (some 125))), (4, .inl i)] [] S Q := by
  refine zf_sto fm_0 dF0_929 [(4, .inl (i + (6 : Int32))), (0, .inr (.inr (some 30))), (1, .inr (.inr (some 64))), (2, .inr (.inr (some 94))), (3, .inr (.inr (some 125)))] rfl rfl rfl ?_
  refine zf_goto fm_0 dF0_932 (t := 23) rfl ?_
  exact zf_sub (ma_nd_of (ks := [0, 1, 2, 3, 4]) rfl (by decide)) (ma_nd_of (ks := [4, 0, 1, 2, 3]) rfl (by decide)) (ma_le_cons rfl (ma_le_cons rfl (ma_le_cons rfl (ma_le_cons rfl (ma_le_cons rfl (ma_le_nil _)))))) h
theorem gl_136 {X : Nat × (Nat → Int32)} {d w : Nat} {S : ma_S} {Q : Option ma_V → ma_S → Prop} (i : Int32) (hd : 13 ≤ d) (hw : 494 ≤ w) (hS : zT S) (h : (0 ≤ (i + (1 : Int32)) ∧ ((i + (1 : Int32))).toNatClampNeg < X.1) ∧ ((0 ≤ (i + (2 : Int32)) ∧ ((i + (2 : Int32))).toNatClampNeg < X.1) ∧ ((0 ≤ (i + (3 : Int32)) ∧ ((i + (3 : Int32))).toNatClampNeg < X.1) ∧ ((0 ≤ (i + (4 : Int32)) ∧ ((i + (4 : Int32))).toNatClampNeg < X.1) ∧ ((0 ≤ (i + (5 : Int32)) ∧ ((i + (5 : Int32))).toNatClampNeg < X.1) ∧ (ma_fp X 1 (d - 1) (w - 27) 0 [(0, .inr (.inr (some 64))), (1, .inl (X.2 ((i + (1 : Int32))).toNatClampNeg)), (2, .inl (X.2 ((i + (2 : Int32))).toNatClampNeg)), (3, .inl (X.2 ((i + (3 : Int32))).toNatClampNeg)), (4, .inl (X.2 ((i + (4 : Int32))).toNatClampNeg)), (5, .inl (X.2 ((i + (5 : Int32))).toNatClampNeg)), (6, .inr (.inr (some 125)))] [] S (zfi_ (fun v1 S2 => zT S2 ∧ ((0 ≤ (i + (1 : Int32)) ∧ ((i + (1 : Int32))).toNatClampNeg < X.1) ∧ ((0 ≤ (i + (2 : Int32)) ∧ ((i + (2 : Int32))).toNatClampNeg < X.1) ∧ ((0 ≤ (i + (3 : Int32)) ∧ ((i + (3 : Int32))).toNatClampNeg < X.1) ∧ ((0 ≤ (i + (4 : Int32)) ∧ ((i + (4 : Int32))).toNatClampNeg < X.1) ∧ ((0 ≤ (i + (5 : Int32)) ∧ ((i + (5 : Int32))).toNatClampNeg < X.1) ∧ (ma_wp X (d - 1) (w - 25) 166 0 [(0, .inr (.inr (some 94))), (1, .inl (X.2 ((i + (1 : Int32))).toNatClampNeg)), (2, .inl (X.2 ((i + (2 : Int32))).toNatClampNeg)), (3, .inl (X.2 ((i + (3 : Int32))).toNatClampNeg)), (4, .inl (X.2 ((i + (4 : Int32))).toNatClampNeg)), (5, .inl (X.2 ((i + (5 : Int32))).toNatClampNeg))] [] S2 (zi (fun v4 S3 => zT S3 ∧ (ma_fp X 0 d w 929 [(0, .inr (.inr (some 30))), (1, .inr (.inr (some 64))), (2, .inr (.inr (some 94))), (3, .inr (.inr (some 125))), (4, .inl i)] [] S3 Q)) (fun _ _ => False)))))))))))))))) : ma_fp X 0 d w 136 [(0, .inr (.inr (some 30))), (1, .inr (.inr (some 64))), (2, .inr (.inr (some 94))), (3, .inr (.inr (some 125))), (4, .inl i)] [] S Q := by
  refine zf_push fm_0 dF0_136 (v := .inr (.inr (some 64))) rfl ?_
  refine zf_push fm_0 dF0_137 (v := .inr (.inr (some 30))) rfl ?_
  refine zf_push fm_0 dF0_138 (v := .inl i) rfl ?_
  refine zf_push fm_0 dF0_140 (v := .inl (1 : Int32)) rfl ?_
  refine zf_stk fm_0 dF0_141 (st' := [.inl (i + (1 : Int32)), .inr (.inr (some 30)), .inr (.inr (some 64))]) rfl rfl ?_
  obtain ⟨hg, h⟩ := h
  refine zf_one fm_0 dF0_142 (oo_sc hg) ?_
  refine zf_push fm_0 dF0_143 (v := .inr (.inr (some 30))) rfl ?_
  refine zf_push fm_0 dF0_144 (v := .inl i) rfl ?_
  refine zf_push fm_0 dF0_146 (v := .inl (2 : Int32)) rfl ?_
  refine zf_stk fm_0 dF0_147 (st' := [.inl (i + (2 : Int32)), .inr (.inr (some 30)), .inl (X.2 ((i + (1 : Int32))).toNatClampNeg), .inr (.inr (some 64))]) rfl rfl ?_
  obtain ⟨hg, h⟩ := h
  refine zf_one fm_0 dF0_148 (oo_sc hg) ?_
  refine zf_push fm_0 dF0_149 (v := .inr (.inr (some 30))) rfl ?_
  refine zf_push fm_0 dF0_150 (v := .inl i) rfl ?_
  refine zf_push fm_0 dF0_152 (v := .inl (3 : Int32)) rfl ?_
  refine zf_stk fm_0 dF0_153 (st' := [.inl (i + (3 : Int32)), .inr (.inr (some 30)), .inl (X.2 ((i + (2 : Int32))).toNatClampNeg), .inl (X.2 ((i + (1 : Int32))).toNatClampNeg), .inr (.inr (some 64))]) rfl rfl ?_
  obtain ⟨hg, h⟩ := h
  refine zf_one fm_0 dF0_154 (oo_sc hg) ?_
  refine zf_push fm_0 dF0_155 (v := .inr (.inr (some 30))) rfl ?_
  refine zf_push fm_0 dF0_156 (v := .inl i) rfl ?_
  refine zf_push fm_0 dF0_158 (v := .inl (4 : Int32)) rfl ?_
  refine zf_stk fm_0 dF0_159 (st' := [.inl (i + (4 : Int32)), .inr (.inr (some 30)), .inl (X.2 ((i + (3 : Int32))).toNatClampNeg), .inl (X.2 ((i + (2 : Int32))).toNatClampNeg), .inl (X.2 ((i + (1 : Int32))).toNatClampNeg), .inr (.inr (some 64))]) rfl rfl ?_
  obtain ⟨hg, h⟩ := h
  refine zf_one fm_0 dF0_160 (oo_sc hg) ?_
  refine zf_push fm_0 dF0_161 (v := .inr (.inr (some 30))) rfl ?_
  refine zf_push fm_0 dF0_162 (v := .inl i) rfl ?_
  refine zf_push fm_0 dF0_164 (v := .inl (5 : Int32)) rfl ?_
  refine zf_stk fm_0 dF0_165 (st' := [.inl (i + (5 : Int32)), .inr (.inr (some 30)), .inl (X.2 ((i + (4 : Int32))).toNatClampNeg), .inl (X.2 ((i + (3 : Int32))).toNatClampNeg), .inl (X.2 ((i + (2 : Int32))).toNatClampNeg), .inl (X.2 ((i + (1 : Int32))).toNatClampNeg), .inr (.inr (some 64))]) rfl rfl ?_
  obtain ⟨hg, h⟩ := h
  refine zf_one fm_0 dF0_166 (oo_sc hg) ?_
  refine zf_push fm_0 dF0_167 (v := .inr (.inr (some 125))) rfl ?_
  refine zf_cw fm_0 dF0_168 cw_89 fm_1 [.inr (.inr (some 125)), .inl (X.2 ((i + (5 : Int32))).toNatClampNeg), .inl (X.2 ((i + (4 : Int32))).toNatClampNeg), .inl (X.2 ((i + (3 : Int32))).toNatClampNeg), .inl (X.2 ((i + (2 : Int32))).toNatClampNeg), .inl (X.2 ((i + (1 : Int32))).toNatClampNeg), .inr (.inr (some 64))] [] rfl (by omega) (by omega) rfl (zf_mono h (zfi_go ?_))
  · intro v1 S2 hv
    obtain ⟨hS2, h⟩ := hv
    refine zf_sto fm_0 dF0_171 [(5, .inl v1), (0, .inr (.inr (some 30))), (1, .inr (.inr (some 64))), (2, .inr (.inr (some 94))), (3, .inr (.inr (some 125))), (4, .inl i)] rfl rfl rfl ?_
    refine zf_push fm_0 dF0_173 (v := .inr (.inr (some 94))) rfl ?_
    refine zf_push fm_0 dF0_174 (v := .inr (.inr (some 30))) rfl ?_
    refine zf_push fm_0 dF0_175 (v := .inl i) rfl ?_
    refine zf_push fm_0 dF0_177 (v := .inl (1 : Int32)) rfl ?_
    refine zf_stk fm_0 dF0_178 (st' := [.inl (i + (1 : Int32)), .inr (.inr (some 30)), .inr (.inr (some 94))]) rfl rfl ?_
    obtain ⟨hg, h⟩ := h
    refine zf_one fm_0 dF0_179 (oo_sc hg) ?_
    refine zf_push fm_0 dF0_180 (v := .inr (.inr (some 30))) rfl ?_
    refine zf_push fm_0 dF0_181 (v := .inl i) rfl ?_
    refine zf_push fm_0 dF0_183 (v := .inl (2 : Int32)) rfl ?_
    refine zf_stk fm_0 dF0_184 (st' := [.inl (i + (2 : Int32)), .inr (.inr (some 30)), .inl (X.2 ((i + (1 : Int32))).toNatClampNeg), .inr (.inr (some 94))]) rfl rfl ?_
    obtain ⟨hg, h⟩ := h
    refine zf_one fm_0 dF0_185 (oo_sc hg) ?_
    refine zf_push fm_0 dF0_186 (v := .inr (.inr (some 30))) rfl ?_
    refine zf_push fm_0 dF0_187 (v := .inl i) rfl ?_
    refine zf_push fm_0 dF0_189 (v := .inl (3 : Int32)) rfl ?_
    refine zf_stk fm_0 dF0_190 (st' := [.inl (i + (3 : Int32)), .inr (.inr (some 30)), .inl (X.2 ((i + (2 : Int32))).toNatClampNeg), .inl (X.2 ((i + (1 : Int32))).toNatClampNeg), .inr (.inr (some 94))]) rfl rfl ?_
    obtain ⟨hg, h⟩ := h
    refine zf_one fm_0 dF0_191 (oo_sc hg) ?_
    refine zf_push fm_0 dF0_192 (v := .inr (.inr (some 30))) rfl ?_
    refine zf_push fm_0 dF0_193 (v := .inl i) rfl ?_
    refine zf_push fm_0 dF0_195 (v := .inl (4 : Int32)) rfl ?_
    refine zf_stk fm_0 dF0_196 (st' := [.inl (i + (4 : Int32)), .inr (.inr (some 30)), .inl (X.2 ((i + (3 : Int32))).toNatClampNeg), .inl (X.2 ((i + (2 : Int32))).toNatClampNeg), .inl (X.2 ((i + (1 : Int32))).toNatClampNeg), .inr (.inr (some 94))]) rfl rfl ?_
    obtain ⟨hg, h⟩ := h
    refine zf_one fm_0 dF0_197 (oo_sc hg) ?_
    refine zf_push fm_0 dF0_198 (v := .inr (.inr (some 30))) rfl ?_
    refine zf_push fm_0 dF0_199 (v := .inl i) rfl ?_
    refine zf_push fm_0 dF0_201 (v := .inl (5 : Int32)) rfl ?_
    refine zf_stk fm_0 dF0_202 (st' := [.inl (i + (5 : Int32)), .inr (.inr (some 30)), .inl (X.2 ((i + (4 : Int32))).toNatClampNeg), .inl (X.2 ((i + (3 : Int32))).toNatClampNeg), .inl (X.2 ((i + (2 : Int32))).toNatClampNeg), .inl (X.2 ((i + (1 : Int32))).toNatClampNeg), .inr (.inr (some 94))]) rfl rfl ?_
    obtain ⟨hg, h⟩ := h
    refine zf_one fm_0 dF0_203 (oo_sc hg) ?_
    refine zf_cv fm_0 dF0_204 v_14_94_12 hm_166 [.inl (X.2 ((i + (5 : Int32))).toNatClampNeg), .inl (X.2 ((i + (4 : Int32))).toNatClampNeg), .inl (X.2 ((i + (3 : Int32))).toNatClampNeg), .inl (X.2 ((i + (2 : Int32))).toNatClampNeg), .inl (X.2 ((i + (1 : Int32))).toNatClampNeg)] [] rfl (zT_rt hS2 s_94 rfl) ⟨by omega, by omega⟩ rfl (zw_mono h (zi_go ?_ ?_))
    · intro v4 S3 hv
      obtain ⟨hS3, h⟩ := hv
      refine zf_sto fm_0 dF0_207 [(6, .inl v4), (5, .inl v1), (0, .inr (.inr (some 30))), (1, .inr (.inr (some 64))), (2, .inr (.inr (some 94))), (3, .inr (.inr (some 125))), (4, .inl i)] rfl rfl rfl ?_
      refine zf_goto fm_0 dF0_209 (t := 929) rfl ?_
      exact zf_sub (ma_nd_of (ks := [0, 1, 2, 3, 4]) rfl (by decide)) (ma_nd_of (ks := [6, 5, 0, 1, 2, 3, 4]) rfl (by decide)) (ma_le_cons rfl (ma_le_cons rfl (ma_le_cons rfl (ma_le_cons rfl (ma_le_cons rfl (ma_le_nil _)))))) h
    · intro x S9 hx
      exact hx.elim
theorem la_0 {X : Nat × (Nat → Int32)} {C0 Z0 T : Nat} {S : ma_S} {Q : Option ma_V → ma_S → Prop} (i : Int32) (H : zLw C0 Z0 T S) (ht : T + 1 ≤ 3000) (gd : ∀ j : Int32, (j = 1 ∨ j = 2 ∨ j = 3 ∨ j = 4 ∨ j = 5) → 0 ≤ i + j ∧ (i + j).toNatClampNeg < X.1) (K : ∀ S', zLw C0 Z0 (T + 1) S' → ma_fp X 0 13 494 929 [(0, .inr (.inr (some 30))), (1, .inr (.inr (some 64))), (2, .inr (.inr (some 94))), (3, .inr (.inr (some 125))), (4, .inl i)] [] S' Q) : ma_fp X 0 13 494 136 [(0, .inr (.inr (some 30))), (1, .inr (.inr (some 64))), (2, .inr (.inr (some 94))), (3, .inr (.inr (some 125))), (4, .inl i)] [] S Q := by
  refine gl_136 i (by decide) (by decide) H.1.1.1 ?_
  refine ⟨gd 1 (by decide), gd 2 (by decide), gd 3 (by decide), gd 4 (by decide), gd 5 (by decide), ?_⟩
  have hte : (mI S 64 1).toInt = (mI S 94 3).toInt := by rw [H.2.2.1]
  refine fw_1 _ _ _ _ _ (by decide) (by decide) H.1 hte (fun v S2 hc hl hke h65 hq => zfi_n ⟨hc.1.1.1, gd 1 (by decide), gd 2 (by decide), gd 3 (by decide), gd 4 (by decide), gd 5 (by decide), ?_⟩) (fun v S2 hc hke h65 hq => zfi_n ⟨hc.1.1.1, gd 1 (by decide), gd 2 (by decide), gd 3 (by decide), gd 4 (by decide), gd 5 (by decide), ?_⟩)
  · refine rf_166 _ _ _ _ _ (by decide) (by decide) hc.1.1.1 (ref_tr H.2.1 hc.2.1) ht (fun v2 m' hr ho h7 hx hfr => zi_n ⟨hc.1.1.1, K _ (lw_step H hc hr ho ?_ ?_ ?_)⟩)
    all_goals have e1 := hq
    · rw [ho 64 1 (Or.inl (by decide))]
      exact Int32.toInt_inj.mp (by omega)
    · exact lw_ke H hc hke ho h7
    · rcases hfr with y | y
      · exact lw_fd H hc h65 y.2 ho (by omega)
      · exfalso
        omega
  · refine rf_166 _ _ _ _ _ (by decide) (by decide) hc.1.1.1 (ref_tr H.2.1 hc.2.1) ht (fun v2 m' hr ho h7 hx hfr => zi_n ⟨hc.1.1.1, K _ (lw_step H hc hr ho ?_ ?_ ?_)⟩)
    all_goals have e1 := hq
    · rw [ho 64 1 (Or.inl (by decide))]
      exact Int32.toInt_inj.mp (by omega)
    · exact lw_ke H hc hke ho h7
    · rcases hfr with y | y
      · exfalso
        omega
      · exact lw_al H hc h65 ho (by omega) y.2
theorem gl_212 {X : Nat × (Nat → Int32)} {d w : Nat} {S : ma_S} {Q : Option ma_V → ma_S → Prop} (i : Int32) (hd : 13 ≤ d) (hw : 494 ≤ w) (hS : zT S) (h : (0 ≤ (i + (1 : Int32)) ∧ ((i + (1 : Int32))).toNatClampNeg < X.1) ∧ (ma_fp X 2 (d - 1) (w - 23) 0 [(0, .inr (.inr (some 64))), (1, .inl (X.2 ((i + (1 : Int32))).toNatClampNeg)), (2, .inr (.inr (some 125)))] [] S (zfi_ (fun v1 S2 => zT S2 ∧ ((0 ≤ (i + (1 : Int32)) ∧ ((i + (1 : Int32))).toNatClampNeg < X.1) ∧ (ma_wp X (d - 1) (w - 21) 169 0 [(0, .inr (.inr (some 94))), (1, .inl (X.2 ((i + (1 : Int32))).toNatClampNeg))] [] S2 (zi (fun v4 S3 => zT S3 ∧ (ma_fp X 0 d w 929 [(0, .inr (.inr (some 30))), (1, .inr (.inr (some 64))), (2, .inr (.inr (some 94))), (3, .inr (.inr (some 125))), (4, .inl i)] [] S3 Q)) (fun _ _ => False)))))))) : ma_fp X 0 d w 212 [(0, .inr (.inr (some 30))), (1, .inr (.inr (some 64))), (2, .inr (.inr (some 94))), (3, .inr (.inr (some 125))), (4, .inl i)] [] S Q := by
  refine zf_push fm_0 dF0_212 (v := .inr (.inr (some 64))) rfl ?_
  refine zf_push fm_0 dF0_213 (v := .inr (.inr (some 30))) rfl ?_
  refine zf_push fm_0 dF0_214 (v := .inl i) rfl ?_
  refine zf_push fm_0 dF0_216 (v := .inl (1 : Int32)) rfl ?_
  refine zf_stk fm_0 dF0_217 (st' := [.inl (i + (1 : Int32)), .inr (.inr (some 30)), .inr (.inr (some 64))]) rfl rfl ?_
  obtain ⟨hg, h⟩ := h
  refine zf_one fm_0 dF0_218 (oo_sc hg) ?_
  refine zf_push fm_0 dF0_219 (v := .inr (.inr (some 125))) rfl ?_
  refine zf_cw fm_0 dF0_220 cw_95 fm_2 [.inr (.inr (some 125)), .inl (X.2 ((i + (1 : Int32))).toNatClampNeg), .inr (.inr (some 64))] [] rfl (by omega) (by omega) rfl (zf_mono h (zfi_go ?_))
  · intro v1 S2 hv
    obtain ⟨hS2, h⟩ := hv
    refine zf_sto fm_0 dF0_223 [(5, .inl v1), (0, .inr (.inr (some 30))), (1, .inr (.inr (some 64))), (2, .inr (.inr (some 94))), (3, .inr (.inr (some 125))), (4, .inl i)] rfl rfl rfl ?_
    refine zf_push fm_0 dF0_225 (v := .inr (.inr (some 94))) rfl ?_
    refine zf_push fm_0 dF0_226 (v := .inr (.inr (some 30))) rfl ?_
    refine zf_push fm_0 dF0_227 (v := .inl i) rfl ?_
    refine zf_push fm_0 dF0_229 (v := .inl (1 : Int32)) rfl ?_
    refine zf_stk fm_0 dF0_230 (st' := [.inl (i + (1 : Int32)), .inr (.inr (some 30)), .inr (.inr (some 94))]) rfl rfl ?_
    obtain ⟨hg, h⟩ := h
    refine zf_one fm_0 dF0_231 (oo_sc hg) ?_
    refine zf_cv fm_0 dF0_232 v_14_98_12 hm_169 [.inl (X.2 ((i + (1 : Int32))).toNatClampNeg)] [] rfl (zT_rt hS2 s_94 rfl) ⟨by omega, by omega⟩ rfl (zw_mono h (zi_go ?_ ?_))
    · intro v4 S3 hv
      obtain ⟨hS3, h⟩ := hv
      refine zf_sto fm_0 dF0_235 [(6, .inl v4), (5, .inl v1), (0, .inr (.inr (some 30))), (1, .inr (.inr (some 64))), (2, .inr (.inr (some 94))), (3, .inr (.inr (some 125))), (4, .inl i)] rfl rfl rfl ?_
      refine zf_goto fm_0 dF0_237 (t := 929) rfl ?_
      exact zf_sub (ma_nd_of (ks := [0, 1, 2, 3, 4]) rfl (by decide)) (ma_nd_of (ks := [6, 5, 0, 1, 2, 3, 4]) rfl (by decide)) (ma_le_cons rfl (ma_le_cons rfl (ma_le_cons rfl (ma_le_cons rfl (ma_le_cons rfl (ma_le_nil _)))))) h
    · intro x S9 hx
      exact hx.elim
theorem la_1 {X : Nat × (Nat → Int32)} {C0 Z0 T : Nat} {S : ma_S} {Q : Option ma_V → ma_S → Prop} (i : Int32) (H : zLw C0 Z0 T S) (ht : T + 1 ≤ 3000) (gd : ∀ j : Int32, (j = 1 ∨ j = 2 ∨ j = 3 ∨ j = 4 ∨ j = 5) → 0 ≤ i + j ∧ (i + j).toNatClampNeg < X.1) (K : ∀ S', zLw C0 Z0 (T + 1) S' → ma_fp X 0 13 494 929 [(0, .inr (.inr (some 30))), (1, .inr (.inr (some 64))), (2, .inr (.inr (some 94))), (3, .inr (.inr (some 125))), (4, .inl i)] [] S' Q) : ma_fp X 0 13 494 212 [(0, .inr (.inr (some 30))), (1, .inr (.inr (some 64))), (2, .inr (.inr (some 94))), (3, .inr (.inr (some 125))), (4, .inl i)] [] S Q := by
  refine gl_212 i (by decide) (by decide) H.1.1.1 ?_
  refine ⟨gd 1 (by decide), ?_⟩
  have hte : (mI S 64 1).toInt = (mI S 94 3).toInt := by rw [H.2.2.1]
  refine fw_2 _ (by decide) (by decide) H.1 hte (fun v S2 hc hl hke h65 hq => zfi_n ⟨hc.1.1.1, gd 1 (by decide), ?_⟩) (fun v S2 hc hke h65 hq => zfi_n ⟨hc.1.1.1, gd 1 (by decide), ?_⟩)
  · refine rf_169 _ (by decide) (by decide) hc.1.1.1 (ref_tr H.2.1 hc.2.1) ht (fun v2 m' hr ho h7 h95 hx => zi_n ⟨hc.1.1.1, K _ (lw_step H hc hr ho ?_ ?_ ?_)⟩)
    all_goals have e1 := hq
    · rw [ho 64 1 (Or.inl (by decide))]
      exact Int32.toInt_inj.mp (by omega)
    · exact lw_ke H hc hke ho h7
    · exact lw_al H hc h65 ho (by omega) h95
  · refine rf_169 _ (by decide) (by decide) hc.1.1.1 (ref_tr H.2.1 hc.2.1) ht (fun v2 m' hr ho h7 h95 hx => zi_n ⟨hc.1.1.1, K _ (lw_step H hc hr ho ?_ ?_ ?_)⟩)
    all_goals have e1 := hq
    · rw [ho 64 1 (Or.inl (by decide))]
      exact Int32.toInt_inj.mp (by omega)
    · exact lw_ke H hc hke ho h7
    · exact lw_al H hc h65 ho (by omega) h95
theorem gl_240 {X : Nat × (Nat → Int32)} {d w : Nat} {S : ma_S} {Q : Option ma_V → ma_S → Prop} (i : Int32) (hd : 13 ≤ d) (hw : 494 ≤ w) (hS : zT S) (h : (0 ≤ (i + (1 : Int32)) ∧ ((i + (1 : Int32))).toNatClampNeg < X.1) ∧ ((0 ≤ (i + (2 : Int32)) ∧ ((i + (2 : Int32))).toNatClampNeg < X.1) ∧ (ma_fp X 3 (d - 1) (w - 24) 0 [(0, .inr (.inr (some 64))), (1, .inl (X.2 ((i + (1 : Int32))).toNatClampNeg)), (2, .inl (X.2 ((i + (2 : Int32))).toNatClampNeg)), (3, .inr (.inr (some 125)))] [] S (zfi_ (fun v1 S2 => zT S2 ∧ ((0 ≤ (i + (1 : Int32)) ∧ ((i + (1 : Int32))).toNatClampNeg < X.1) ∧ ((0 ≤ (i + (2 : Int32)) ∧ ((i + (2 : Int32))).toNatClampNeg < X.1) ∧ (ma_wp X (d - 1) (w - 23) 170 0 [(0, .inr (.inr (some 94))), (1, .inl (X.2 ((i + (1 : Int32))).toNatClampNeg)), (2, .inl (X.2 ((i + (2 : Int32))).toNatClampNeg))] [] S2 (zi (fun v4 S3 => zT S3 ∧ (ma_fp X 0 d w 929 [(0, .inr (.inr (some 30))), (1, .inr (.inr (some 64))), (2, .inr (.inr (some 94))), (3, .inr (.inr (some 125))), (4, .inl i)] [] S3 Q)) (fun _ _ => False)))))))))) : ma_fp X 0 d w 240 [(0, .inr (.inr (some 30))), (1, .inr (.inr (some 64))), (2, .inr (.inr (some 94))), (3, .inr (.inr (some 125))), (4, .inl i)] [] S Q := by
  refine zf_push fm_0 dF0_240 (v := .inr (.inr (some 64))) rfl ?_
  refine zf_push fm_0 dF0_241 (v := .inr (.inr (some 30))) rfl ?_
  refine zf_push fm_0 dF0_242 (v := .inl i) rfl ?_
  refine zf_push fm_0 dF0_244 (v := .inl (1 : Int32)) rfl ?_
  refine zf_stk fm_0 dF0_245 (st' := [.inl (i + (1 : Int32)), .inr (.inr (some 30)), .inr (.inr (some 64))]) rfl rfl ?_
  obtain ⟨hg, h⟩ := h
  refine zf_one fm_0 dF0_246 (oo_sc hg) ?_
  refine zf_push fm_0 dF0_247 (v := .inr (.inr (some 30))) rfl ?_
  refine zf_push fm_0 dF0_248 (v := .inl i) rfl ?_
  refine zf_push fm_0 dF0_250 (v := .inl (2 : Int32)) rfl ?_
  refine zf_stk fm_0 dF0_251 (st' := [.inl (i + (2 : Int32)), .inr (.inr (some 30)), .inl (X.2 ((i + (1 : Int32))).toNatClampNeg), .inr (.inr (some 64))]) rfl rfl ?_
  obtain ⟨hg, h⟩ := h
  refine zf_one fm_0 dF0_252 (oo_sc hg) ?_
  refine zf_push fm_0 dF0_253 (v := .inr (.inr (some 125))) rfl ?_
  refine zf_cw fm_0 dF0_254 cw_99 fm_3 [.inr (.inr (some 125)), .inl (X.2 ((i + (2 : Int32))).toNatClampNeg), .inl (X.2 ((i + (1 : Int32))).toNatClampNeg), .inr (.inr (some 64))] [] rfl (by omega) (by omega) rfl (zf_mono h (zfi_go ?_))
  · intro v1 S2 hv
    obtain ⟨hS2, h⟩ := hv
    refine zf_sto fm_0 dF0_257 [(5, .inl v1), (0, .inr (.inr (some 30))), (1, .inr (.inr (some 64))), (2, .inr (.inr (some 94))), (3, .inr (.inr (some 125))), (4, .inl i)] rfl rfl rfl ?_
    refine zf_push fm_0 dF0_259 (v := .inr (.inr (some 94))) rfl ?_
    refine zf_push fm_0 dF0_260 (v := .inr (.inr (some 30))) rfl ?_
    refine zf_push fm_0 dF0_261 (v := .inl i) rfl ?_
    refine zf_push fm_0 dF0_263 (v := .inl (1 : Int32)) rfl ?_
    refine zf_stk fm_0 dF0_264 (st' := [.inl (i + (1 : Int32)), .inr (.inr (some 30)), .inr (.inr (some 94))]) rfl rfl ?_
    obtain ⟨hg, h⟩ := h
    refine zf_one fm_0 dF0_265 (oo_sc hg) ?_
    refine zf_push fm_0 dF0_266 (v := .inr (.inr (some 30))) rfl ?_
    refine zf_push fm_0 dF0_267 (v := .inl i) rfl ?_
    refine zf_push fm_0 dF0_269 (v := .inl (2 : Int32)) rfl ?_
    refine zf_stk fm_0 dF0_270 (st' := [.inl (i + (2 : Int32)), .inr (.inr (some 30)), .inl (X.2 ((i + (1 : Int32))).toNatClampNeg), .inr (.inr (some 94))]) rfl rfl ?_
    obtain ⟨hg, h⟩ := h
    refine zf_one fm_0 dF0_271 (oo_sc hg) ?_
    refine zf_cv fm_0 dF0_272 v_14_102_12 hm_170 [.inl (X.2 ((i + (2 : Int32))).toNatClampNeg), .inl (X.2 ((i + (1 : Int32))).toNatClampNeg)] [] rfl (zT_rt hS2 s_94 rfl) ⟨by omega, by omega⟩ rfl (zw_mono h (zi_go ?_ ?_))
    · intro v4 S3 hv
      obtain ⟨hS3, h⟩ := hv
      refine zf_sto fm_0 dF0_275 [(6, .inl v4), (5, .inl v1), (0, .inr (.inr (some 30))), (1, .inr (.inr (some 64))), (2, .inr (.inr (some 94))), (3, .inr (.inr (some 125))), (4, .inl i)] rfl rfl rfl ?_
      refine zf_goto fm_0 dF0_277 (t := 929) rfl ?_
      exact zf_sub (ma_nd_of (ks := [0, 1, 2, 3, 4]) rfl (by decide)) (ma_nd_of (ks := [6, 5, 0, 1, 2, 3, 4]) rfl (by decide)) (ma_le_cons rfl (ma_le_cons rfl (ma_le_cons rfl (ma_le_cons rfl (ma_le_cons rfl (ma_le_nil _)))))) h
    · intro x S9 hx
      exact hx.elim
theorem la_2 {X : Nat × (Nat → Int32)} {C0 Z0 T : Nat} {S : ma_S} {Q : Option ma_V → ma_S → Prop} (i : Int32) (H : zLw C0 Z0 T S) (ht : T + 1 ≤ 3000) (gd : ∀ j : Int32, (j = 1 ∨ j = 2 ∨ j = 3 ∨ j = 4 ∨ j = 5) → 0 ≤ i + j ∧ (i + j).toNatClampNeg < X.1) (K : ∀ S', zLw C0 Z0 (T + 1) S' → ma_fp X 0 13 494 929 [(0, .inr (.inr (some 30))), (1, .inr (.inr (some 64))), (2, .inr (.inr (some 94))), (3, .inr (.inr (some 125))), (4, .inl i)] [] S' Q) : ma_fp X 0 13 494 240 [(0, .inr (.inr (some 30))), (1, .inr (.inr (some 64))), (2, .inr (.inr (some 94))), (3, .inr (.inr (some 125))), (4, .inl i)] [] S Q := by
  refine gl_240 i (by decide) (by decide) H.1.1.1 ?_
  refine ⟨gd 1 (by decide), gd 2 (by decide), ?_⟩
  have hte : (mI S 64 1).toInt = (mI S 94 3).toInt := by rw [H.2.2.1]
  have hke : (mI S 64 7).toInt = (mI S 94 7).toInt := by rw [H.2.2.2.1]
  refine fw_3 _ _ (by decide) (by decide) H.1 hte hke (fun v S2 hc hl h65 hq => zfi_n ⟨hc.1.1.1, gd 1 (by decide), gd 2 (by decide), ?_⟩) (fun S2 hc h65 hq => zfi_n ⟨hc.1.1.1, gd 1 (by decide), gd 2 (by decide), ?_⟩) (fun S2 hc h65 hq => zfi_n ⟨hc.1.1.1, gd 1 (by decide), gd 2 (by decide), ?_⟩)
  · refine rf_170 _ _ (by decide) (by decide) hc.1.1.1 (ref_tr H.2.1 hc.2.1) ht (fun v2 m' hr ho h3 h95 hx => zi_n ⟨hc.1.1.1, K _ (lw_step H hc hr ho ?_ ?_ ?_)⟩)
    all_goals have e1 := hq
    · rw [ho 64 1 (Or.inl (by decide)), h3]
      exact Int32.toInt_inj.mp (by omega)
    · rw [ho 64 7 (Or.inl (by decide))]
      exact Int32.toInt_inj.mp (by omega)
    · exact lw_al H hc h65 ho (by rw [h3]; exact Int.le_refl _) h95
  · refine rf_170 _ _ (by decide) (by decide) hc.1.1.1 (ref_tr H.2.1 hc.2.1) ht (fun v2 m' hr ho h3 h95 hx => zi_n ⟨hc.1.1.1, K _ (lw_step H hc hr ho ?_ ?_ ?_)⟩)
    all_goals have e1 := hq
    · rw [ho 64 1 (Or.inl (by decide)), h3]
      exact Int32.toInt_inj.mp (by omega)
    · rw [ho 64 7 (Or.inl (by decide))]
      exact Int32.toInt_inj.mp (by omega)
    · exact lw_al H hc h65 ho (by rw [h3]; exact Int.le_refl _) h95
  · refine rf_170 _ _ (by decide) (by decide) hc.1.1.1 (ref_tr H.2.1 hc.2.1) ht (fun v2 m' hr ho h3 h95 hx => zi_n ⟨hc.1.1.1, K _ (lw_step H hc hr ho ?_ ?_ ?_)⟩)
    all_goals have e1 := hq
    · rw [ho 64 1 (Or.inl (by decide)), h3]
      exact Int32.toInt_inj.mp (by omega)
    · rw [ho 64 7 (Or.inl (by decide))]
      exact Int32.toInt_inj.mp (by omega)
    · exact lw_al H hc h65 ho (by rw [h3]; exact Int.le_refl _) h95
theorem gl_280 {X : Nat × (Nat → Int32)} {d w : Nat} {S : ma_S} {Q : Option ma_V → ma_S → Prop} (i : Int32) (hd : 13 ≤ d) (hw : 494 ≤ w) (hS : zT S) (h : ma_wp X (d - 1) (w - 21) 127 0 [(0, .inr (.inr (some 64)))] [] S (zi (fun v2 S1 => zT S1 ∧ (ma_wp X (d - 1) (w - 21) 171 0 [(0, .inr (.inr (some 94)))] [] S1 (zi (fun v4 S3 => zT S3 ∧ (if v2 = v4 then (ma_fp X 0 d w 929 [(0, .inr (.inr (some 30))), (1, .inr (.inr (some 64))), (2, .inr (.inr (some 94))), (3, .inr (.inr (some 125))), (4, .inl i)] [] S3 Q) else (Q (some (.inl (0 : Int32))) S3))) (fun _ _ => False)))) (fun _ _ => False))) : ma_fp X 0 d w 280 [(0, .inr (.inr (some 30))), (1, .inr (.inr (some 64))), (2, .inr (.inr (some 94))), (3, .inr (.inr (some 125))), (4, .inl i)] [] S Q := by
  refine zf_push fm_0 dF0_280 (v := .inr (.inr (some 64))) rfl ?_
  refine zf_cv fm_0 dF0_281 v_14_103_11 hm_127 [] [] rfl (zT_rt hS s_64 rfl) ⟨by omega, by omega⟩ rfl (zw_mono h (zi_go ?_ ?_))
  · intro v2 S1 hv
    obtain ⟨hS1, h⟩ := hv
    refine zf_push fm_0 dF0_284 (v := .inr (.inr (some 94))) rfl ?_
    refine zf_cv fm_0 dF0_285 v_14_106_12 hm_171 [] [.inl v2] rfl (zT_rt hS1 s_94 rfl) ⟨by omega, by omega⟩ rfl (zw_mono h (zi_go ?_ ?_))
    · intro v4 S3 hv
      obtain ⟨hS3, h⟩ := hv
      refine zf_if2 fm_0 dF0_288 (t := 929) rfl zc2_eq ?_ ?_
      · intro hc
        rw [if_pos hc] at h
        exact h
      · intro hc
        rw [if_neg hc] at h
        refine zf_push fm_0 dF0_291 (v := .inl (0 : Int32)) rfl ?_
        exact zf_bret fm_0 dF0_292 (by decide) h
    · intro x S9 hx
      exact hx.elim
  · intro x S9 hx
    exact hx.elim
theorem la_3 {X : Nat × (Nat → Int32)} {C0 Z0 T : Nat} {S : ma_S} {Q : Option ma_V → ma_S → Prop} (i : Int32) (H : zLw C0 Z0 T S) (ht : T + 1 ≤ 3000) (gd : ∀ j : Int32, (j = 1 ∨ j = 2 ∨ j = 3 ∨ j = 4 ∨ j = 5) → 0 ≤ i + j ∧ (i + j).toNatClampNeg < X.1) (K : ∀ S', zLw C0 Z0 (T + 1) S' → ma_fp X 0 13 494 929 [(0, .inr (.inr (some 30))), (1, .inr (.inr (some 64))), (2, .inr (.inr (some 94))), (3, .inr (.inr (some 125))), (4, .inl i)] [] S' Q) : ma_fp X 0 13 494 280 [(0, .inr (.inr (some 30))), (1, .inr (.inr (some 64))), (2, .inr (.inr (some 94))), (3, .inr (.inr (some 125))), (4, .inl i)] [] S Q := by
  refine gl_280 i (by decide) (by decide) H.1.1.1 ?_
  refine sp_127_64_n (zt := mI S 65) (zn := (mI S 64 1).toInt) (by decide) (by decide) H.1.1 rfl rfl (fun v S2 r' hr' hI hq han => zi_n ⟨zG_T hI, ?_⟩)
  have hp : r' 64 11 = none ∨ ∃ p, p ∈ zcl7 ∧ r' 64 11 = some p := by
    rcases hr' with e | ⟨p, hp, e⟩
    · rw [e]; exact H.1.2
    · refine Or.inr ⟨p, hp, ?_⟩
      rw [e]
      rfl
  have hc : zCl S S2 := cl_A H.1 hI hp (Nat.le_succ _) (Nat.le_add_right _ _)
  refine rf_171 (by decide) (by decide) hc.1.1.1 (ref_tr H.2.1 hc.2.1) ht (lw_by H hc) (fun v2 m' hr ho h7 hx han2 => zi_n ⟨hc.1.1.1, zt (lw_an H hc han han2) (K _ (lw_step H hc hr ho ?_ (lw_ke H hc (fr_A7 hI) ho h7) (al_0 hx)))⟩)
  rw [ho 64 1 (Or.inl (by decide))]
  exact Int32.toInt_inj.mp (by omega)
theorem gl_293 {X : Nat × (Nat → Int32)} {d w : Nat} {S : ma_S} {Q : Option ma_V → ma_S → Prop} (i : Int32) (hd : 13 ≤ d) (hw : 494 ≤ w) (hS : zT S) (h : (0 ≤ (i + (1 : Int32)) ∧ ((i + (1 : Int32))).toNatClampNeg < X.1) ∧ ((0 ≤ (i + (2 : Int32)) ∧ ((i + (2 : Int32))).toNatClampNeg < X.1) ∧ (ma_fp X 4 (d - 1) (w - 24) 0 [(0, .inr (.inr (some 64))), (1, .inl (X.2 ((i + (1 : Int32))).toNatClampNeg)), (2, .inl (X.2 ((i + (2 : Int32))).toNatClampNeg)), (3, .inr (.inr (some 125)))] [] S (zfi_ (fun v1 S2 => zT S2 ∧ ((0 ≤ (i + (1 : Int32)) ∧ ((i + (1 : Int32))).toNatClampNeg < X.1) ∧ ((0 ≤ (i + (2 : Int32)) ∧ ((i + (2 : Int32))).toNatClampNeg < X.1) ∧ (ma_wp X (d - 1) (w - 22) 181 0 [(0, .inr (.inr (some 94))), (1, .inl (X.2 ((i + (1 : Int32))).toNatClampNeg)), (2, .inl (X.2 ((i + (2 : Int32))).toNatClampNeg))] [] S2 (zi (fun v4 S3 => zT S3 ∧ (ma_fp X 0 d w 929 [(0, .inr (.inr (some 30))), (1, .inr (.inr (some 64))), (2, .inr (.inr (some 94))), (3, .inr (.inr (some 125))), (4, .inl i)] [] S3 Q)) (fun _ _ => False)))))))))) : ma_fp X 0 d w 293 [(0, .inr (.inr (some 30))), (1, .inr (.inr (some 64))), (2, .inr (.inr (some 94))), (3, .inr (.inr (some 125))), (4, .inl i)] [] S Q := by
  refine zf_push fm_0 dF0_293 (v := .inr (.inr (some 64))) rfl ?_
  refine zf_push fm_0 dF0_294 (v := .inr (.inr (some 30))) rfl ?_
  refine zf_push fm_0 dF0_295 (v := .inl i) rfl ?_
  refine zf_push fm_0 dF0_297 (v := .inl (1 : Int32)) rfl ?_
  refine zf_stk fm_0 dF0_298 (st' := [.inl (i + (1 : Int32)), .inr (.inr (some 30)), .inr (.inr (some 64))]) rfl rfl ?_
  obtain ⟨hg, h⟩ := h
  refine zf_one fm_0 dF0_299 (oo_sc hg) ?_
  refine zf_push fm_0 dF0_300 (v := .inr (.inr (some 30))) rfl ?_
  refine zf_push fm_0 dF0_301 (v := .inl i) rfl ?_
  refine zf_push fm_0 dF0_303 (v := .inl (2 : Int32)) rfl ?_
  refine zf_stk fm_0 dF0_304 (st' := [.inl (i + (2 : Int32)), .inr (.inr (some 30)), .inl (X.2 ((i + (1 : Int32))).toNatClampNeg), .inr (.inr (some 64))]) rfl rfl ?_
  obtain ⟨hg, h⟩ := h
  refine zf_one fm_0 dF0_305 (oo_sc hg) ?_
  refine zf_push fm_0 dF0_306 (v := .inr (.inr (some 125))) rfl ?_
  refine zf_cw fm_0 dF0_307 cw_107 fm_4 [.inr (.inr (some 125)), .inl (X.2 ((i + (2 : Int32))).toNatClampNeg), .inl (X.2 ((i + (1 : Int32))).toNatClampNeg), .inr (.inr (some 64))] [] rfl (by omega) (by omega) rfl (zf_mono h (zfi_go ?_))
  · intro v1 S2 hv
    obtain ⟨hS2, h⟩ := hv
    refine zf_sto fm_0 dF0_310 [(5, .inl v1), (0, .inr (.inr (some 30))), (1, .inr (.inr (some 64))), (2, .inr (.inr (some 94))), (3, .inr (.inr (some 125))), (4, .inl i)] rfl rfl rfl ?_
    refine zf_push fm_0 dF0_312 (v := .inr (.inr (some 94))) rfl ?_
    refine zf_push fm_0 dF0_313 (v := .inr (.inr (some 30))) rfl ?_
    refine zf_push fm_0 dF0_314 (v := .inl i) rfl ?_
    refine zf_push fm_0 dF0_316 (v := .inl (1 : Int32)) rfl ?_
    refine zf_stk fm_0 dF0_317 (st' := [.inl (i + (1 : Int32)), .inr (.inr (some 30)), .inr (.inr (some 94))]) rfl rfl ?_
    obtain ⟨hg, h⟩ := h
    refine zf_one fm_0 dF0_318 (oo_sc hg) ?_
    refine zf_push fm_0 dF0_319 (v := .inr (.inr (some 30))) rfl ?_
    refine zf_push fm_0 dF0_320 (v := .inl i) rfl ?_
    refine zf_push fm_0 dF0_322 (v := .inl (2 : Int32)) rfl ?_
    refine zf_stk fm_0 dF0_323 (st' := [.inl (i + (2 : Int32)), .inr (.inr (some 30)), .inl (X.2 ((i + (1 : Int32))).toNatClampNeg), .inr (.inr (some 94))]) rfl rfl ?_
    obtain ⟨hg, h⟩ := h
    refine zf_one fm_0 dF0_324 (oo_sc hg) ?_
    refine zf_cv fm_0 dF0_325 v_14_109_12 hm_181 [.inl (X.2 ((i + (2 : Int32))).toNatClampNeg), .inl (X.2 ((i + (1 : Int32))).toNatClampNeg)] [] rfl (zT_rt hS2 s_94 rfl) ⟨by omega, by omega⟩ rfl (zw_mono h (zi_go ?_ ?_))
    · intro v4 S3 hv
      obtain ⟨hS3, h⟩ := hv
      refine zf_sto fm_0 dF0_328 [(6, .inl v4), (5, .inl v1), (0, .inr (.inr (some 30))), (1, .inr (.inr (some 64))), (2, .inr (.inr (some 94))), (3, .inr (.inr (some 125))), (4, .inl i)] rfl rfl rfl ?_
      refine zf_goto fm_0 dF0_330 (t := 929) rfl ?_
      exact zf_sub (ma_nd_of (ks := [0, 1, 2, 3, 4]) rfl (by decide)) (ma_nd_of (ks := [6, 5, 0, 1, 2, 3, 4]) rfl (by decide)) (ma_le_cons rfl (ma_le_cons rfl (ma_le_cons rfl (ma_le_cons rfl (ma_le_cons rfl (ma_le_nil _)))))) h
    · intro x S9 hx
      exact hx.elim
theorem la_4 {X : Nat × (Nat → Int32)} {C0 Z0 T : Nat} {S : ma_S} {Q : Option ma_V → ma_S → Prop} (i : Int32) (H : zLw C0 Z0 T S) (ht : T + 1 ≤ 3000) (gd : ∀ j : Int32, (j = 1 ∨ j = 2 ∨ j = 3 ∨ j = 4 ∨ j = 5) → 0 ≤ i + j ∧ (i + j).toNatClampNeg < X.1) (K : ∀ S', zLw C0 Z0 (T + 1) S' → ma_fp X 0 13 494 929 [(0, .inr (.inr (some 30))), (1, .inr (.inr (some 64))), (2, .inr (.inr (some 94))), (3, .inr (.inr (some 125))), (4, .inl i)] [] S' Q) : ma_fp X 0 13 494 293 [(0, .inr (.inr (some 30))), (1, .inr (.inr (some 64))), (2, .inr (.inr (some 94))), (3, .inr (.inr (some 125))), (4, .inl i)] [] S Q := by
  refine gl_293 i (by decide) (by decide) H.1.1.1 ?_
  refine ⟨gd 1 (by decide), gd 2 (by decide), ?_⟩
  refine fw_4 _ _ (by decide) (by decide) H.1 (fun v S2 hc hte hke h65 => zfi_n ⟨hc.1.1.1, gd 1 (by decide), gd 2 (by decide), ?_⟩)
  refine rf_181 _ _ (by decide) (by decide) hc.1.1.1 (ref_tr H.2.1 hc.2.1) ht (fun v2 m' hr ho h3 h7 h95 => zi_n ⟨hc.1.1.1, K _ (lw_step H hc hr ho (lw_te H hc hte ho h3) (lw_ke H hc hke ho h7) (lw_al H hc h65 ho (by rw [h3]; exact Int.le_refl _) h95))⟩)
theorem gl_333 {X : Nat × (Nat → Int32)} {d w : Nat} {S : ma_S} {Q : Option ma_V → ma_S → Prop} (i : Int32) (hd : 13 ≤ d) (hw : 494 ≤ w) (hS : zT S) (h : (0 ≤ (i + (1 : Int32)) ∧ ((i + (1 : Int32))).toNatClampNeg < X.1) ∧ (if (X.2 ((i + (1 : Int32))).toNatClampNeg) = 0 then ((0 ≤ (i + (2 : Int32)) ∧ ((i + (2 : Int32))).toNatClampNeg < X.1) ∧ ((0 ≤ (i + (3 : Int32)) ∧ ((i + (3 : Int32))).toNatClampNeg < X.1) ∧ (ma_fp X 5 (d - 1) (w - 25) 0 [(0, .inr (.inr (some 64))), (1, .inl (0 : Int32)), (2, .inl (X.2 ((i + (2 : Int32))).toNatClampNeg)), (3, .inl (X.2 ((i + (3 : Int32))).toNatClampNeg)), (4, .inr (.inr (some 125)))] [] S (zfi_ (fun v1 S2 => zT S2 ∧ ((0 ≤ (i + (1 : Int32)) ∧ ((i + (1 : Int32))).toNatClampNeg < X.1) ∧ (if (X.2 ((i + (1 : Int32))).toNatClampNeg) = 0 then ((0 ≤ (i + (2 : Int32)) ∧ ((i + (2 : Int32))).toNatClampNeg < X.1) ∧ ((0 ≤ (i + (3 : Int32)) ∧ ((i + (3 : Int32))).toNatClampNeg < X.1) ∧ (ma_wp X (d - 1) (w - 23) 243 0 [(0, .inr (.inr (some 94))), (1, .inl (0 : Int32)), (2, .inl (X.2 ((i + (2 : Int32))).toNatClampNeg)), (3, .inl (X.2 ((i + (3 : Int32))).toNatClampNeg))] [] S2 (zi (fun v4 S3 => zT S3 ∧ (ma_fp X 0 d w 929 [(0, .inr (.inr (some 30))), (1, .inr (.inr (some 64))), (2, .inr (.inr (some 94))), (3, .inr (.inr (some 125))), (4, .inl i)] [] S3 Q)) (fun _ _ => False))))) else ((0 ≤ (i + (2 : Int32)) ∧ ((i + (2 : Int32))).toNatClampNeg < X.1) ∧ ((0 ≤ (i + (3 : Int32)) ∧ ((i + (3 : Int32))).toNatClampNeg < X.1) ∧ (ma_wp X (d - 1) (w - 23) 243 0 [(0, .inr (.inr (some 94))), (1, .inl (1 : Int32)), (2, .inl (X.2 ((i + (2 : Int32))).toNatClampNeg)), (3, .inl (X.2 ((i + (3 : Int32))).toNatClampNeg))] [] S2 (zi (fun v6 S5 => zT S5 ∧ (ma_fp X 0 d w 929 [(0, .inr (.inr (some 30))), (1, .inr (.inr (some 64))), (2, .inr (.inr (some 94))), (3, .inr (.inr (some 125))), (4, .inl i)] [] S5 Q)) (fun _ _ => False)))))))))))) else ((0 ≤ (i + (2 : Int32)) ∧ ((i + (2 : Int32))).toNatClampNeg < X.1) ∧ ((0 ≤ (i + (3 : Int32)) ∧ ((i + (3 : Int32))).toNatClampNeg < X.1) ∧ (ma_fp X 5 (d - 1) (w - 25) 0 [(0, .inr (.inr (some 64))), (1, .inl (1 : Int32)), (2, .inl (X.2 ((i + (2 : Int32))).toNatClampNeg)), (3, .inl (X.2 ((i + (3 : Int32))).toNatClampNeg)), (4, .inr (.inr (some 125)))] [] S (zfi_ (fun v7 S8 => zT S8 ∧ ((0 ≤ (i + (1 : Int32)) ∧ ((i + (1 : Int32))).toNatClampNeg < X.1) ∧ (if (X.2 ((i + (1 : Int32))).toNatClampNeg) = 0 then ((0 ≤ (i + (2 : Int32)) ∧ ((i + (2 : Int32))).toNatClampNeg < X.1) ∧ ((0 ≤ (i + (3 : Int32)) ∧ ((i + (3 : Int32))).toNatClampNeg < X.1) ∧ (ma_wp X (d - 1) (w - 23) 243 0 [(0, .inr (.inr (some 94))), (1, .inl (0 : Int32)), (2, .inl (X.2 ((i + (2 : Int32))).toNatClampNeg)), (3, .inl (X.2 ((i + (3 : Int32))).toNatClampNeg))] [] S8 (zi (fun v10 S9 => zT S9 ∧ (ma_fp X 0 d w 929 [(0, .inr (.inr (some 30))), (1, .inr (.inr (some 64))), (2, .inr (.inr (some 94))), (3, .inr (.inr (some 125))), (4, .inl i)] [] S9 Q)) (fun _ _ => False))))) else ((0 ≤ (i + (2 : Int32)) ∧ ((i + (2 : Int32))).toNatClampNeg < X.1) ∧ ((0 ≤ (i + (3 : Int32)) ∧ ((i + (3 : Int32))).toNatClampNeg < X.1) ∧ (ma_wp X (d - 1) (w - 23) 243 0 [(0, .inr (.inr (some 94))), (1, .inl (1 : Int32)), (2, .inl (X.2 ((i + (2 : Int32))).toNatClampNeg)), (3, .inl (X.2 ((i + (3 : Int32))).toNatClampNeg))] [] S8 (zi (fun v12 S11 => zT S11 ∧ (ma_fp X 0 d w 929 [(0, .inr (.inr (some 30))), (1, .inr (.inr (some 64))), (2, .inr (.inr (some 94))), (3, .inr (.inr (some 125))), (4, .inl i)] [] S11 Q)) (fun _ _ => False)))))))))))))) : ma_fp X 0 d w 333 [(0, .inr (.inr (some 30))), (1, .inr (.inr (some 64))), (2, .inr (.inr (some 94))), (3, .inr (.inr (some 125))), (4, .inl i)] [] S Q := by
  refine zf_push fm_0 dF0_333 (v := .inr (.inr (some 64))) rfl ?_
  refine zf_push fm_0 dF0_334 (v := .inr (.inr (some 30))) rfl ?_
  refine zf_push fm_0 dF0_335 (v := .inl i) rfl ?_
  refine zf_push fm_0 dF0_337 (v := .inl (1 : Int32)) rfl ?_
  refine zf_stk fm_0 dF0_338 (st' := [.inl (i + (1 : Int32)), .inr (.inr (some 30)), .inr (.inr (some 64))]) rfl rfl ?_
  obtain ⟨hg, h⟩ := h
  refine zf_one fm_0 dF0_339 (oo_sc hg) ?_
  refine zf_if0 fm_0 dF0_340 (t := 347) rfl zc0_eq ?_ ?_
  · intro hc
    rw [if_pos hc] at h
    refine zf_push fm_0 dF0_347 (v := .inl (0 : Int32)) rfl ?_
    refine zf_push fm_0 dF0_348 (v := .inr (.inr (some 30))) rfl ?_
    refine zf_push fm_0 dF0_349 (v := .inl i) rfl ?_
    refine zf_push fm_0 dF0_351 (v := .inl (2 : Int32)) rfl ?_
    refine zf_stk fm_0 dF0_352 (st' := [.inl (i + (2 : Int32)), .inr (.inr (some 30)), .inl (0 : Int32), .inr (.inr (some 64))]) rfl rfl ?_
    obtain ⟨hg, h⟩ := h
    refine zf_one fm_0 dF0_353 (oo_sc hg) ?_
    refine zf_push fm_0 dF0_354 (v := .inr (.inr (some 30))) rfl ?_
    refine zf_push fm_0 dF0_355 (v := .inl i) rfl ?_
    refine zf_push fm_0 dF0_357 (v := .inl (3 : Int32)) rfl ?_
    refine zf_stk fm_0 dF0_358 (st' := [.inl (i + (3 : Int32)), .inr (.inr (some 30)), .inl (X.2 ((i + (2 : Int32))).toNatClampNeg), .inl (0 : Int32), .inr (.inr (some 64))]) rfl rfl ?_
    obtain ⟨hg, h⟩ := h
    refine zf_one fm_0 dF0_359 (oo_sc hg) ?_
    refine zf_push fm_0 dF0_360 (v := .inr (.inr (some 125))) rfl ?_
    refine zf_cw fm_0 dF0_361 cw_110 fm_5 [.inr (.inr (some 125)), .inl (X.2 ((i + (3 : Int32))).toNatClampNeg), .inl (X.2 ((i + (2 : Int32))).toNatClampNeg), .inl (0 : Int32), .inr (.inr (some 64))] [] rfl (by omega) (by omega) rfl (zf_mono h (zfi_go ?_))
    · intro v1 S2 hv
      obtain ⟨hS2, h⟩ := hv
      refine zf_sto fm_0 dF0_364 [(5, .inl v1), (0, .inr (.inr (some 30))), (1, .inr (.inr (some 64))), (2, .inr (.inr (some 94))), (3, .inr (.inr (some 125))), (4, .inl i)] rfl rfl rfl ?_
      refine zf_push fm_0 dF0_366 (v := .inr (.inr (some 94))) rfl ?_
      refine zf_push fm_0 dF0_367 (v := .inr (.inr (some 30))) rfl ?_
      refine zf_push fm_0 dF0_368 (v := .inl i) rfl ?_
      refine zf_push fm_0 dF0_370 (v := .inl (1 : Int32)) rfl ?_
      refine zf_stk fm_0 dF0_371 (st' := [.inl (i + (1 : Int32)), .inr (.inr (some 30)), .inr (.inr (some 94))]) rfl rfl ?_
      obtain ⟨hg, h⟩ := h
      refine zf_one fm_0 dF0_372 (oo_sc hg) ?_
      refine zf_if0 fm_0 dF0_373 (t := 380) rfl zc0_eq ?_ ?_
      · intro hc
        rw [if_pos hc] at h
        refine zf_push fm_0 dF0_380 (v := .inl (0 : Int32)) rfl ?_
        refine zf_push fm_0 dF0_381 (v := .inr (.inr (some 30))) rfl ?_
        refine zf_push fm_0 dF0_382 (v := .inl i) rfl ?_
        refine zf_push fm_0 dF0_384 (v := .inl (2 : Int32)) rfl ?_
        refine zf_stk fm_0 dF0_385 (st' := [.inl (i + (2 : Int32)), .inr (.inr (some 30)), .inl (0 : Int32), .inr (.inr (some 94))]) rfl rfl ?_
        obtain ⟨hg, h⟩ := h
        refine zf_one fm_0 dF0_386 (oo_sc hg) ?_
        refine zf_push fm_0 dF0_387 (v := .inr (.inr (some 30))) rfl ?_
        refine zf_push fm_0 dF0_388 (v := .inl i) rfl ?_
        refine zf_push fm_0 dF0_390 (v := .inl (3 : Int32)) rfl ?_
        refine zf_stk fm_0 dF0_391 (st' := [.inl (i + (3 : Int32)), .inr (.inr (some 30)), .inl (X.2 ((i + (2 : Int32))).toNatClampNeg), .inl (0 : Int32), .inr (.inr (some 94))]) rfl rfl ?_
        obtain ⟨hg, h⟩ := h
        refine zf_one fm_0 dF0_392 (oo_sc hg) ?_
        refine zf_cv fm_0 dF0_393 v_14_113_12 hm_243 [.inl (X.2 ((i + (3 : Int32))).toNatClampNeg), .inl (X.2 ((i + (2 : Int32))).toNatClampNeg), .inl (0 : Int32)] [] rfl (zT_rt hS2 s_94 rfl) ⟨by omega, by omega⟩ rfl (zw_mono h (zi_go ?_ ?_))
        · intro v4 S3 hv
          obtain ⟨hS3, h⟩ := hv
          refine zf_sto fm_0 dF0_396 [(6, .inl v4), (5, .inl v1), (0, .inr (.inr (some 30))), (1, .inr (.inr (some 64))), (2, .inr (.inr (some 94))), (3, .inr (.inr (some 125))), (4, .inl i)] rfl rfl rfl ?_
          refine zf_goto fm_0 dF0_398 (t := 929) rfl ?_
          exact zf_sub (ma_nd_of (ks := [0, 1, 2, 3, 4]) rfl (by decide)) (ma_nd_of (ks := [6, 5, 0, 1, 2, 3, 4]) rfl (by decide)) (ma_le_cons rfl (ma_le_cons rfl (ma_le_cons rfl (ma_le_cons rfl (ma_le_cons rfl (ma_le_nil _)))))) h
        · intro x S9 hx
          exact hx.elim
      · intro hc
        rw [if_neg hc] at h
        refine zf_push fm_0 dF0_376 (v := .inl (1 : Int32)) rfl ?_
        refine zf_goto fm_0 dF0_377 (t := 381) rfl ?_
        refine zf_push fm_0 dF0_381 (v := .inr (.inr (some 30))) rfl ?_
        refine zf_push fm_0 dF0_382 (v := .inl i) rfl ?_
        refine zf_push fm_0 dF0_384 (v := .inl (2 : Int32)) rfl ?_
        refine zf_stk fm_0 dF0_385 (st' := [.inl (i + (2 : Int32)), .inr (.inr (some 30)), .inl (1 : Int32), .inr (.inr (some 94))]) rfl rfl ?_
        obtain ⟨hg, h⟩ := h
        refine zf_one fm_0 dF0_386 (oo_sc hg) ?_
        refine zf_push fm_0 dF0_387 (v := .inr (.inr (some 30))) rfl ?_
        refine zf_push fm_0 dF0_388 (v := .inl i) rfl ?_
        refine zf_push fm_0 dF0_390 (v := .inl (3 : Int32)) rfl ?_
        refine zf_stk fm_0 dF0_391 (st' := [.inl (i + (3 : Int32)), .inr (.inr (some 30)), .inl (X.2 ((i + (2 : Int32))).toNatClampNeg), .inl (1 : Int32), .inr (.inr (some 94))]) rfl rfl ?_
        obtain ⟨hg, h⟩ := h
        refine zf_one fm_0 dF0_392 (oo_sc hg) ?_
        refine zf_cv fm_0 dF0_393 v_14_113_12 hm_243 [.inl (X.2 ((i + (3 : Int32))).toNatClampNeg), .inl (X.2 ((i + (2 : Int32))).toNatClampNeg), .inl (1 : Int32)] [] rfl (zT_rt hS2 s_94 rfl) ⟨by omega, by omega⟩ rfl (zw_mono h (zi_go ?_ ?_))
        · intro v6 S5 hv
          obtain ⟨hS5, h⟩ := hv
          refine zf_sto fm_0 dF0_396 [(6, .inl v6), (5, .inl v1), (0, .inr (.inr (some 30))), (1, .inr (.inr (some 64))), (2, .inr (.inr (some 94))), (3, .inr (.inr (some 125))), (4, .inl i)] rfl rfl rfl ?_
          refine zf_goto fm_0 dF0_398 (t := 929) rfl ?_
          exact zf_sub (ma_nd_of (ks := [0, 1, 2, 3, 4]) rfl (by decide)) (ma_nd_of (ks := [6, 5, 0, 1, 2, 3, 4]) rfl (by decide)) (ma_le_cons rfl (ma_le_cons rfl (ma_le_cons rfl (ma_le_cons rfl (ma_le_cons rfl (ma_le_nil _)))))) h
        · intro x S9 hx
          exact hx.elim
  · intro hc
    rw [if_neg hc] at h
    refine zf_push fm_0 dF0_343 (v := .inl (1 : Int32)) rfl ?_
    refine zf_goto fm_0 dF0_344 (t := 348) rfl ?_
    refine zf_push fm_0 dF0_348 (v := .inr (.inr (some 30))) rfl ?_
    refine zf_push fm_0 dF0_349 (v := .inl i) rfl ?_
    refine zf_push fm_0 dF0_351 (v := .inl (2 : Int32)) rfl ?_
    refine zf_stk fm_0 dF0_352 (st' := [.inl (i + (2 : Int32)), .inr (.inr (some 30)), .inl (1 : Int32), .inr (.inr (some 64))]) rfl rfl ?_
    obtain ⟨hg, h⟩ := h
    refine zf_one fm_0 dF0_353 (oo_sc hg) ?_
    refine zf_push fm_0 dF0_354 (v := .inr (.inr (some 30))) rfl ?_
    refine zf_push fm_0 dF0_355 (v := .inl i) rfl ?_
    refine zf_push fm_0 dF0_357 (v := .inl (3 : Int32)) rfl ?_
    refine zf_stk fm_0 dF0_358 (st' := [.inl (i + (3 : Int32)), .inr (.inr (some 30)), .inl (X.2 ((i + (2 : Int32))).toNatClampNeg), .inl (1 : Int32), .inr (.inr (some 64))]) rfl rfl ?_
    obtain ⟨hg, h⟩ := h
    refine zf_one fm_0 dF0_359 (oo_sc hg) ?_
    refine zf_push fm_0 dF0_360 (v := .inr (.inr (some 125))) rfl ?_
    refine zf_cw fm_0 dF0_361 cw_110 fm_5 [.inr (.inr (some 125)), .inl (X.2 ((i + (3 : Int32))).toNatClampNeg), .inl (X.2 ((i + (2 : Int32))).toNatClampNeg), .inl (1 : Int32), .inr (.inr (some 64))] [] rfl (by omega) (by omega) rfl (zf_mono h (zfi_go ?_))
    · intro v7 S8 hv
      obtain ⟨hS8, h⟩ := hv
      refine zf_sto fm_0 dF0_364 [(5, .inl v7), (0, .inr (.inr (some 30))), (1, .inr (.inr (some 64))), (2, .inr (.inr (some 94))), (3, .inr (.inr (some 125))), (4, .inl i)] rfl rfl rfl ?_
      refine zf_push fm_0 dF0_366 (v := .inr (.inr (some 94))) rfl ?_
      refine zf_push fm_0 dF0_367 (v := .inr (.inr (some 30))) rfl ?_
      refine zf_push fm_0 dF0_368 (v := .inl i) rfl ?_
      refine zf_push fm_0 dF0_370 (v := .inl (1 : Int32)) rfl ?_
      refine zf_stk fm_0 dF0_371 (st' := [.inl (i + (1 : Int32)), .inr (.inr (some 30)), .inr (.inr (some 94))]) rfl rfl ?_
      obtain ⟨hg, h⟩ := h
      refine zf_one fm_0 dF0_372 (oo_sc hg) ?_
      refine zf_if0 fm_0 dF0_373 (t := 380) rfl zc0_eq ?_ ?_
      · intro hc
        rw [if_pos hc] at h
        refine zf_push fm_0 dF0_380 (v := .inl (0 : Int32)) rfl ?_
        refine zf_push fm_0 dF0_381 (v := .inr (.inr (some 30))) rfl ?_
        refine zf_push fm_0 dF0_382 (v := .inl i) rfl ?_
        refine zf_push fm_0 dF0_384 (v := .inl (2 : Int32)) rfl ?_
        refine zf_stk fm_0 dF0_385 (st' := [.inl (i + (2 : Int32)), .inr (.inr (some 30)), .inl (0 : Int32), .inr (.inr (some 94))]) rfl rfl ?_
        obtain ⟨hg, h⟩ := h
        refine zf_one fm_0 dF0_386 (oo_sc hg) ?_
        refine zf_push fm_0 dF0_387 (v := .inr (.inr (some 30))) rfl ?_
        refine zf_push fm_0 dF0_388 (v := .inl i) rfl ?_
        refine zf_push fm_0 dF0_390 (v := .inl (3 : Int32)) rfl ?_
        refine zf_stk fm_0 dF0_391 (st' := [.inl (i + (3 : Int32)), .inr (.inr (some 30)), .inl (X.2 ((i + (2 : Int32))).toNatClampNeg), .inl (0 : Int32), .inr (.inr (some 94))]) rfl rfl ?_
        obtain ⟨hg, h⟩ := h
        refine zf_one fm_0 dF0_392 (oo_sc hg) ?_
        refine zf_cv fm_0 dF0_393 v_14_113_12 hm_243 [.inl (X.2 ((i + (3 : Int32))).toNatClampNeg), .inl (X.2 ((i + (2 : Int32))).toNatClampNeg), .inl (0 : Int32)] [] rfl (zT_rt hS8 s_94 rfl) ⟨by omega, by omega⟩ rfl (zw_mono h (zi_go ?_ ?_))
        · intro v10 S9 hv
          obtain ⟨hS9, h⟩ := hv
          refine zf_sto fm_0 dF0_396 [(6, .inl v10), (5, .inl v7), (0, .inr (.inr (some 30))), (1, .inr (.inr (some 64))), (2, .inr (.inr (some 94))), (3, .inr (.inr (some 125))), (4, .inl i)] rfl rfl rfl ?_
          refine zf_goto fm_0 dF0_398 (t := 929) rfl ?_
          exact zf_sub (ma_nd_of (ks := [0, 1, 2, 3, 4]) rfl (by decide)) (ma_nd_of (ks := [6, 5, 0, 1, 2, 3, 4]) rfl (by decide)) (ma_le_cons rfl (ma_le_cons rfl (ma_le_cons rfl (ma_le_cons rfl (ma_le_cons rfl (ma_le_nil _)))))) h
        · intro x S9 hx
          exact hx.elim
      · intro hc
        rw [if_neg hc] at h
        refine zf_push fm_0 dF0_376 (v := .inl (1 : Int32)) rfl ?_
        refine zf_goto fm_0 dF0_377 (t := 381) rfl ?_
        refine zf_push fm_0 dF0_381 (v := .inr (.inr (some 30))) rfl ?_
        refine zf_push fm_0 dF0_382 (v := .inl i) rfl ?_
        refine zf_push fm_0 dF0_384 (v := .inl (2 : Int32)) rfl ?_
        refine zf_stk fm_0 dF0_385 (st' := [.inl (i + (2 : Int32)), .inr (.inr (some 30)), .inl (1 : Int32), .inr (.inr (some 94))]) rfl rfl ?_
        obtain ⟨hg, h⟩ := h
        refine zf_one fm_0 dF0_386 (oo_sc hg) ?_
        refine zf_push fm_0 dF0_387 (v := .inr (.inr (some 30))) rfl ?_
        refine zf_push fm_0 dF0_388 (v := .inl i) rfl ?_
        refine zf_push fm_0 dF0_390 (v := .inl (3 : Int32)) rfl ?_
        refine zf_stk fm_0 dF0_391 (st' := [.inl (i + (3 : Int32)), .inr (.inr (some 30)), .inl (X.2 ((i + (2 : Int32))).toNatClampNeg), .inl (1 : Int32), .inr (.inr (some 94))]) rfl rfl ?_
        obtain ⟨hg, h⟩ := h
        refine zf_one fm_0 dF0_392 (oo_sc hg) ?_
        refine zf_cv fm_0 dF0_393 v_14_113_12 hm_243 [.inl (X.2 ((i + (3 : Int32))).toNatClampNeg), .inl (X.2 ((i + (2 : Int32))).toNatClampNeg), .inl (1 : Int32)] [] rfl (zT_rt hS8 s_94 rfl) ⟨by omega, by omega⟩ rfl (zw_mono h (zi_go ?_ ?_))
        · intro v12 S11 hv
          obtain ⟨hS11, h⟩ := hv
          refine zf_sto fm_0 dF0_396 [(6, .inl v12), (5, .inl v7), (0, .inr (.inr (some 30))), (1, .inr (.inr (some 64))), (2, .inr (.inr (some 94))), (3, .inr (.inr (some 125))), (4, .inl i)] rfl rfl rfl ?_
          refine zf_goto fm_0 dF0_398 (t := 929) rfl ?_
          exact zf_sub (ma_nd_of (ks := [0, 1, 2, 3, 4]) rfl (by decide)) (ma_nd_of (ks := [6, 5, 0, 1, 2, 3, 4]) rfl (by decide)) (ma_le_cons rfl (ma_le_cons rfl (ma_le_cons rfl (ma_le_cons rfl (ma_le_cons rfl (ma_le_nil _)))))) h
        · intro x S9 hx
          exact hx.elim
theorem la_5 {X : Nat × (Nat → Int32)} {C0 Z0 T : Nat} {S : ma_S} {Q : Option ma_V → ma_S → Prop} (i : Int32) (H : zLw C0 Z0 T S) (ht : T + 1 ≤ 3000) (gd : ∀ j : Int32, (j = 1 ∨ j = 2 ∨ j = 3 ∨ j = 4 ∨ j = 5) → 0 ≤ i + j ∧ (i + j).toNatClampNeg < X.1) (K : ∀ S', zLw C0 Z0 (T + 1) S' → ma_fp X 0 13 494 929 [(0, .inr (.inr (some 30))), (1, .inr (.inr (some 64))), (2, .inr (.inr (some 94))), (3, .inr (.inr (some 125))), (4, .inl i)] [] S' Q) : ma_fp X 0 13 494 333 [(0, .inr (.inr (some 30))), (1, .inr (.inr (some 64))), (2, .inr (.inr (some 94))), (3, .inr (.inr (some 125))), (4, .inl i)] [] S Q := by
  refine gl_333 i (by decide) (by decide) H.1.1.1 ?_
  refine ⟨gd 1 (by decide), zd (fun hb => ?_) (fun hb => ?_)⟩
  · refine ⟨gd 2 (by decide), gd 3 (by decide), ?_⟩
    refine fw_5 _ _ _ (by decide) (by decide) H.1 (Or.inl rfl) (fun v S2 hc hte hke h65 => zfi_n ⟨hc.1.1.1, gd 1 (by decide), zt hb ⟨gd 2 (by decide), gd 3 (by decide), ?_⟩⟩)
    refine rf_243 _ _ _ (by decide) (by decide) hc.1.1.1 (ref_tr H.2.1 hc.2.1) ht (by decide) (by decide) (fun v2 m' hr ho h3 h7 h95 => zi_n ⟨hc.1.1.1, K _ (lw_step H hc hr ho (lw_te H hc hte ho h3) (lw_ke H hc hke ho h7) (lw_al H hc h65 ho (by rw [h3]; exact Int.le_refl _) h95))⟩)
  · refine ⟨gd 2 (by decide), gd 3 (by decide), ?_⟩
    refine fw_5 _ _ _ (by decide) (by decide) H.1 (Or.inr rfl) (fun v S2 hc hte hke h65 => zfi_n ⟨hc.1.1.1, gd 1 (by decide), zf hb ⟨gd 2 (by decide), gd 3 (by decide), ?_⟩⟩)
    refine rf_243 _ _ _ (by decide) (by decide) hc.1.1.1 (ref_tr H.2.1 hc.2.1) ht (by decide) (by decide) (fun v2 m' hr ho h3 h7 h95 => zi_n ⟨hc.1.1.1, K _ (lw_step H hc hr ho (lw_te H hc hte ho h3) (lw_ke H hc hke ho h7) (lw_al H hc h65 ho (by rw [h3]; exact Int.le_refl _) h95))⟩)
theorem gl_401 {X : Nat × (Nat → Int32)} {d w : Nat} {S : ma_S} {Q : Option ma_V → ma_S → Prop} (i : Int32) (hd : 13 ≤ d) (hw : 494 ≤ w) (hS : zT S) (h : (0 ≤ (i + (1 : Int32)) ∧ ((i + (1 : Int32))).toNatClampNeg < X.1) ∧ ((0 ≤ (i + (2 : Int32)) ∧ ((i + (2 : Int32))).toNatClampNeg < X.1) ∧ ((0 ≤ (i + (3 : Int32)) ∧ ((i + (3 : Int32))).toNatClampNeg < X.1) ∧ (ma_fp X 6 (d - 1) (w - 25) 0 [(0, .inr (.inr (some 64))), (1, .inl (X.2 ((i + (1 : Int32))).toNatClampNeg)), (2, .inl (X.2 ((i + (2 : Int32))).toNatClampNeg)), (3, .inl (X.2 ((i + (3 : Int32))).toNatClampNeg)), (4, .inr (.inr (some 125)))] [] S (zfi_ (fun v1 S2 => zT S2 ∧ ((0 ≤ (i + (1 : Int32)) ∧ ((i + (1 : Int32))).toNatClampNeg < X.1) ∧ ((0 ≤ (i + (2 : Int32)) ∧ ((i + (2 : Int32))).toNatClampNeg < X.1) ∧ ((0 ≤ (i + (3 : Int32)) ∧ ((i + (3 : Int32))).toNatClampNeg < X.1) ∧ (ma_wp X (d - 1) (w - 25) 244 0 [(0, .inr (.inr (some 94))), (1, .inl (X.2 ((i + (1 : Int32))).toNatClampNeg)), (2, .inl (X.2 ((i + (2 : Int32))).toNatClampNeg)), (3, .inl (X.2 ((i + (3 : Int32))).toNatClampNeg))] [] S2 (zi (fun v4 S3 => zT S3 ∧ (ma_fp X 0 d w 929 [(0, .inr (.inr (some 30))), (1, .inr (.inr (some 64))), (2, .inr (.inr (some 94))), (3, .inr (.inr (some 125))), (4, .inl i)] [] S3 Q)) (fun _ _ => False)))))))))))) : ma_fp X 0 d w 401 [(0, .inr (.inr (some 30))), (1, .inr (.inr (some 64))), (2, .inr (.inr (some 94))), (3, .inr (.inr (some 125))), (4, .inl i)] [] S Q := by
  refine zf_push fm_0 dF0_401 (v := .inr (.inr (some 64))) rfl ?_
  refine zf_push fm_0 dF0_402 (v := .inr (.inr (some 30))) rfl ?_
  refine zf_push fm_0 dF0_403 (v := .inl i) rfl ?_
  refine zf_push fm_0 dF0_405 (v := .inl (1 : Int32)) rfl ?_
  refine zf_stk fm_0 dF0_406 (st' := [.inl (i + (1 : Int32)), .inr (.inr (some 30)), .inr (.inr (some 64))]) rfl rfl ?_
  obtain ⟨hg, h⟩ := h
  refine zf_one fm_0 dF0_407 (oo_sc hg) ?_
  refine zf_push fm_0 dF0_408 (v := .inr (.inr (some 30))) rfl ?_
  refine zf_push fm_0 dF0_409 (v := .inl i) rfl ?_
  refine zf_push fm_0 dF0_411 (v := .inl (2 : Int32)) rfl ?_
  refine zf_stk fm_0 dF0_412 (st' := [.inl (i + (2 : Int32)), .inr (.inr (some 30)), .inl (X.2 ((i + (1 : Int32))).toNatClampNeg), .inr (.inr (some 64))]) rfl rfl ?_
  obtain ⟨hg, h⟩ := h
  refine zf_one fm_0 dF0_413 (oo_sc hg) ?_
  refine zf_push fm_0 dF0_414 (v := .inr (.inr (some 30))) rfl ?_
  refine zf_push fm_0 dF0_415 (v := .inl i) rfl ?_
  refine zf_push fm_0 dF0_417 (v := .inl (3 : Int32)) rfl ?_
  refine zf_stk fm_0 dF0_418 (st' := [.inl (i + (3 : Int32)), .inr (.inr (some 30)), .inl (X.2 ((i + (2 : Int32))).toNatClampNeg), .inl (X.2 ((i + (1 : Int32))).toNatClampNeg), .inr (.inr (some 64))]) rfl rfl ?_
  obtain ⟨hg, h⟩ := h
  refine zf_one fm_0 dF0_419 (oo_sc hg) ?_
  refine zf_push fm_0 dF0_420 (v := .inr (.inr (some 125))) rfl ?_
  refine zf_cw fm_0 dF0_421 cw_114 fm_6 [.inr (.inr (some 125)), .inl (X.2 ((i + (3 : Int32))).toNatClampNeg), .inl (X.2 ((i + (2 : Int32))).toNatClampNeg), .inl (X.2 ((i + (1 : Int32))).toNatClampNeg), .inr (.inr (some 64))] [] rfl (by omega) (by omega) rfl (zf_mono h (zfi_go ?_))
  · intro v1 S2 hv
    obtain ⟨hS2, h⟩ := hv
    refine zf_sto fm_0 dF0_424 [(5, .inl v1), (0, .inr (.inr (some 30))), (1, .inr (.inr (some 64))), (2, .inr (.inr (some 94))), (3, .inr (.inr (some 125))), (4, .inl i)] rfl rfl rfl ?_
    refine zf_push fm_0 dF0_426 (v := .inr (.inr (some 94))) rfl ?_
    refine zf_push fm_0 dF0_427 (v := .inr (.inr (some 30))) rfl ?_
    refine zf_push fm_0 dF0_428 (v := .inl i) rfl ?_
    refine zf_push fm_0 dF0_430 (v := .inl (1 : Int32)) rfl ?_
    refine zf_stk fm_0 dF0_431 (st' := [.inl (i + (1 : Int32)), .inr (.inr (some 30)), .inr (.inr (some 94))]) rfl rfl ?_
    obtain ⟨hg, h⟩ := h
    refine zf_one fm_0 dF0_432 (oo_sc hg) ?_
    refine zf_push fm_0 dF0_433 (v := .inr (.inr (some 30))) rfl ?_
    refine zf_push fm_0 dF0_434 (v := .inl i) rfl ?_
    refine zf_push fm_0 dF0_436 (v := .inl (2 : Int32)) rfl ?_
    refine zf_stk fm_0 dF0_437 (st' := [.inl (i + (2 : Int32)), .inr (.inr (some 30)), .inl (X.2 ((i + (1 : Int32))).toNatClampNeg), .inr (.inr (some 94))]) rfl rfl ?_
    obtain ⟨hg, h⟩ := h
    refine zf_one fm_0 dF0_438 (oo_sc hg) ?_
    refine zf_push fm_0 dF0_439 (v := .inr (.inr (some 30))) rfl ?_
    refine zf_push fm_0 dF0_440 (v := .inl i) rfl ?_
    refine zf_push fm_0 dF0_442 (v := .inl (3 : Int32)) rfl ?_
    refine zf_stk fm_0 dF0_443 (st' := [.inl (i + (3 : Int32)), .inr (.inr (some 30)), .inl (X.2 ((i + (2 : Int32))).toNatClampNeg), .inl (X.2 ((i + (1 : Int32))).toNatClampNeg), .inr (.inr (some 94))]) rfl rfl ?_
    obtain ⟨hg, h⟩ := h
    refine zf_one fm_0 dF0_444 (oo_sc hg) ?_
    refine zf_cv fm_0 dF0_445 v_14_117_12 hm_244 [.inl (X.2 ((i + (3 : Int32))).toNatClampNeg), .inl (X.2 ((i + (2 : Int32))).toNatClampNeg), .inl (X.2 ((i + (1 : Int32))).toNatClampNeg)] [] rfl (zT_rt hS2 s_94 rfl) ⟨by omega, by omega⟩ rfl (zw_mono h (zi_go ?_ ?_))
    · intro v4 S3 hv
      obtain ⟨hS3, h⟩ := hv
      refine zf_sto fm_0 dF0_448 [(6, .inl v4), (5, .inl v1), (0, .inr (.inr (some 30))), (1, .inr (.inr (some 64))), (2, .inr (.inr (some 94))), (3, .inr (.inr (some 125))), (4, .inl i)] rfl rfl rfl ?_
      refine zf_goto fm_0 dF0_450 (t := 929) rfl ?_
      exact zf_sub (ma_nd_of (ks := [0, 1, 2, 3, 4]) rfl (by decide)) (ma_nd_of (ks := [6, 5, 0, 1, 2, 3, 4]) rfl (by decide)) (ma_le_cons rfl (ma_le_cons rfl (ma_le_cons rfl (ma_le_cons rfl (ma_le_cons rfl (ma_le_nil _)))))) h
    · intro x S9 hx
      exact hx.elim
theorem la_6 {X : Nat × (Nat → Int32)} {C0 Z0 T : Nat} {S : ma_S} {Q : Option ma_V → ma_S → Prop} (i : Int32) (H : zLw C0 Z0 T S) (ht : T + 1 ≤ 3000) (gd : ∀ j : Int32, (j = 1 ∨ j = 2 ∨ j = 3 ∨ j = 4 ∨ j = 5) → 0 ≤ i + j ∧ (i + j).toNatClampNeg < X.1) (K : ∀ S', zLw C0 Z0 (T + 1) S' → ma_fp X 0 13 494 929 [(0, .inr (.inr (some 30))), (1, .inr (.inr (some 64))), (2, .inr (.inr (some 94))), (3, .inr (.inr (some 125))), (4, .inl i)] [] S' Q) : ma_fp X 0 13 494 401 [(0, .inr (.inr (some 30))), (1, .inr (.inr (some 64))), (2, .inr (.inr (some 94))), (3, .inr (.inr (some 125))), (4, .inl i)] [] S Q := by
  refine gl_401 i (by decide) (by decide) H.1.1.1 ?_
  refine ⟨gd 1 (by decide), gd 2 (by decide), gd 3 (by decide), ?_⟩
  refine fw_6 _ _ _ (by decide) (by decide) H.1 (fun v S2 hc hte hke h65 => zfi_n ⟨hc.1.1.1, gd 1 (by decide), gd 2 (by decide), gd 3 (by decide), ?_⟩)
  refine rf_244 _ _ _ (by decide) (by decide) hc.1.1.1 (ref_tr H.2.1 hc.2.1) ht (fun v2 m' hr ho h3 h7 h95 => zi_n ⟨hc.1.1.1, K _ (lw_step H hc hr ho (lw_te H hc hte ho h3) (lw_ke H hc hke ho h7) (lw_al H hc h65 ho (by rw [h3]; exact Int.le_refl _) h95))⟩)
theorem gl_453 {X : Nat × (Nat → Int32)} {d w : Nat} {S : ma_S} {Q : Option ma_V → ma_S → Prop} (i : Int32) (hd : 13 ≤ d) (hw : 494 ≤ w) (hS : zT S) (h : (0 ≤ (i + (1 : Int32)) ∧ ((i + (1 : Int32))).toNatClampNeg < X.1) ∧ ((0 ≤ (i + (2 : Int32)) ∧ ((i + (2 : Int32))).toNatClampNeg < X.1) ∧ ((0 ≤ (i + (3 : Int32)) ∧ ((i + (3 : Int32))).toNatClampNeg < X.1) ∧ (ma_fp X 7 (d - 1) (w - 25) 0 [(0, .inr (.inr (some 64))), (1, .inl (X.2 ((i + (1 : Int32))).toNatClampNeg)), (2, .inl (X.2 ((i + (2 : Int32))).toNatClampNeg)), (3, .inl (X.2 ((i + (3 : Int32))).toNatClampNeg)), (4, .inr (.inr (some 125)))] [] S (zfi_ (fun v1 S2 => zT S2 ∧ ((0 ≤ (i + (1 : Int32)) ∧ ((i + (1 : Int32))).toNatClampNeg < X.1) ∧ ((0 ≤ (i + (2 : Int32)) ∧ ((i + (2 : Int32))).toNatClampNeg < X.1) ∧ ((0 ≤ (i + (3 : Int32)) ∧ ((i + (3 : Int32))).toNatClampNeg < X.1) ∧ (ma_wp X (d - 1) (w - 28) 247 0 [(0, .inr (.inr (some 94))), (1, .inl (X.2 ((i + (1 : Int32))).toNatClampNeg)), (2, .inl (X.2 ((i + (2 : Int32))).toNatClampNeg)), (3, .inl (X.2 ((i + (3 : Int32))).toNatClampNeg))] [] S2 (zi (fun v4 S3 => zT S3 ∧ (ma_fp X 0 d w 929 [(0, .inr (.inr (some 30))), (1, .inr (.inr (some 64))), (2, .inr (.inr (some 94))), (3, .inr (.inr (some 125))), (4, .inl i)] [] S3 Q)) (fun _ _ => False)))))))))))) : ma_fp X 0 d w 453 [(0, .inr (.inr (some 30))), (1, .inr (.inr (some 64))), (2, .inr (.inr (some 94))), (3, .inr (.inr (some 125))), (4, .inl i)] [] S Q := by
  refine zf_push fm_0 dF0_453 (v := .inr (.inr (some 64))) rfl ?_
  refine zf_push fm_0 dF0_454 (v := .inr (.inr (some 30))) rfl ?_
  refine zf_push fm_0 dF0_455 (v := .inl i) rfl ?_
  refine zf_push fm_0 dF0_457 (v := .inl (1 : Int32)) rfl ?_
  refine zf_stk fm_0 dF0_458 (st' := [.inl (i + (1 : Int32)), .inr (.inr (some 30)), .inr (.inr (some 64))]) rfl rfl ?_
  obtain ⟨hg, h⟩ := h
  refine zf_one fm_0 dF0_459 (oo_sc hg) ?_
  refine zf_push fm_0 dF0_460 (v := .inr (.inr (some 30))) rfl ?_
  refine zf_push fm_0 dF0_461 (v := .inl i) rfl ?_
  refine zf_push fm_0 dF0_463 (v := .inl (2 : Int32)) rfl ?_
  refine zf_stk fm_0 dF0_464 (st' := [.inl (i + (2 : Int32)), .inr (.inr (some 30)), .inl (X.2 ((i + (1 : Int32))).toNatClampNeg), .inr (.inr (some 64))]) rfl rfl ?_
  obtain ⟨hg, h⟩ := h
  refine zf_one fm_0 dF0_465 (oo_sc hg) ?_
  refine zf_push fm_0 dF0_466 (v := .inr (.inr (some 30))) rfl ?_
  refine zf_push fm_0 dF0_467 (v := .inl i) rfl ?_
  refine zf_push fm_0 dF0_469 (v := .inl (3 : Int32)) rfl ?_
  refine zf_stk fm_0 dF0_470 (st' := [.inl (i + (3 : Int32)), .inr (.inr (some 30)), .inl (X.2 ((i + (2 : Int32))).toNatClampNeg), .inl (X.2 ((i + (1 : Int32))).toNatClampNeg), .inr (.inr (some 64))]) rfl rfl ?_
  obtain ⟨hg, h⟩ := h
  refine zf_one fm_0 dF0_471 (oo_sc hg) ?_
  refine zf_push fm_0 dF0_472 (v := .inr (.inr (some 125))) rfl ?_
  refine zf_cw fm_0 dF0_473 cw_118 fm_7 [.inr (.inr (some 125)), .inl (X.2 ((i + (3 : Int32))).toNatClampNeg), .inl (X.2 ((i + (2 : Int32))).toNatClampNeg), .inl (X.2 ((i + (1 : Int32))).toNatClampNeg), .inr (.inr (some 64))] [] rfl (by omega) (by omega) rfl (zf_mono h (zfi_go ?_))
  · intro v1 S2 hv
    obtain ⟨hS2, h⟩ := hv
    refine zf_sto fm_0 dF0_476 [(5, .inl v1), (0, .inr (.inr (some 30))), (1, .inr (.inr (some 64))), (2, .inr (.inr (some 94))), (3, .inr (.inr (some 125))), (4, .inl i)] rfl rfl rfl ?_
    refine zf_push fm_0 dF0_478 (v := .inr (.inr (some 94))) rfl ?_
    refine zf_push fm_0 dF0_479 (v := .inr (.inr (some 30))) rfl ?_
    refine zf_push fm_0 dF0_480 (v := .inl i) rfl ?_
    refine zf_push fm_0 dF0_482 (v := .inl (1 : Int32)) rfl ?_
    refine zf_stk fm_0 dF0_483 (st' := [.inl (i + (1 : Int32)), .inr (.inr (some 30)), .inr (.inr (some 94))]) rfl rfl ?_
    obtain ⟨hg, h⟩ := h
    refine zf_one fm_0 dF0_484 (oo_sc hg) ?_
    refine zf_push fm_0 dF0_485 (v := .inr (.inr (some 30))) rfl ?_
    refine zf_push fm_0 dF0_486 (v := .inl i) rfl ?_
    refine zf_push fm_0 dF0_488 (v := .inl (2 : Int32)) rfl ?_
    refine zf_stk fm_0 dF0_489 (st' := [.inl (i + (2 : Int32)), .inr (.inr (some 30)), .inl (X.2 ((i + (1 : Int32))).toNatClampNeg), .inr (.inr (some 94))]) rfl rfl ?_
    obtain ⟨hg, h⟩ := h
    refine zf_one fm_0 dF0_490 (oo_sc hg) ?_
    refine zf_push fm_0 dF0_491 (v := .inr (.inr (some 30))) rfl ?_
    refine zf_push fm_0 dF0_492 (v := .inl i) rfl ?_
    refine zf_push fm_0 dF0_494 (v := .inl (3 : Int32)) rfl ?_
    refine zf_stk fm_0 dF0_495 (st' := [.inl (i + (3 : Int32)), .inr (.inr (some 30)), .inl (X.2 ((i + (2 : Int32))).toNatClampNeg), .inl (X.2 ((i + (1 : Int32))).toNatClampNeg), .inr (.inr (some 94))]) rfl rfl ?_
    obtain ⟨hg, h⟩ := h
    refine zf_one fm_0 dF0_496 (oo_sc hg) ?_
    refine zf_cv fm_0 dF0_497 v_14_120_12 hm_247 [.inl (X.2 ((i + (3 : Int32))).toNatClampNeg), .inl (X.2 ((i + (2 : Int32))).toNatClampNeg), .inl (X.2 ((i + (1 : Int32))).toNatClampNeg)] [] rfl (zT_rt hS2 s_94 rfl) ⟨by omega, by omega⟩ rfl (zw_mono h (zi_go ?_ ?_))
    · intro v4 S3 hv
      obtain ⟨hS3, h⟩ := hv
      refine zf_sto fm_0 dF0_500 [(6, .inl v4), (5, .inl v1), (0, .inr (.inr (some 30))), (1, .inr (.inr (some 64))), (2, .inr (.inr (some 94))), (3, .inr (.inr (some 125))), (4, .inl i)] rfl rfl rfl ?_
      refine zf_goto fm_0 dF0_502 (t := 929) rfl ?_
      exact zf_sub (ma_nd_of (ks := [0, 1, 2, 3, 4]) rfl (by decide)) (ma_nd_of (ks := [6, 5, 0, 1, 2, 3, 4]) rfl (by decide)) (ma_le_cons rfl (ma_le_cons rfl (ma_le_cons rfl (ma_le_cons rfl (ma_le_cons rfl (ma_le_nil _)))))) h
    · intro x S9 hx
      exact hx.elim
theorem la_7 {X : Nat × (Nat → Int32)} {C0 Z0 T : Nat} {S : ma_S} {Q : Option ma_V → ma_S → Prop} (i : Int32) (H : zLw C0 Z0 T S) (ht : T + 1 ≤ 3000) (gd : ∀ j : Int32, (j = 1 ∨ j = 2 ∨ j = 3 ∨ j = 4 ∨ j = 5) → 0 ≤ i + j ∧ (i + j).toNatClampNeg < X.1) (K : ∀ S', zLw C0 Z0 (T + 1) S' → ma_fp X 0 13 494 929 [(0, .inr (.inr (some 30))), (1, .inr (.inr (some 64))), (2, .inr (.inr (some 94))), (3, .inr (.inr (some 125))), (4, .inl i)] [] S' Q) : ma_fp X 0 13 494 453 [(0, .inr (.inr (some 30))), (1, .inr (.inr (some 64))), (2, .inr (.inr (some 94))), (3, .inr (.inr (some 125))), (4, .inl i)] [] S Q := by
  refine gl_453 i (by decide) (by decide) H.1.1.1 ?_
  refine ⟨gd 1 (by decide), gd 2 (by decide), gd 3 (by decide), ?_⟩
  refine fw_7 _ _ _ (by decide) (by decide) H.1 (fun v S2 hc hte hke h65 => zfi_n ⟨hc.1.1.1, gd 1 (by decide), gd 2 (by decide), gd 3 (by decide), ?_⟩)
  refine rf_247 _ _ _ (by decide) (by decide) hc.1.1.1 (ref_tr H.2.1 hc.2.1) ht (fun v2 m' hr ho h3 h7 h95 => zi_n ⟨hc.1.1.1, K _ (lw_step H hc hr ho (lw_te H hc hte ho h3) (lw_ke H hc hke ho h7) (lw_al H hc h65 ho (by rw [h3]; exact Int.le_refl _) h95))⟩)
theorem gl_505 {X : Nat × (Nat → Int32)} {d w : Nat} {S : ma_S} {Q : Option ma_V → ma_S → Prop} (i : Int32) (hd : 13 ≤ d) (hw : 494 ≤ w) (hS : zT S) (h : (0 ≤ (i + (1 : Int32)) ∧ ((i + (1 : Int32))).toNatClampNeg < X.1) ∧ ((0 ≤ (i + (2 : Int32)) ∧ ((i + (2 : Int32))).toNatClampNeg < X.1) ∧ (ma_fp X 8 (d - 1) (w - 24) 0 [(0, .inr (.inr (some 64))), (1, .inl (X.2 ((i + (1 : Int32))).toNatClampNeg)), (2, .inl (X.2 ((i + (2 : Int32))).toNatClampNeg)), (3, .inr (.inr (some 125)))] [] S (zfi_ (fun v1 S2 => zT S2 ∧ ((0 ≤ (i + (1 : Int32)) ∧ ((i + (1 : Int32))).toNatClampNeg < X.1) ∧ ((0 ≤ (i + (2 : Int32)) ∧ ((i + (2 : Int32))).toNatClampNeg < X.1) ∧ (ma_wp X (d - 1) (w - 23) 249 0 [(0, .inr (.inr (some 94))), (1, .inl (X.2 ((i + (1 : Int32))).toNatClampNeg)), (2, .inl (X.2 ((i + (2 : Int32))).toNatClampNeg))] [] S2 (zi (fun v4 S3 => zT S3 ∧ (ma_fp X 0 d w 929 [(0, .inr (.inr (some 30))), (1, .inr (.inr (some 64))), (2, .inr (.inr (some 94))), (3, .inr (.inr (some 125))), (4, .inl i)] [] S3 Q)) (fun _ _ => False)))))))))) : ma_fp X 0 d w 505 [(0, .inr (.inr (some 30))), (1, .inr (.inr (some 64))), (2, .inr (.inr (some 94))), (3, .inr (.inr (some 125))), (4, .inl i)] [] S Q := by
  refine zf_push fm_0 dF0_505 (v := .inr (.inr (some 64))) rfl ?_
  refine zf_push fm_0 dF0_506 (v := .inr (.inr (some 30))) rfl ?_
  refine zf_push fm_0 dF0_507 (v := .inl i) rfl ?_
  refine zf_push fm_0 dF0_509 (v := .inl (1 : Int32)) rfl ?_
  refine zf_stk fm_0 dF0_510 (st' := [.inl (i + (1 : Int32)), .inr (.inr (some 30)), .inr (.inr (some 64))]) rfl rfl ?_
  obtain ⟨hg, h⟩ := h
  refine zf_one fm_0 dF0_511 (oo_sc hg) ?_
  refine zf_push fm_0 dF0_512 (v := .inr (.inr (some 30))) rfl ?_
  refine zf_push fm_0 dF0_513 (v := .inl i) rfl ?_
  refine zf_push fm_0 dF0_515 (v := .inl (2 : Int32)) rfl ?_
  refine zf_stk fm_0 dF0_516 (st' := [.inl (i + (2 : Int32)), .inr (.inr (some 30)), .inl (X.2 ((i + (1 : Int32))).toNatClampNeg), .inr (.inr (some 64))]) rfl rfl ?_
  obtain ⟨hg, h⟩ := h
  refine zf_one fm_0 dF0_517 (oo_sc hg) ?_
  refine zf_push fm_0 dF0_518 (v := .inr (.inr (some 125))) rfl ?_
  refine zf_cw fm_0 dF0_519 cw_121 fm_8 [.inr (.inr (some 125)), .inl (X.2 ((i + (2 : Int32))).toNatClampNeg), .inl (X.2 ((i + (1 : Int32))).toNatClampNeg), .inr (.inr (some 64))] [] rfl (by omega) (by omega) rfl (zf_mono h (zfi_go ?_))
  · intro v1 S2 hv
    obtain ⟨hS2, h⟩ := hv
    refine zf_sto fm_0 dF0_522 [(5, .inl v1), (0, .inr (.inr (some 30))), (1, .inr (.inr (some 64))), (2, .inr (.inr (some 94))), (3, .inr (.inr (some 125))), (4, .inl i)] rfl rfl rfl ?_
    refine zf_push fm_0 dF0_524 (v := .inr (.inr (some 94))) rfl ?_
    refine zf_push fm_0 dF0_525 (v := .inr (.inr (some 30))) rfl ?_
    refine zf_push fm_0 dF0_526 (v := .inl i) rfl ?_
    refine zf_push fm_0 dF0_528 (v := .inl (1 : Int32)) rfl ?_
    refine zf_stk fm_0 dF0_529 (st' := [.inl (i + (1 : Int32)), .inr (.inr (some 30)), .inr (.inr (some 94))]) rfl rfl ?_
    obtain ⟨hg, h⟩ := h
    refine zf_one fm_0 dF0_530 (oo_sc hg) ?_
    refine zf_push fm_0 dF0_531 (v := .inr (.inr (some 30))) rfl ?_
    refine zf_push fm_0 dF0_532 (v := .inl i) rfl ?_
    refine zf_push fm_0 dF0_534 (v := .inl (2 : Int32)) rfl ?_
    refine zf_stk fm_0 dF0_535 (st' := [.inl (i + (2 : Int32)), .inr (.inr (some 30)), .inl (X.2 ((i + (1 : Int32))).toNatClampNeg), .inr (.inr (some 94))]) rfl rfl ?_
    obtain ⟨hg, h⟩ := h
    refine zf_one fm_0 dF0_536 (oo_sc hg) ?_
    refine zf_cv fm_0 dF0_537 v_14_123_12 hm_249 [.inl (X.2 ((i + (2 : Int32))).toNatClampNeg), .inl (X.2 ((i + (1 : Int32))).toNatClampNeg)] [] rfl (zT_rt hS2 s_94 rfl) ⟨by omega, by omega⟩ rfl (zw_mono h (zi_go ?_ ?_))
    · intro v4 S3 hv
      obtain ⟨hS3, h⟩ := hv
      refine zf_sto fm_0 dF0_540 [(6, .inl v4), (5, .inl v1), (0, .inr (.inr (some 30))), (1, .inr (.inr (some 64))), (2, .inr (.inr (some 94))), (3, .inr (.inr (some 125))), (4, .inl i)] rfl rfl rfl ?_
      refine zf_goto fm_0 dF0_542 (t := 929) rfl ?_
      exact zf_sub (ma_nd_of (ks := [0, 1, 2, 3, 4]) rfl (by decide)) (ma_nd_of (ks := [6, 5, 0, 1, 2, 3, 4]) rfl (by decide)) (ma_le_cons rfl (ma_le_cons rfl (ma_le_cons rfl (ma_le_cons rfl (ma_le_cons rfl (ma_le_nil _)))))) h
    · intro x S9 hx
      exact hx.elim
theorem la_8 {X : Nat × (Nat → Int32)} {C0 Z0 T : Nat} {S : ma_S} {Q : Option ma_V → ma_S → Prop} (i : Int32) (H : zLw C0 Z0 T S) (ht : T + 1 ≤ 3000) (gd : ∀ j : Int32, (j = 1 ∨ j = 2 ∨ j = 3 ∨ j = 4 ∨ j = 5) → 0 ≤ i + j ∧ (i + j).toNatClampNeg < X.1) (K : ∀ S', zLw C0 Z0 (T + 1) S' → ma_fp X 0 13 494 929 [(0, .inr (.inr (some 30))), (1, .inr (.inr (some 64))), (2, .inr (.inr (some 94))), (3, .inr (.inr (some 125))), (4, .inl i)] [] S' Q) : ma_fp X 0 13 494 505 [(0, .inr (.inr (some 30))), (1, .inr (.inr (some 64))), (2, .inr (.inr (some 94))), (3, .inr (.inr (some 125))), (4, .inl i)] [] S Q := by
  refine gl_505 i (by decide) (by decide) H.1.1.1 ?_
  refine ⟨gd 1 (by decide), gd 2 (by decide), ?_⟩
  refine fw_8 _ _ (by decide) (by decide) H.1 (fun v S2 hc hte hke h65 => zfi_n ⟨hc.1.1.1, gd 1 (by decide), gd 2 (by decide), ?_⟩)
  refine rf_249 _ _ (by decide) (by decide) hc.1.1.1 (ref_tr H.2.1 hc.2.1) ht (fun v2 m' hr ho h3 h7 h95 => zi_n ⟨hc.1.1.1, K _ (lw_step H hc hr ho (lw_te H hc hte ho h3) (lw_ke H hc hke ho h7) (lw_al H hc h65 ho (by rw [h3]; exact Int.le_refl _) h95))⟩)
theorem gl_545 {X : Nat × (Nat → Int32)} {d w : Nat} {S : ma_S} {Q : Option ma_V → ma_S → Prop} (i : Int32) (hd : 13 ≤ d) (hw : 494 ≤ w) (hS : zT S) (h : (0 ≤ (i + (1 : Int32)) ∧ ((i + (1 : Int32))).toNatClampNeg < X.1) ∧ ((0 ≤ (i + (2 : Int32)) ∧ ((i + (2 : Int32))).toNatClampNeg < X.1) ∧ (ma_fp X 9 (d - 1) (w - 24) 0 [(0, .inr (.inr (some 64))), (1, .inl (X.2 ((i + (1 : Int32))).toNatClampNeg)), (2, .inl (X.2 ((i + (2 : Int32))).toNatClampNeg)), (3, .inr (.inr (some 125)))] [] S (zfi_ (fun v1 S2 => zT S2 ∧ ((0 ≤ (i + (1 : Int32)) ∧ ((i + (1 : Int32))).toNatClampNeg < X.1) ∧ ((0 ≤ (i + (2 : Int32)) ∧ ((i + (2 : Int32))).toNatClampNeg < X.1) ∧ (ma_wp X (d - 1) (w - 24) 250 0 [(0, .inr (.inr (some 94))), (1, .inl (X.2 ((i + (1 : Int32))).toNatClampNeg)), (2, .inl (X.2 ((i + (2 : Int32))).toNatClampNeg))] [] S2 (zi (fun v4 S3 => zT S3 ∧ (ma_fp X 0 d w 929 [(0, .inr (.inr (some 30))), (1, .inr (.inr (some 64))), (2, .inr (.inr (some 94))), (3, .inr (.inr (some 125))), (4, .inl i)] [] S3 Q)) (fun _ _ => False)))))))))) : ma_fp X 0 d w 545 [(0, .inr (.inr (some 30))), (1, .inr (.inr (some 64))), (2, .inr (.inr (some 94))), (3, .inr (.inr (some 125))), (4, .inl i)] [] S Q := by
  refine zf_push fm_0 dF0_545 (v := .inr (.inr (some 64))) rfl ?_
  refine zf_push fm_0 dF0_546 (v := .inr (.inr (some 30))) rfl ?_
  refine zf_push fm_0 dF0_547 (v := .inl i) rfl ?_
  refine zf_push fm_0 dF0_549 (v := .inl (1 : Int32)) rfl ?_
  refine zf_stk fm_0 dF0_550 (st' := [.inl (i + (1 : Int32)), .inr (.inr (some 30)), .inr (.inr (some 64))]) rfl rfl ?_
  obtain ⟨hg, h⟩ := h
  refine zf_one fm_0 dF0_551 (oo_sc hg) ?_
  refine zf_push fm_0 dF0_552 (v := .inr (.inr (some 30))) rfl ?_
  refine zf_push fm_0 dF0_553 (v := .inl i) rfl ?_
  refine zf_push fm_0 dF0_555 (v := .inl (2 : Int32)) rfl ?_
  refine zf_stk fm_0 dF0_556 (st' := [.inl (i + (2 : Int32)), .inr (.inr (some 30)), .inl (X.2 ((i + (1 : Int32))).toNatClampNeg), .inr (.inr (some 64))]) rfl rfl ?_
  obtain ⟨hg, h⟩ := h
  refine zf_one fm_0 dF0_557 (oo_sc hg) ?_
  refine zf_push fm_0 dF0_558 (v := .inr (.inr (some 125))) rfl ?_
  refine zf_cw fm_0 dF0_559 cw_124 fm_9 [.inr (.inr (some 125)), .inl (X.2 ((i + (2 : Int32))).toNatClampNeg), .inl (X.2 ((i + (1 : Int32))).toNatClampNeg), .inr (.inr (some 64))] [] rfl (by omega) (by omega) rfl (zf_mono h (zfi_go ?_))
  · intro v1 S2 hv
    obtain ⟨hS2, h⟩ := hv
    refine zf_sto fm_0 dF0_562 [(5, .inl v1), (0, .inr (.inr (some 30))), (1, .inr (.inr (some 64))), (2, .inr (.inr (some 94))), (3, .inr (.inr (some 125))), (4, .inl i)] rfl rfl rfl ?_
    refine zf_push fm_0 dF0_564 (v := .inr (.inr (some 94))) rfl ?_
    refine zf_push fm_0 dF0_565 (v := .inr (.inr (some 30))) rfl ?_
    refine zf_push fm_0 dF0_566 (v := .inl i) rfl ?_
    refine zf_push fm_0 dF0_568 (v := .inl (1 : Int32)) rfl ?_
    refine zf_stk fm_0 dF0_569 (st' := [.inl (i + (1 : Int32)), .inr (.inr (some 30)), .inr (.inr (some 94))]) rfl rfl ?_
    obtain ⟨hg, h⟩ := h
    refine zf_one fm_0 dF0_570 (oo_sc hg) ?_
    refine zf_push fm_0 dF0_571 (v := .inr (.inr (some 30))) rfl ?_
    refine zf_push fm_0 dF0_572 (v := .inl i) rfl ?_
    refine zf_push fm_0 dF0_574 (v := .inl (2 : Int32)) rfl ?_
    refine zf_stk fm_0 dF0_575 (st' := [.inl (i + (2 : Int32)), .inr (.inr (some 30)), .inl (X.2 ((i + (1 : Int32))).toNatClampNeg), .inr (.inr (some 94))]) rfl rfl ?_
    obtain ⟨hg, h⟩ := h
    refine zf_one fm_0 dF0_576 (oo_sc hg) ?_
    refine zf_cv fm_0 dF0_577 v_14_126_12 hm_250 [.inl (X.2 ((i + (2 : Int32))).toNatClampNeg), .inl (X.2 ((i + (1 : Int32))).toNatClampNeg)] [] rfl (zT_rt hS2 s_94 rfl) ⟨by omega, by omega⟩ rfl (zw_mono h (zi_go ?_ ?_))
    · intro v4 S3 hv
      obtain ⟨hS3, h⟩ := hv
      refine zf_sto fm_0 dF0_580 [(6, .inl v4), (5, .inl v1), (0, .inr (.inr (some 30))), (1, .inr (.inr (some 64))), (2, .inr (.inr (some 94))), (3, .inr (.inr (some 125))), (4, .inl i)] rfl rfl rfl ?_
      refine zf_goto fm_0 dF0_582 (t := 929) rfl ?_
      exact zf_sub (ma_nd_of (ks := [0, 1, 2, 3, 4]) rfl (by decide)) (ma_nd_of (ks := [6, 5, 0, 1, 2, 3, 4]) rfl (by decide)) (ma_le_cons rfl (ma_le_cons rfl (ma_le_cons rfl (ma_le_cons rfl (ma_le_cons rfl (ma_le_nil _)))))) h
    · intro x S9 hx
      exact hx.elim
theorem la_9 {X : Nat × (Nat → Int32)} {C0 Z0 T : Nat} {S : ma_S} {Q : Option ma_V → ma_S → Prop} (i : Int32) (H : zLw C0 Z0 T S) (ht : T + 1 ≤ 3000) (gd : ∀ j : Int32, (j = 1 ∨ j = 2 ∨ j = 3 ∨ j = 4 ∨ j = 5) → 0 ≤ i + j ∧ (i + j).toNatClampNeg < X.1) (K : ∀ S', zLw C0 Z0 (T + 1) S' → ma_fp X 0 13 494 929 [(0, .inr (.inr (some 30))), (1, .inr (.inr (some 64))), (2, .inr (.inr (some 94))), (3, .inr (.inr (some 125))), (4, .inl i)] [] S' Q) : ma_fp X 0 13 494 545 [(0, .inr (.inr (some 30))), (1, .inr (.inr (some 64))), (2, .inr (.inr (some 94))), (3, .inr (.inr (some 125))), (4, .inl i)] [] S Q := by
  refine gl_545 i (by decide) (by decide) H.1.1.1 ?_
  refine ⟨gd 1 (by decide), gd 2 (by decide), ?_⟩
  refine fw_9 _ _ (by decide) (by decide) H.1 (fun v S2 hc hte hke h65 => zfi_n ⟨hc.1.1.1, gd 1 (by decide), gd 2 (by decide), ?_⟩)
  refine rf_250 _ _ (by decide) (by decide) hc.1.1.1 (ref_tr H.2.1 hc.2.1) ht (fun v2 m' hr ho h3 h7 h95 => zi_n ⟨hc.1.1.1, K _ (lw_step H hc hr ho (lw_te H hc hte ho h3) (lw_ke H hc hke ho h7) (lw_al H hc h65 ho (by rw [h3]; exact Int.le_refl _) h95))⟩)
theorem gl_585 {X : Nat × (Nat → Int32)} {d w : Nat} {S : ma_S} {Q : Option ma_V → ma_S → Prop} (i : Int32) (hd : 13 ≤ d) (hw : 494 ≤ w) (hS : zT S) (h : (0 ≤ (i + (1 : Int32)) ∧ ((i + (1 : Int32))).toNatClampNeg < X.1) ∧ ((0 ≤ (i + (2 : Int32)) ∧ ((i + (2 : Int32))).toNatClampNeg < X.1) ∧ (ma_fp X 10 (d - 1) (w - 24) 0 [(0, .inr (.inr (some 64))), (1, .inl (X.2 ((i + (1 : Int32))).toNatClampNeg)), (2, .inl (X.2 ((i + (2 : Int32))).toNatClampNeg)), (3, .inr (.inr (some 125)))] [] S (zfi_ (fun v1 S2 => zT S2 ∧ ((0 ≤ (i + (1 : Int32)) ∧ ((i + (1 : Int32))).toNatClampNeg < X.1) ∧ ((0 ≤ (i + (2 : Int32)) ∧ ((i + (2 : Int32))).toNatClampNeg < X.1) ∧ (ma_wp X (d - 1) (w - 24) 251 0 [(0, .inr (.inr (some 94))), (1, .inl (X.2 ((i + (1 : Int32))).toNatClampNeg)), (2, .inl (X.2 ((i + (2 : Int32))).toNatClampNeg))] [] S2 (zi (fun v4 S3 => zT S3 ∧ (ma_fp X 0 d w 929 [(0, .inr (.inr (some 30))), (1, .inr (.inr (some 64))), (2, .inr (.inr (some 94))), (3, .inr (.inr (some 125))), (4, .inl i)] [] S3 Q)) (fun _ _ => False)))))))))) : ma_fp X 0 d w 585 [(0, .inr (.inr (some 30))), (1, .inr (.inr (some 64))), (2, .inr (.inr (some 94))), (3, .inr (.inr (some 125))), (4, .inl i)] [] S Q := by
  refine zf_push fm_0 dF0_585 (v := .inr (.inr (some 64))) rfl ?_
  refine zf_push fm_0 dF0_586 (v := .inr (.inr (some 30))) rfl ?_
  refine zf_push fm_0 dF0_587 (v := .inl i) rfl ?_
  refine zf_push fm_0 dF0_589 (v := .inl (1 : Int32)) rfl ?_
  refine zf_stk fm_0 dF0_590 (st' := [.inl (i + (1 : Int32)), .inr (.inr (some 30)), .inr (.inr (some 64))]) rfl rfl ?_
  obtain ⟨hg, h⟩ := h
  refine zf_one fm_0 dF0_591 (oo_sc hg) ?_
  refine zf_push fm_0 dF0_592 (v := .inr (.inr (some 30))) rfl ?_
  refine zf_push fm_0 dF0_593 (v := .inl i) rfl ?_
  refine zf_push fm_0 dF0_595 (v := .inl (2 : Int32)) rfl ?_
  refine zf_stk fm_0 dF0_596 (st' := [.inl (i + (2 : Int32)), .inr (.inr (some 30)), .inl (X.2 ((i + (1 : Int32))).toNatClampNeg), .inr (.inr (some 64))]) rfl rfl ?_
  obtain ⟨hg, h⟩ := h
  refine zf_one fm_0 dF0_597 (oo_sc hg) ?_
  refine zf_push fm_0 dF0_598 (v := .inr (.inr (some 125))) rfl ?_
  refine zf_cw fm_0 dF0_599 cw_127 fm_10 [.inr (.inr (some 125)), .inl (X.2 ((i + (2 : Int32))).toNatClampNeg), .inl (X.2 ((i + (1 : Int32))).toNatClampNeg), .inr (.inr (some 64))] [] rfl (by omega) (by omega) rfl (zf_mono h (zfi_go ?_))
  · intro v1 S2 hv
    obtain ⟨hS2, h⟩ := hv
    refine zf_sto fm_0 dF0_602 [(5, .inl v1), (0, .inr (.inr (some 30))), (1, .inr (.inr (some 64))), (2, .inr (.inr (some 94))), (3, .inr (.inr (some 125))), (4, .inl i)] rfl rfl rfl ?_
    refine zf_push fm_0 dF0_604 (v := .inr (.inr (some 94))) rfl ?_
    refine zf_push fm_0 dF0_605 (v := .inr (.inr (some 30))) rfl ?_
    refine zf_push fm_0 dF0_606 (v := .inl i) rfl ?_
    refine zf_push fm_0 dF0_608 (v := .inl (1 : Int32)) rfl ?_
    refine zf_stk fm_0 dF0_609 (st' := [.inl (i + (1 : Int32)), .inr (.inr (some 30)), .inr (.inr (some 94))]) rfl rfl ?_
    obtain ⟨hg, h⟩ := h
    refine zf_one fm_0 dF0_610 (oo_sc hg) ?_
    refine zf_push fm_0 dF0_611 (v := .inr (.inr (some 30))) rfl ?_
    refine zf_push fm_0 dF0_612 (v := .inl i) rfl ?_
    refine zf_push fm_0 dF0_614 (v := .inl (2 : Int32)) rfl ?_
    refine zf_stk fm_0 dF0_615 (st' := [.inl (i + (2 : Int32)), .inr (.inr (some 30)), .inl (X.2 ((i + (1 : Int32))).toNatClampNeg), .inr (.inr (some 94))]) rfl rfl ?_
    obtain ⟨hg, h⟩ := h
    refine zf_one fm_0 dF0_616 (oo_sc hg) ?_
    refine zf_cv fm_0 dF0_617 v_14_129_12 hm_251 [.inl (X.2 ((i + (2 : Int32))).toNatClampNeg), .inl (X.2 ((i + (1 : Int32))).toNatClampNeg)] [] rfl (zT_rt hS2 s_94 rfl) ⟨by omega, by omega⟩ rfl (zw_mono h (zi_go ?_ ?_))
    · intro v4 S3 hv
      obtain ⟨hS3, h⟩ := hv
      refine zf_sto fm_0 dF0_620 [(6, .inl v4), (5, .inl v1), (0, .inr (.inr (some 30))), (1, .inr (.inr (some 64))), (2, .inr (.inr (some 94))), (3, .inr (.inr (some 125))), (4, .inl i)] rfl rfl rfl ?_
      refine zf_goto fm_0 dF0_622 (t := 929) rfl ?_
      exact zf_sub (ma_nd_of (ks := [0, 1, 2, 3, 4]) rfl (by decide)) (ma_nd_of (ks := [6, 5, 0, 1, 2, 3, 4]) rfl (by decide)) (ma_le_cons rfl (ma_le_cons rfl (ma_le_cons rfl (ma_le_cons rfl (ma_le_cons rfl (ma_le_nil _)))))) h
    · intro x S9 hx
      exact hx.elim
theorem la_10 {X : Nat × (Nat → Int32)} {C0 Z0 T : Nat} {S : ma_S} {Q : Option ma_V → ma_S → Prop} (i : Int32) (H : zLw C0 Z0 T S) (ht : T + 1 ≤ 3000) (gd : ∀ j : Int32, (j = 1 ∨ j = 2 ∨ j = 3 ∨ j = 4 ∨ j = 5) → 0 ≤ i + j ∧ (i + j).toNatClampNeg < X.1) (K : ∀ S', zLw C0 Z0 (T + 1) S' → ma_fp X 0 13 494 929 [(0, .inr (.inr (some 30))), (1, .inr (.inr (some 64))), (2, .inr (.inr (some 94))), (3, .inr (.inr (some 125))), (4, .inl i)] [] S' Q) : ma_fp X 0 13 494 585 [(0, .inr (.inr (some 30))), (1, .inr (.inr (some 64))), (2, .inr (.inr (some 94))), (3, .inr (.inr (some 125))), (4, .inl i)] [] S Q := by
  refine gl_585 i (by decide) (by decide) H.1.1.1 ?_
  refine ⟨gd 1 (by decide), gd 2 (by decide), ?_⟩
  refine fw_10 _ _ (by decide) (by decide) H.1 (fun v S2 hc hte hke h65 => zfi_n ⟨hc.1.1.1, gd 1 (by decide), gd 2 (by decide), ?_⟩)
  refine rf_251 _ _ (by decide) (by decide) hc.1.1.1 (ref_tr H.2.1 hc.2.1) ht (fun v2 m' hr ho h3 h7 h95 => zi_n ⟨hc.1.1.1, K _ (lw_step H hc hr ho (lw_te H hc hte ho h3) (lw_ke H hc hke ho h7) (lw_al H hc h65 ho (by rw [h3]; exact Int.le_refl _) h95))⟩)
theorem gl_625 {X : Nat × (Nat → Int32)} {d w : Nat} {S : ma_S} {Q : Option ma_V → ma_S → Prop} (i : Int32) (hd : 13 ≤ d) (hw : 494 ≤ w) (hS : zT S) (h : (0 ≤ (i + (1 : Int32)) ∧ ((i + (1 : Int32))).toNatClampNeg < X.1) ∧ ((0 ≤ (i + (2 : Int32)) ∧ ((i + (2 : Int32))).toNatClampNeg < X.1) ∧ (ma_fp X 11 (d - 1) (w - 24) 0 [(0, .inr (.inr (some 64))), (1, .inl (X.2 ((i + (1 : Int32))).toNatClampNeg)), (2, .inl (X.2 ((i + (2 : Int32))).toNatClampNeg)), (3, .inr (.inr (some 125)))] [] S (zfi_ (fun v1 S2 => zT S2 ∧ ((0 ≤ (i + (1 : Int32)) ∧ ((i + (1 : Int32))).toNatClampNeg < X.1) ∧ ((0 ≤ (i + (2 : Int32)) ∧ ((i + (2 : Int32))).toNatClampNeg < X.1) ∧ (ma_wp X (d - 1) (w - 23) 252 0 [(0, .inr (.inr (some 94))), (1, .inl (X.2 ((i + (1 : Int32))).toNatClampNeg)), (2, .inl (X.2 ((i + (2 : Int32))).toNatClampNeg))] [] S2 (zi (fun v4 S3 => zT S3 ∧ (ma_fp X 0 d w 929 [(0, .inr (.inr (some 30))), (1, .inr (.inr (some 64))), (2, .inr (.inr (some 94))), (3, .inr (.inr (some 125))), (4, .inl i)] [] S3 Q)) (fun _ _ => False)))))))))) : ma_fp X 0 d w 625 [(0, .inr (.inr (some 30))), (1, .inr (.inr (some 64))), (2, .inr (.inr (some 94))), (3, .inr (.inr (some 125))), (4, .inl i)] [] S Q := by
  refine zf_push fm_0 dF0_625 (v := .inr (.inr (some 64))) rfl ?_
  refine zf_push fm_0 dF0_626 (v := .inr (.inr (some 30))) rfl ?_
  refine zf_push fm_0 dF0_627 (v := .inl i) rfl ?_
  refine zf_push fm_0 dF0_629 (v := .inl (1 : Int32)) rfl ?_
  refine zf_stk fm_0 dF0_630 (st' := [.inl (i + (1 : Int32)), .inr (.inr (some 30)), .inr (.inr (some 64))]) rfl rfl ?_
  obtain ⟨hg, h⟩ := h
  refine zf_one fm_0 dF0_631 (oo_sc hg) ?_
  refine zf_push fm_0 dF0_632 (v := .inr (.inr (some 30))) rfl ?_
  refine zf_push fm_0 dF0_633 (v := .inl i) rfl ?_
  refine zf_push fm_0 dF0_635 (v := .inl (2 : Int32)) rfl ?_
  refine zf_stk fm_0 dF0_636 (st' := [.inl (i + (2 : Int32)), .inr (.inr (some 30)), .inl (X.2 ((i + (1 : Int32))).toNatClampNeg), .inr (.inr (some 64))]) rfl rfl ?_
  obtain ⟨hg, h⟩ := h
  refine zf_one fm_0 dF0_637 (oo_sc hg) ?_
  refine zf_push fm_0 dF0_638 (v := .inr (.inr (some 125))) rfl ?_
  refine zf_cw fm_0 dF0_639 cw_130 fm_11 [.inr (.inr (some 125)), .inl (X.2 ((i + (2 : Int32))).toNatClampNeg), .inl (X.2 ((i + (1 : Int32))).toNatClampNeg), .inr (.inr (some 64))] [] rfl (by omega) (by omega) rfl (zf_mono h (zfi_go ?_))
  · intro v1 S2 hv
    obtain ⟨hS2, h⟩ := hv
    refine zf_sto fm_0 dF0_642 [(5, .inl v1), (0, .inr (.inr (some 30))), (1, .inr (.inr (some 64))), (2, .inr (.inr (some 94))), (3, .inr (.inr (some 125))), (4, .inl i)] rfl rfl rfl ?_
    refine zf_push fm_0 dF0_644 (v := .inr (.inr (some 94))) rfl ?_
    refine zf_push fm_0 dF0_645 (v := .inr (.inr (some 30))) rfl ?_
    refine zf_push fm_0 dF0_646 (v := .inl i) rfl ?_
    refine zf_push fm_0 dF0_648 (v := .inl (1 : Int32)) rfl ?_
    refine zf_stk fm_0 dF0_649 (st' := [.inl (i + (1 : Int32)), .inr (.inr (some 30)), .inr (.inr (some 94))]) rfl rfl ?_
    obtain ⟨hg, h⟩ := h
    refine zf_one fm_0 dF0_650 (oo_sc hg) ?_
    refine zf_push fm_0 dF0_651 (v := .inr (.inr (some 30))) rfl ?_
    refine zf_push fm_0 dF0_652 (v := .inl i) rfl ?_
    refine zf_push fm_0 dF0_654 (v := .inl (2 : Int32)) rfl ?_
    refine zf_stk fm_0 dF0_655 (st' := [.inl (i + (2 : Int32)), .inr (.inr (some 30)), .inl (X.2 ((i + (1 : Int32))).toNatClampNeg), .inr (.inr (some 94))]) rfl rfl ?_
    obtain ⟨hg, h⟩ := h
    refine zf_one fm_0 dF0_656 (oo_sc hg) ?_
    refine zf_cv fm_0 dF0_657 v_14_132_12 hm_252 [.inl (X.2 ((i + (2 : Int32))).toNatClampNeg), .inl (X.2 ((i + (1 : Int32))).toNatClampNeg)] [] rfl (zT_rt hS2 s_94 rfl) ⟨by omega, by omega⟩ rfl (zw_mono h (zi_go ?_ ?_))
    · intro v4 S3 hv
      obtain ⟨hS3, h⟩ := hv
      refine zf_sto fm_0 dF0_660 [(6, .inl v4), (5, .inl v1), (0, .inr (.inr (some 30))), (1, .inr (.inr (some 64))), (2, .inr (.inr (some 94))), (3, .inr (.inr (some 125))), (4, .inl i)] rfl rfl rfl ?_
      refine zf_goto fm_0 dF0_662 (t := 929) rfl ?_
      exact zf_sub (ma_nd_of (ks := [0, 1, 2, 3, 4]) rfl (by decide)) (ma_nd_of (ks := [6, 5, 0, 1, 2, 3, 4]) rfl (by decide)) (ma_le_cons rfl (ma_le_cons rfl (ma_le_cons rfl (ma_le_cons rfl (ma_le_cons rfl (ma_le_nil _)))))) h
    · intro x S9 hx
      exact hx.elim
theorem la_11 {X : Nat × (Nat → Int32)} {C0 Z0 T : Nat} {S : ma_S} {Q : Option ma_V → ma_S → Prop} (i : Int32) (H : zLw C0 Z0 T S) (ht : T + 1 ≤ 3000) (gd : ∀ j : Int32, (j = 1 ∨ j = 2 ∨ j = 3 ∨ j = 4 ∨ j = 5) → 0 ≤ i + j ∧ (i + j).toNatClampNeg < X.1) (K : ∀ S', zLw C0 Z0 (T + 1) S' → ma_fp X 0 13 494 929 [(0, .inr (.inr (some 30))), (1, .inr (.inr (some 64))), (2, .inr (.inr (some 94))), (3, .inr (.inr (some 125))), (4, .inl i)] [] S' Q) : ma_fp X 0 13 494 625 [(0, .inr (.inr (some 30))), (1, .inr (.inr (some 64))), (2, .inr (.inr (some 94))), (3, .inr (.inr (some 125))), (4, .inl i)] [] S Q := by
  refine gl_625 i (by decide) (by decide) H.1.1.1 ?_
  refine ⟨gd 1 (by decide), gd 2 (by decide), ?_⟩
  refine fw_11 _ _ (by decide) (by decide) H.1 (fun v S2 hc hte hke h65 => zfi_n ⟨hc.1.1.1, gd 1 (by decide), gd 2 (by decide), ?_⟩)
  refine rf_252 _ _ (by decide) (by decide) hc.1.1.1 (ref_tr H.2.1 hc.2.1) ht (fun v2 m' hr ho h3 h7 h95 => zi_n ⟨hc.1.1.1, K _ (lw_step H hc hr ho (lw_te H hc hte ho h3) (lw_ke H hc hke ho h7) (lw_al H hc h65 ho (by rw [h3]; exact Int.le_refl _) h95))⟩)
theorem gl_665 {X : Nat × (Nat → Int32)} {d w : Nat} {S : ma_S} {Q : Option ma_V → ma_S → Prop} (i : Int32) (hd : 13 ≤ d) (hw : 494 ≤ w) (hS : zT S) (h : (0 ≤ (i + (1 : Int32)) ∧ ((i + (1 : Int32))).toNatClampNeg < X.1) ∧ ((0 ≤ (i + (2 : Int32)) ∧ ((i + (2 : Int32))).toNatClampNeg < X.1) ∧ (if (X.2 ((i + (2 : Int32))).toNatClampNeg) = 0 then (ma_fp X 12 (d - 1) (w - 24) 0 [(0, .inr (.inr (some 64))), (1, .inl (X.2 ((i + (1 : Int32))).toNatClampNeg)), (2, .inl (0 : Int32)), (3, .inr (.inr (some 125)))] [] S (zfi_ (fun v1 S2 => zT S2 ∧ ((0 ≤ (i + (1 : Int32)) ∧ ((i + (1 : Int32))).toNatClampNeg < X.1) ∧ ((0 ≤ (i + (2 : Int32)) ∧ ((i + (2 : Int32))).toNatClampNeg < X.1) ∧ (if (X.2 ((i + (2 : Int32))).toNatClampNeg) = 0 then (ma_wp X (d - 1) (w - 24) 253 0 [(0, .inr (.inr (some 94))), (1, .inl (X.2 ((i + (1 : Int32))).toNatClampNeg)), (2, .inl (0 : Int32))] [] S2 (zi (fun v4 S3 => zT S3 ∧ (ma_fp X 0 d w 929 [(0, .inr (.inr (some 30))), (1, .inr (.inr (some 64))), (2, .inr (.inr (some 94))), (3, .inr (.inr (some 125))), (4, .inl i)] [] S3 Q)) (fun _ _ => False))) else (ma_wp X (d - 1) (w - 24) 253 0 [(0, .inr (.inr (some 94))), (1, .inl (X.2 ((i + (1 : Int32))).toNatClampNeg)), (2, .inl (1 : Int32))] [] S2 (zi (fun v6 S5 => zT S5 ∧ (ma_fp X 0 d w 929 [(0, .inr (.inr (some 30))), (1, .inr (.inr (some 64))), (2, .inr (.inr (some 94))), (3, .inr (.inr (some 125))), (4, .inl i)] [] S5 Q)) (fun _ _ => False))))))))) else (ma_fp X 12 (d - 1) (w - 24) 0 [(0, .inr (.inr (some 64))), (1, .inl (X.2 ((i + (1 : Int32))).toNatClampNeg)), (2, .inl (1 : Int32)), (3, .inr (.inr (some 125)))] [] S (zfi_ (fun v7 S8 => zT S8 ∧ ((0 ≤ (i + (1 : Int32)) ∧ ((i + (1 : Int32))).toNatClampNeg < X.1) ∧ ((0 ≤ (i + (2 : Int32)) ∧ ((i + (2 : Int32))).toNatClampNeg < X.1) ∧ (if (X.2 ((i + (2 : Int32))).toNatClampNeg) = 0 then (ma_wp X (d - 1) (w - 24) 253 0 [(0, .inr (.inr (some 94))), (1, .inl (X.2 ((i + (1 : Int32))).toNatClampNeg)), (2, .inl (0 : Int32))] [] S8 (zi (fun v10 S9 => zT S9 ∧ (ma_fp X 0 d w 929 [(0, .inr (.inr (some 30))), (1, .inr (.inr (some 64))), (2, .inr (.inr (some 94))), (3, .inr (.inr (some 125))), (4, .inl i)] [] S9 Q)) (fun _ _ => False))) else (ma_wp X (d - 1) (w - 24) 253 0 [(0, .inr (.inr (some 94))), (1, .inl (X.2 ((i + (1 : Int32))).toNatClampNeg)), (2, .inl (1 : Int32))] [] S8 (zi (fun v12 S11 => zT S11 ∧ (ma_fp X 0 d w 929 [(0, .inr (.inr (some 30))), (1, .inr (.inr (some 64))), (2, .inr (.inr (some 94))), (3, .inr (.inr (some 125))), (4, .inl i)] [] S11 Q)) (fun _ _ => False)))))))))))) : ma_fp X 0 d w 665 [(0, .inr (.inr (some 30))), (1, .inr (.inr (some 64))), (2, .inr (.inr (some 94))), (3, .inr (.inr (some 125))), (4, .inl i)] [] S Q := by
  refine zf_push fm_0 dF0_665 (v := .inr (.inr (some 64))) rfl ?_
  refine zf_push fm_0 dF0_666 (v := .inr (.inr (some 30))) rfl ?_
  refine zf_push fm_0 dF0_667 (v := .inl i) rfl ?_
  refine zf_push fm_0 dF0_669 (v := .inl (1 : Int32)) rfl ?_
  refine zf_stk fm_0 dF0_670 (st' := [.inl (i + (1 : Int32)), .inr (.inr (some 30)), .inr (.inr (some 64))]) rfl rfl ?_
  obtain ⟨hg, h⟩ := h
  refine zf_one fm_0 dF0_671 (oo_sc hg) ?_
  refine zf_push fm_0 dF0_672 (v := .inr (.inr (some 30))) rfl ?_
  refine zf_push fm_0 dF0_673 (v := .inl i) rfl ?_
  refine zf_push fm_0 dF0_675 (v := .inl (2 : Int32)) rfl ?_
  refine zf_stk fm_0 dF0_676 (st' := [.inl (i + (2 : Int32)), .inr (.inr (some 30)), .inl (X.2 ((i + (1 : Int32))).toNatClampNeg), .inr (.inr (some 64))]) rfl rfl ?_
  obtain ⟨hg, h⟩ := h
  refine zf_one fm_0 dF0_677 (oo_sc hg) ?_
  refine zf_if0 fm_0 dF0_678 (t := 685) rfl zc0_eq ?_ ?_
  · intro hc
    rw [if_pos hc] at h
    refine zf_push fm_0 dF0_685 (v := .inl (0 : Int32)) rfl ?_
    refine zf_push fm_0 dF0_686 (v := .inr (.inr (some 125))) rfl ?_
    refine zf_cw fm_0 dF0_687 cw_133 fm_12 [.inr (.inr (some 125)), .inl (0 : Int32), .inl (X.2 ((i + (1 : Int32))).toNatClampNeg), .inr (.inr (some 64))] [] rfl (by omega) (by omega) rfl (zf_mono h (zfi_go ?_))
    · intro v1 S2 hv
      obtain ⟨hS2, h⟩ := hv
      refine zf_sto fm_0 dF0_690 [(5, .inl v1), (0, .inr (.inr (some 30))), (1, .inr (.inr (some 64))), (2, .inr (.inr (some 94))), (3, .inr (.inr (some 125))), (4, .inl i)] rfl rfl rfl ?_
      refine zf_push fm_0 dF0_692 (v := .inr (.inr (some 94))) rfl ?_
      refine zf_push fm_0 dF0_693 (v := .inr (.inr (some 30))) rfl ?_
      refine zf_push fm_0 dF0_694 (v := .inl i) rfl ?_
      refine zf_push fm_0 dF0_696 (v := .inl (1 : Int32)) rfl ?_
      refine zf_stk fm_0 dF0_697 (st' := [.inl (i + (1 : Int32)), .inr (.inr (some 30)), .inr (.inr (some 94))]) rfl rfl ?_
      obtain ⟨hg, h⟩ := h
      refine zf_one fm_0 dF0_698 (oo_sc hg) ?_
      refine zf_push fm_0 dF0_699 (v := .inr (.inr (some 30))) rfl ?_
      refine zf_push fm_0 dF0_700 (v := .inl i) rfl ?_
      refine zf_push fm_0 dF0_702 (v := .inl (2 : Int32)) rfl ?_
      refine zf_stk fm_0 dF0_703 (st' := [.inl (i + (2 : Int32)), .inr (.inr (some 30)), .inl (X.2 ((i + (1 : Int32))).toNatClampNeg), .inr (.inr (some 94))]) rfl rfl ?_
      obtain ⟨hg, h⟩ := h
      refine zf_one fm_0 dF0_704 (oo_sc hg) ?_
      refine zf_if0 fm_0 dF0_705 (t := 712) rfl zc0_eq ?_ ?_
      · intro hc
        rw [if_pos hc] at h
        refine zf_push fm_0 dF0_712 (v := .inl (0 : Int32)) rfl ?_
        refine zf_cv fm_0 dF0_713 v_14_136_12 hm_253 [.inl (0 : Int32), .inl (X.2 ((i + (1 : Int32))).toNatClampNeg)] [] rfl (zT_rt hS2 s_94 rfl) ⟨by omega, by omega⟩ rfl (zw_mono h (zi_go ?_ ?_))
        · intro v4 S3 hv
          obtain ⟨hS3, h⟩ := hv
          refine zf_sto fm_0 dF0_716 [(6, .inl v4), (5, .inl v1), (0, .inr (.inr (some 30))), (1, .inr (.inr (some 64))), (2, .inr (.inr (some 94))), (3, .inr (.inr (some 125))), (4, .inl i)] rfl rfl rfl ?_
          refine zf_goto fm_0 dF0_718 (t := 929) rfl ?_
          exact zf_sub (ma_nd_of (ks := [0, 1, 2, 3, 4]) rfl (by decide)) (ma_nd_of (ks := [6, 5, 0, 1, 2, 3, 4]) rfl (by decide)) (ma_le_cons rfl (ma_le_cons rfl (ma_le_cons rfl (ma_le_cons rfl (ma_le_cons rfl (ma_le_nil _)))))) h
        · intro x S9 hx
          exact hx.elim
      · intro hc
        rw [if_neg hc] at h
        refine zf_push fm_0 dF0_708 (v := .inl (1 : Int32)) rfl ?_
        refine zf_goto fm_0 dF0_709 (t := 713) rfl ?_
        refine zf_cv fm_0 dF0_713 v_14_136_12 hm_253 [.inl (1 : Int32), .inl (X.2 ((i + (1 : Int32))).toNatClampNeg)] [] rfl (zT_rt hS2 s_94 rfl) ⟨by omega, by omega⟩ rfl (zw_mono h (zi_go ?_ ?_))
        · intro v6 S5 hv
          obtain ⟨hS5, h⟩ := hv
          refine zf_sto fm_0 dF0_716 [(6, .inl v6), (5, .inl v1), (0, .inr (.inr (some 30))), (1, .inr (.inr (some 64))), (2, .inr (.inr (some 94))), (3, .inr (.inr (some 125))), (4, .inl i)] rfl rfl rfl ?_
          refine zf_goto fm_0 dF0_718 (t := 929) rfl ?_
          exact zf_sub (ma_nd_of (ks := [0, 1, 2, 3, 4]) rfl (by decide)) (ma_nd_of (ks := [6, 5, 0, 1, 2, 3, 4]) rfl (by decide)) (ma_le_cons rfl (ma_le_cons rfl (ma_le_cons rfl (ma_le_cons rfl (ma_le_cons rfl (ma_le_nil _)))))) h
        · intro x S9 hx
          exact hx.elim
  · intro hc
    rw [if_neg hc] at h
    refine zf_push fm_0 dF0_681 (v := .inl (1 : Int32)) rfl ?_
    refine zf_goto fm_0 dF0_682 (t := 686) rfl ?_
    refine zf_push fm_0 dF0_686 (v := .inr (.inr (some 125))) rfl ?_
    refine zf_cw fm_0 dF0_687 cw_133 fm_12 [.inr (.inr (some 125)), .inl (1 : Int32), .inl (X.2 ((i + (1 : Int32))).toNatClampNeg), .inr (.inr (some 64))] [] rfl (by omega) (by omega) rfl (zf_mono h (zfi_go ?_))
    · intro v7 S8 hv
      obtain ⟨hS8, h⟩ := hv
      refine zf_sto fm_0 dF0_690 [(5, .inl v7), (0, .inr (.inr (some 30))), (1, .inr (.inr (some 64))), (2, .inr (.inr (some 94))), (3, .inr (.inr (some 125))), (4, .inl i)] rfl rfl rfl ?_
      refine zf_push fm_0 dF0_692 (v := .inr (.inr (some 94))) rfl ?_
      refine zf_push fm_0 dF0_693 (v := .inr (.inr (some 30))) rfl ?_
      refine zf_push fm_0 dF0_694 (v := .inl i) rfl ?_
      refine zf_push fm_0 dF0_696 (v := .inl (1 : Int32)) rfl ?_
      refine zf_stk fm_0 dF0_697 (st' := [.inl (i + (1 : Int32)), .inr (.inr (some 30)), .inr (.inr (some 94))]) rfl rfl ?_
      obtain ⟨hg, h⟩ := h
      refine zf_one fm_0 dF0_698 (oo_sc hg) ?_
      refine zf_push fm_0 dF0_699 (v := .inr (.inr (some 30))) rfl ?_
      refine zf_push fm_0 dF0_700 (v := .inl i) rfl ?_
      refine zf_push fm_0 dF0_702 (v := .inl (2 : Int32)) rfl ?_
      refine zf_stk fm_0 dF0_703 (st' := [.inl (i + (2 : Int32)), .inr (.inr (some 30)), .inl (X.2 ((i + (1 : Int32))).toNatClampNeg), .inr (.inr (some 94))]) rfl rfl ?_
      obtain ⟨hg, h⟩ := h
      refine zf_one fm_0 dF0_704 (oo_sc hg) ?_
      refine zf_if0 fm_0 dF0_705 (t := 712) rfl zc0_eq ?_ ?_
      · intro hc
        rw [if_pos hc] at h
        refine zf_push fm_0 dF0_712 (v := .inl (0 : Int32)) rfl ?_
        refine zf_cv fm_0 dF0_713 v_14_136_12 hm_253 [.inl (0 : Int32), .inl (X.2 ((i + (1 : Int32))).toNatClampNeg)] [] rfl (zT_rt hS8 s_94 rfl) ⟨by omega, by omega⟩ rfl (zw_mono h (zi_go ?_ ?_))
        · intro v10 S9 hv
          obtain ⟨hS9, h⟩ := hv
          refine zf_sto fm_0 dF0_716 [(6, .inl v10), (5, .inl v7), (0, .inr (.inr (some 30))), (1, .inr (.inr (some 64))), (2, .inr (.inr (some 94))), (3, .inr (.inr (some 125))), (4, .inl i)] rfl rfl rfl ?_
          refine zf_goto fm_0 dF0_718 (t := 929) rfl ?_
          exact zf_sub (ma_nd_of (ks := [0, 1, 2, 3, 4]) rfl (by decide)) (ma_nd_of (ks := [6, 5, 0, 1, 2, 3, 4]) rfl (by decide)) (ma_le_cons rfl (ma_le_cons rfl (ma_le_cons rfl (ma_le_cons rfl (ma_le_cons rfl (ma_le_nil _)))))) h
        · intro x S9 hx
          exact hx.elim
      · intro hc
        rw [if_neg hc] at h
        refine zf_push fm_0 dF0_708 (v := .inl (1 : Int32)) rfl ?_
        refine zf_goto fm_0 dF0_709 (t := 713) rfl ?_
        refine zf_cv fm_0 dF0_713 v_14_136_12 hm_253 [.inl (1 : Int32), .inl (X.2 ((i + (1 : Int32))).toNatClampNeg)] [] rfl (zT_rt hS8 s_94 rfl) ⟨by omega, by omega⟩ rfl (zw_mono h (zi_go ?_ ?_))
        · intro v12 S11 hv
          obtain ⟨hS11, h⟩ := hv
          refine zf_sto fm_0 dF0_716 [(6, .inl v12), (5, .inl v7), (0, .inr (.inr (some 30))), (1, .inr (.inr (some 64))), (2, .inr (.inr (some 94))), (3, .inr (.inr (some 125))), (4, .inl i)] rfl rfl rfl ?_
          refine zf_goto fm_0 dF0_718 (t := 929) rfl ?_
          exact zf_sub (ma_nd_of (ks := [0, 1, 2, 3, 4]) rfl (by decide)) (ma_nd_of (ks := [6, 5, 0, 1, 2, 3, 4]) rfl (by decide)) (ma_le_cons rfl (ma_le_cons rfl (ma_le_cons rfl (ma_le_cons rfl (ma_le_cons rfl (ma_le_nil _)))))) h
        · intro x S9 hx
          exact hx.elim
theorem la_12 {X : Nat × (Nat → Int32)} {C0 Z0 T : Nat} {S : ma_S} {Q : Option ma_V → ma_S → Prop} (i : Int32) (H : zLw C0 Z0 T S) (ht : T + 1 ≤ 3000) (gd : ∀ j : Int32, (j = 1 ∨ j = 2 ∨ j = 3 ∨ j = 4 ∨ j = 5) → 0 ≤ i + j ∧ (i + j).toNatClampNeg < X.1) (K : ∀ S', zLw C0 Z0 (T + 1) S' → ma_fp X 0 13 494 929 [(0, .inr (.inr (some 30))), (1, .inr (.inr (some 64))), (2, .inr (.inr (some 94))), (3, .inr (.inr (some 125))), (4, .inl i)] [] S' Q) : ma_fp X 0 13 494 665 [(0, .inr (.inr (some 30))), (1, .inr (.inr (some 64))), (2, .inr (.inr (some 94))), (3, .inr (.inr (some 125))), (4, .inl i)] [] S Q := by
  refine gl_665 i (by decide) (by decide) H.1.1.1 ?_
  refine ⟨gd 1 (by decide), gd 2 (by decide), zd (fun hb => ?_) (fun hb => ?_)⟩
  · refine fw_12 _ _ (by decide) (by decide) H.1 (Or.inl rfl) (fun v S2 hc hte hke h65 => zfi_n ⟨hc.1.1.1, gd 1 (by decide), gd 2 (by decide), zt hb ?_⟩)
    refine rf_253 _ _ (by decide) (by decide) hc.1.1.1 (ref_tr H.2.1 hc.2.1) ht (fun v2 m' hr ho h3 h7 h95 => zi_n ⟨hc.1.1.1, K _ (lw_step H hc hr ho (lw_te H hc hte ho h3) (lw_ke H hc hke ho h7) (lw_al H hc h65 ho (by rw [h3]; exact Int.le_refl _) h95))⟩)
  · refine fw_12 _ _ (by decide) (by decide) H.1 (Or.inr rfl) (fun v S2 hc hte hke h65 => zfi_n ⟨hc.1.1.1, gd 1 (by decide), gd 2 (by decide), zf hb ?_⟩)
    refine rf_253 _ _ (by decide) (by decide) hc.1.1.1 (ref_tr H.2.1 hc.2.1) ht (fun v2 m' hr ho h3 h7 h95 => zi_n ⟨hc.1.1.1, K _ (lw_step H hc hr ho (lw_te H hc hte ho h3) (lw_ke H hc hke ho h7) (lw_al H hc h65 ho (by rw [h3]; exact Int.le_refl _) h95))⟩)
theorem gl_721 {X : Nat × (Nat → Int32)} {d w : Nat} {S : ma_S} {Q : Option ma_V → ma_S → Prop} (i : Int32) (hd : 13 ≤ d) (hw : 494 ≤ w) (hS : zT S) (h : (0 ≤ (i + (1 : Int32)) ∧ ((i + (1 : Int32))).toNatClampNeg < X.1) ∧ (ma_fp X 13 (d - 1) (w - 23) 0 [(0, .inr (.inr (some 64))), (1, .inl (X.2 ((i + (1 : Int32))).toNatClampNeg)), (2, .inr (.inr (some 125)))] [] S (zfi_ (fun v1 S2 => zT S2 ∧ ((0 ≤ (i + (1 : Int32)) ∧ ((i + (1 : Int32))).toNatClampNeg < X.1) ∧ (ma_wp X (d - 1) (w - 23) 254 0 [(0, .inr (.inr (some 94))), (1, .inl (X.2 ((i + (1 : Int32))).toNatClampNeg))] [] S2 (zi (fun v4 S3 => zT S3 ∧ (ma_fp X 0 d w 929 [(0, .inr (.inr (some 30))), (1, .inr (.inr (some 64))), (2, .inr (.inr (some 94))), (3, .inr (.inr (some 125))), (4, .inl i)] [] S3 Q)) (fun _ _ => False)))))))) : ma_fp X 0 d w 721 [(0, .inr (.inr (some 30))), (1, .inr (.inr (some 64))), (2, .inr (.inr (some 94))), (3, .inr (.inr (some 125))), (4, .inl i)] [] S Q := by
  refine zf_push fm_0 dF0_721 (v := .inr (.inr (some 64))) rfl ?_
  refine zf_push fm_0 dF0_722 (v := .inr (.inr (some 30))) rfl ?_
  refine zf_push fm_0 dF0_723 (v := .inl i) rfl ?_
  refine zf_push fm_0 dF0_725 (v := .inl (1 : Int32)) rfl ?_
  refine zf_stk fm_0 dF0_726 (st' := [.inl (i + (1 : Int32)), .inr (.inr (some 30)), .inr (.inr (some 64))]) rfl rfl ?_
  obtain ⟨hg, h⟩ := h
  refine zf_one fm_0 dF0_727 (oo_sc hg) ?_
  refine zf_push fm_0 dF0_728 (v := .inr (.inr (some 125))) rfl ?_
  refine zf_cw fm_0 dF0_729 cw_137 fm_13 [.inr (.inr (some 125)), .inl (X.2 ((i + (1 : Int32))).toNatClampNeg), .inr (.inr (some 64))] [] rfl (by omega) (by omega) rfl (zf_mono h (zfi_go ?_))
  · intro v1 S2 hv
    obtain ⟨hS2, h⟩ := hv
    refine zf_sto fm_0 dF0_732 [(5, .inl v1), (0, .inr (.inr (some 30))), (1, .inr (.inr (some 64))), (2, .inr (.inr (some 94))), (3, .inr (.inr (some 125))), (4, .inl i)] rfl rfl rfl ?_
    refine zf_push fm_0 dF0_734 (v := .inr (.inr (some 94))) rfl ?_
    refine zf_push fm_0 dF0_735 (v := .inr (.inr (some 30))) rfl ?_
    refine zf_push fm_0 dF0_736 (v := .inl i) rfl ?_
    refine zf_push fm_0 dF0_738 (v := .inl (1 : Int32)) rfl ?_
    refine zf_stk fm_0 dF0_739 (st' := [.inl (i + (1 : Int32)), .inr (.inr (some 30)), .inr (.inr (some 94))]) rfl rfl ?_
    obtain ⟨hg, h⟩ := h
    refine zf_one fm_0 dF0_740 (oo_sc hg) ?_
    refine zf_cv fm_0 dF0_741 v_14_139_12 hm_254 [.inl (X.2 ((i + (1 : Int32))).toNatClampNeg)] [] rfl (zT_rt hS2 s_94 rfl) ⟨by omega, by omega⟩ rfl (zw_mono h (zi_go ?_ ?_))
    · intro v4 S3 hv
      obtain ⟨hS3, h⟩ := hv
      refine zf_sto fm_0 dF0_744 [(6, .inl v4), (5, .inl v1), (0, .inr (.inr (some 30))), (1, .inr (.inr (some 64))), (2, .inr (.inr (some 94))), (3, .inr (.inr (some 125))), (4, .inl i)] rfl rfl rfl ?_
      refine zf_goto fm_0 dF0_746 (t := 929) rfl ?_
      exact zf_sub (ma_nd_of (ks := [0, 1, 2, 3, 4]) rfl (by decide)) (ma_nd_of (ks := [6, 5, 0, 1, 2, 3, 4]) rfl (by decide)) (ma_le_cons rfl (ma_le_cons rfl (ma_le_cons rfl (ma_le_cons rfl (ma_le_cons rfl (ma_le_nil _)))))) h
    · intro x S9 hx
      exact hx.elim
theorem la_13 {X : Nat × (Nat → Int32)} {C0 Z0 T : Nat} {S : ma_S} {Q : Option ma_V → ma_S → Prop} (i : Int32) (H : zLw C0 Z0 T S) (ht : T + 1 ≤ 3000) (gd : ∀ j : Int32, (j = 1 ∨ j = 2 ∨ j = 3 ∨ j = 4 ∨ j = 5) → 0 ≤ i + j ∧ (i + j).toNatClampNeg < X.1) (K : ∀ S', zLw C0 Z0 (T + 1) S' → ma_fp X 0 13 494 929 [(0, .inr (.inr (some 30))), (1, .inr (.inr (some 64))), (2, .inr (.inr (some 94))), (3, .inr (.inr (some 125))), (4, .inl i)] [] S' Q) : ma_fp X 0 13 494 721 [(0, .inr (.inr (some 30))), (1, .inr (.inr (some 64))), (2, .inr (.inr (some 94))), (3, .inr (.inr (some 125))), (4, .inl i)] [] S Q := by
  refine gl_721 i (by decide) (by decide) H.1.1.1 ?_
  refine ⟨gd 1 (by decide), ?_⟩
  refine fw_13 _ (by decide) (by decide) H.1 (fun v S2 hc hte hke h65 => zfi_n ⟨hc.1.1.1, gd 1 (by decide), ?_⟩)
  refine rf_254 _ (by decide) (by decide) hc.1.1.1 (ref_tr H.2.1 hc.2.1) ht (fun v2 m' hr ho h3 h7 h95 => zi_n ⟨hc.1.1.1, K _ (lw_step H hc hr ho (lw_te H hc hte ho h3) (lw_ke H hc hke ho h7) (lw_al H hc h65 ho (by rw [h3]; exact Int.le_refl _) h95))⟩)
theorem gl_749 {X : Nat × (Nat → Int32)} {d w : Nat} {S : ma_S} {Q : Option ma_V → ma_S → Prop} (i : Int32) (hd : 13 ≤ d) (hw : 494 ≤ w) (hS : zT S) (h : (0 ≤ (i + (1 : Int32)) ∧ ((i + (1 : Int32))).toNatClampNeg < X.1) ∧ (ma_fp X 14 (d - 1) (w - 23) 0 [(0, .inr (.inr (some 64))), (1, .inl (X.2 ((i + (1 : Int32))).toNatClampNeg)), (2, .inr (.inr (some 125)))] [] S (zfi_ (fun v1 S2 => zT S2 ∧ ((0 ≤ (i + (1 : Int32)) ∧ ((i + (1 : Int32))).toNatClampNeg < X.1) ∧ (ma_wp X (d - 1) (w - 23) 255 0 [(0, .inr (.inr (some 94))), (1, .inl (X.2 ((i + (1 : Int32))).toNatClampNeg))] [] S2 (zi (fun v4 S3 => zT S3 ∧ (ma_fp X 0 d w 929 [(0, .inr (.inr (some 30))), (1, .inr (.inr (some 64))), (2, .inr (.inr (some 94))), (3, .inr (.inr (some 125))), (4, .inl i)] [] S3 Q)) (fun _ _ => False)))))))) : ma_fp X 0 d w 749 [(0, .inr (.inr (some 30))), (1, .inr (.inr (some 64))), (2, .inr (.inr (some 94))), (3, .inr (.inr (some 125))), (4, .inl i)] [] S Q := by
  refine zf_push fm_0 dF0_749 (v := .inr (.inr (some 64))) rfl ?_
  refine zf_push fm_0 dF0_750 (v := .inr (.inr (some 30))) rfl ?_
  refine zf_push fm_0 dF0_751 (v := .inl i) rfl ?_
  refine zf_push fm_0 dF0_753 (v := .inl (1 : Int32)) rfl ?_
  refine zf_stk fm_0 dF0_754 (st' := [.inl (i + (1 : Int32)), .inr (.inr (some 30)), .inr (.inr (some 64))]) rfl rfl ?_
  obtain ⟨hg, h⟩ := h
  refine zf_one fm_0 dF0_755 (oo_sc hg) ?_
  refine zf_push fm_0 dF0_756 (v := .inr (.inr (some 125))) rfl ?_
  refine zf_cw fm_0 dF0_757 cw_140 fm_14 [.inr (.inr (some 125)), .inl (X.2 ((i + (1 : Int32))).toNatClampNeg), .inr (.inr (some 64))] [] rfl (by omega) (by omega) rfl (zf_mono h (zfi_go ?_))
  · intro v1 S2 hv
    obtain ⟨hS2, h⟩ := hv
    refine zf_sto fm_0 dF0_760 [(5, .inl v1), (0, .inr (.inr (some 30))), (1, .inr (.inr (some 64))), (2, .inr (.inr (some 94))), (3, .inr (.inr (some 125))), (4, .inl i)] rfl rfl rfl ?_
    refine zf_push fm_0 dF0_762 (v := .inr (.inr (some 94))) rfl ?_
    refine zf_push fm_0 dF0_763 (v := .inr (.inr (some 30))) rfl ?_
    refine zf_push fm_0 dF0_764 (v := .inl i) rfl ?_
    refine zf_push fm_0 dF0_766 (v := .inl (1 : Int32)) rfl ?_
    refine zf_stk fm_0 dF0_767 (st' := [.inl (i + (1 : Int32)), .inr (.inr (some 30)), .inr (.inr (some 94))]) rfl rfl ?_
    obtain ⟨hg, h⟩ := h
    refine zf_one fm_0 dF0_768 (oo_sc hg) ?_
    refine zf_cv fm_0 dF0_769 v_14_142_12 hm_255 [.inl (X.2 ((i + (1 : Int32))).toNatClampNeg)] [] rfl (zT_rt hS2 s_94 rfl) ⟨by omega, by omega⟩ rfl (zw_mono h (zi_go ?_ ?_))
    · intro v4 S3 hv
      obtain ⟨hS3, h⟩ := hv
      refine zf_sto fm_0 dF0_772 [(6, .inl v4), (5, .inl v1), (0, .inr (.inr (some 30))), (1, .inr (.inr (some 64))), (2, .inr (.inr (some 94))), (3, .inr (.inr (some 125))), (4, .inl i)] rfl rfl rfl ?_
      refine zf_goto fm_0 dF0_774 (t := 929) rfl ?_
      exact zf_sub (ma_nd_of (ks := [0, 1, 2, 3, 4]) rfl (by decide)) (ma_nd_of (ks := [6, 5, 0, 1, 2, 3, 4]) rfl (by decide)) (ma_le_cons rfl (ma_le_cons rfl (ma_le_cons rfl (ma_le_cons rfl (ma_le_cons rfl (ma_le_nil _)))))) h
    · intro x S9 hx
      exact hx.elim
theorem la_14 {X : Nat × (Nat → Int32)} {C0 Z0 T : Nat} {S : ma_S} {Q : Option ma_V → ma_S → Prop} (i : Int32) (H : zLw C0 Z0 T S) (ht : T + 1 ≤ 3000) (gd : ∀ j : Int32, (j = 1 ∨ j = 2 ∨ j = 3 ∨ j = 4 ∨ j = 5) → 0 ≤ i + j ∧ (i + j).toNatClampNeg < X.1) (K : ∀ S', zLw C0 Z0 (T + 1) S' → ma_fp X 0 13 494 929 [(0, .inr (.inr (some 30))), (1, .inr (.inr (some 64))), (2, .inr (.inr (some 94))), (3, .inr (.inr (some 125))), (4, .inl i)] [] S' Q) : ma_fp X 0 13 494 749 [(0, .inr (.inr (some 30))), (1, .inr (.inr (some 64))), (2, .inr (.inr (some 94))), (3, .inr (.inr (some 125))), (4, .inl i)] [] S Q := by
  refine gl_749 i (by decide) (by decide) H.1.1.1 ?_
  refine ⟨gd 1 (by decide), ?_⟩
  refine fw_14 _ (by decide) (by decide) H.1 (fun v S2 hc hte hke h65 => zfi_n ⟨hc.1.1.1, gd 1 (by decide), ?_⟩)
  refine rf_255 _ (by decide) (by decide) hc.1.1.1 (ref_tr H.2.1 hc.2.1) ht (fun v2 m' hr ho h3 h7 h95 => zi_n ⟨hc.1.1.1, K _ (lw_step H hc hr ho (lw_te H hc hte ho h3) (lw_ke H hc hke ho h7) (lw_al H hc h65 ho (by rw [h3]; exact Int.le_refl _) h95))⟩)
theorem gl_777 {X : Nat × (Nat → Int32)} {d w : Nat} {S : ma_S} {Q : Option ma_V → ma_S → Prop} (i : Int32) (hd : 13 ≤ d) (hw : 494 ≤ w) (hS : zT S) (h : ma_fp X 15 (d - 1) (w - 22) 0 [(0, .inr (.inr (some 64))), (1, .inr (.inr (some 125)))] [] S (zfi_ (fun v1 S2 => zT S2 ∧ (ma_wp X (d - 1) (w - 21) 256 0 [(0, .inr (.inr (some 94)))] [] S2 (zi (fun v4 S3 => zT S3 ∧ (ma_fp X 0 d w 929 [(0, .inr (.inr (some 30))), (1, .inr (.inr (some 64))), (2, .inr (.inr (some 94))), (3, .inr (.inr (some 125))), (4, .inl i)] [] S3 Q)) (fun _ _ => False)))))) : ma_fp X 0 d w 777 [(0, .inr (.inr (some 30))), (1, .inr (.inr (some 64))), (2, .inr (.inr (some 94))), (3, .inr (.inr (some 125))), (4, .inl i)] [] S Q := by
  refine zf_push fm_0 dF0_777 (v := .inr (.inr (some 64))) rfl ?_
  refine zf_push fm_0 dF0_778 (v := .inr (.inr (some 125))) rfl ?_
  refine zf_cw fm_0 dF0_779 cw_143 fm_15 [.inr (.inr (some 125)), .inr (.inr (some 64))] [] rfl (by omega) (by omega) rfl (zf_mono h (zfi_go ?_))
  · intro v1 S2 hv
    obtain ⟨hS2, h⟩ := hv
    refine zf_sto fm_0 dF0_782 [(5, .inl v1), (0, .inr (.inr (some 30))), (1, .inr (.inr (some 64))), (2, .inr (.inr (some 94))), (3, .inr (.inr (some 125))), (4, .inl i)] rfl rfl rfl ?_
    refine zf_push fm_0 dF0_784 (v := .inr (.inr (some 94))) rfl ?_
    refine zf_cv fm_0 dF0_785 v_14_146_12 hm_256 [] [] rfl (zT_rt hS2 s_94 rfl) ⟨by omega, by omega⟩ rfl (zw_mono h (zi_go ?_ ?_))
    · intro v4 S3 hv
      obtain ⟨hS3, h⟩ := hv
      refine zf_sto fm_0 dF0_788 [(6, .inl v4), (5, .inl v1), (0, .inr (.inr (some 30))), (1, .inr (.inr (some 64))), (2, .inr (.inr (some 94))), (3, .inr (.inr (some 125))), (4, .inl i)] rfl rfl rfl ?_
      refine zf_goto fm_0 dF0_790 (t := 929) rfl ?_
      exact zf_sub (ma_nd_of (ks := [0, 1, 2, 3, 4]) rfl (by decide)) (ma_nd_of (ks := [6, 5, 0, 1, 2, 3, 4]) rfl (by decide)) (ma_le_cons rfl (ma_le_cons rfl (ma_le_cons rfl (ma_le_cons rfl (ma_le_cons rfl (ma_le_nil _)))))) h
    · intro x S9 hx
      exact hx.elim
theorem la_15 {X : Nat × (Nat → Int32)} {C0 Z0 T : Nat} {S : ma_S} {Q : Option ma_V → ma_S → Prop} (i : Int32) (H : zLw C0 Z0 T S) (ht : T + 1 ≤ 3000) (gd : ∀ j : Int32, (j = 1 ∨ j = 2 ∨ j = 3 ∨ j = 4 ∨ j = 5) → 0 ≤ i + j ∧ (i + j).toNatClampNeg < X.1) (K : ∀ S', zLw C0 Z0 (T + 1) S' → ma_fp X 0 13 494 929 [(0, .inr (.inr (some 30))), (1, .inr (.inr (some 64))), (2, .inr (.inr (some 94))), (3, .inr (.inr (some 125))), (4, .inl i)] [] S' Q) : ma_fp X 0 13 494 777 [(0, .inr (.inr (some 30))), (1, .inr (.inr (some 64))), (2, .inr (.inr (some 94))), (3, .inr (.inr (some 125))), (4, .inl i)] [] S Q := by
  refine gl_777 i (by decide) (by decide) H.1.1.1 ?_
  refine fw_15  (by decide) (by decide) H.1 (fun v S2 hc hte hke h65 => zfi_n ⟨hc.1.1.1, ?_⟩)
  refine rf_256  (by decide) (by decide) hc.1.1.1 (ref_tr H.2.1 hc.2.1) ht (fun v2 m' hr ho h3 h7 h95 => zi_n ⟨hc.1.1.1, K _ (lw_step H hc hr ho (lw_te H hc hte ho h3) (lw_ke H hc hke ho h7) (lw_al H hc h65 ho (by rw [h3]; exact Int.le_refl _) h95))⟩)
theorem gl_793 {X : Nat × (Nat → Int32)} {d w : Nat} {S : ma_S} {Q : Option ma_V → ma_S → Prop} (i : Int32) (hd : 13 ≤ d) (hw : 494 ≤ w) (hS : zT S) (h : (0 ≤ (i + (1 : Int32)) ∧ ((i + (1 : Int32))).toNatClampNeg < X.1) ∧ (ma_fp X 16 (d - 1) (w - 23) 0 [(0, .inr (.inr (some 64))), (1, .inl (X.2 ((i + (1 : Int32))).toNatClampNeg)), (2, .inr (.inr (some 125)))] [] S (zfi_ (fun v1 S2 => zT S2 ∧ ((0 ≤ (i + (1 : Int32)) ∧ ((i + (1 : Int32))).toNatClampNeg < X.1) ∧ (ma_wp X (d - 1) (w - 23) 257 0 [(0, .inr (.inr (some 94))), (1, .inl (X.2 ((i + (1 : Int32))).toNatClampNeg))] [] S2 (zi (fun v4 S3 => zT S3 ∧ (ma_fp X 0 d w 929 [(0, .inr (.inr (some 30))), (1, .inr (.inr (some 64))), (2, .inr (.inr (some 94))), (3, .inr (.inr (some 125))), (4, .inl i)] [] S3 Q)) (fun _ _ => False)))))))) : ma_fp X 0 d w 793 [(0, .inr (.inr (some 30))), (1, .inr (.inr (some 64))), (2, .inr (.inr (some 94))), (3, .inr (.inr (some 125))), (4, .inl i)] [] S Q := by
  refine zf_push fm_0 dF0_793 (v := .inr (.inr (some 64))) rfl ?_
  refine zf_push fm_0 dF0_794 (v := .inr (.inr (some 30))) rfl ?_
  refine zf_push fm_0 dF0_795 (v := .inl i) rfl ?_
  refine zf_push fm_0 dF0_797 (v := .inl (1 : Int32)) rfl ?_
  refine zf_stk fm_0 dF0_798 (st' := [.inl (i + (1 : Int32)), .inr (.inr (some 30)), .inr (.inr (some 64))]) rfl rfl ?_
  obtain ⟨hg, h⟩ := h
  refine zf_one fm_0 dF0_799 (oo_sc hg) ?_
  refine zf_push fm_0 dF0_800 (v := .inr (.inr (some 125))) rfl ?_
  refine zf_cw fm_0 dF0_801 cw_147 fm_16 [.inr (.inr (some 125)), .inl (X.2 ((i + (1 : Int32))).toNatClampNeg), .inr (.inr (some 64))] [] rfl (by omega) (by omega) rfl (zf_mono h (zfi_go ?_))
  · intro v1 S2 hv
    obtain ⟨hS2, h⟩ := hv
    refine zf_sto fm_0 dF0_804 [(5, .inl v1), (0, .inr (.inr (some 30))), (1, .inr (.inr (some 64))), (2, .inr (.inr (some 94))), (3, .inr (.inr (some 125))), (4, .inl i)] rfl rfl rfl ?_
    refine zf_push fm_0 dF0_806 (v := .inr (.inr (some 94))) rfl ?_
    refine zf_push fm_0 dF0_807 (v := .inr (.inr (some 30))) rfl ?_
    refine zf_push fm_0 dF0_808 (v := .inl i) rfl ?_
    refine zf_push fm_0 dF0_810 (v := .inl (1 : Int32)) rfl ?_
    refine zf_stk fm_0 dF0_811 (st' := [.inl (i + (1 : Int32)), .inr (.inr (some 30)), .inr (.inr (some 94))]) rfl rfl ?_
    obtain ⟨hg, h⟩ := h
    refine zf_one fm_0 dF0_812 (oo_sc hg) ?_
    refine zf_cv fm_0 dF0_813 v_14_149_12 hm_257 [.inl (X.2 ((i + (1 : Int32))).toNatClampNeg)] [] rfl (zT_rt hS2 s_94 rfl) ⟨by omega, by omega⟩ rfl (zw_mono h (zi_go ?_ ?_))
    · intro v4 S3 hv
      obtain ⟨hS3, h⟩ := hv
      refine zf_sto fm_0 dF0_816 [(6, .inl v4), (5, .inl v1), (0, .inr (.inr (some 30))), (1, .inr (.inr (some 64))), (2, .inr (.inr (some 94))), (3, .inr (.inr (some 125))), (4, .inl i)] rfl rfl rfl ?_
      refine zf_goto fm_0 dF0_818 (t := 929) rfl ?_
      exact zf_sub (ma_nd_of (ks := [0, 1, 2, 3, 4]) rfl (by decide)) (ma_nd_of (ks := [6, 5, 0, 1, 2, 3, 4]) rfl (by decide)) (ma_le_cons rfl (ma_le_cons rfl (ma_le_cons rfl (ma_le_cons rfl (ma_le_cons rfl (ma_le_nil _)))))) h
    · intro x S9 hx
      exact hx.elim
theorem la_16 {X : Nat × (Nat → Int32)} {C0 Z0 T : Nat} {S : ma_S} {Q : Option ma_V → ma_S → Prop} (i : Int32) (H : zLw C0 Z0 T S) (ht : T + 1 ≤ 3000) (gd : ∀ j : Int32, (j = 1 ∨ j = 2 ∨ j = 3 ∨ j = 4 ∨ j = 5) → 0 ≤ i + j ∧ (i + j).toNatClampNeg < X.1) (K : ∀ S', zLw C0 Z0 (T + 1) S' → ma_fp X 0 13 494 929 [(0, .inr (.inr (some 30))), (1, .inr (.inr (some 64))), (2, .inr (.inr (some 94))), (3, .inr (.inr (some 125))), (4, .inl i)] [] S' Q) : ma_fp X 0 13 494 793 [(0, .inr (.inr (some 30))), (1, .inr (.inr (some 64))), (2, .inr (.inr (some 94))), (3, .inr (.inr (some 125))), (4, .inl i)] [] S Q := by
  refine gl_793 i (by decide) (by decide) H.1.1.1 ?_
  refine ⟨gd 1 (by decide), ?_⟩
  refine fw_16 _ (by decide) (by decide) H.1 (fun v S2 hc hte hke h65 => zfi_n ⟨hc.1.1.1, gd 1 (by decide), ?_⟩)
  refine rf_257 _ (by decide) (by decide) hc.1.1.1 (ref_tr H.2.1 hc.2.1) ht (fun v2 m' hr ho h3 h7 h95 => zi_n ⟨hc.1.1.1, K _ (lw_step H hc hr ho (lw_te H hc hte ho h3) (lw_ke H hc hke ho h7) (lw_al H hc h65 ho (by rw [h3]; exact Int.le_refl _) h95))⟩)
theorem gl_821 {X : Nat × (Nat → Int32)} {d w : Nat} {S : ma_S} {Q : Option ma_V → ma_S → Prop} (i : Int32) (hd : 13 ≤ d) (hw : 494 ≤ w) (hS : zT S) (h : (0 ≤ (i + (1 : Int32)) ∧ ((i + (1 : Int32))).toNatClampNeg < X.1) ∧ ((0 ≤ (i + (2 : Int32)) ∧ ((i + (2 : Int32))).toNatClampNeg < X.1) ∧ (ma_fp X 17 (d - 1) (w - 24) 0 [(0, .inr (.inr (some 64))), (1, .inl (X.2 ((i + (1 : Int32))).toNatClampNeg)), (2, .inl (X.2 ((i + (2 : Int32))).toNatClampNeg)), (3, .inr (.inr (some 125)))] [] S (zfi_ (fun v1 S2 => zT S2 ∧ ((0 ≤ (i + (1 : Int32)) ∧ ((i + (1 : Int32))).toNatClampNeg < X.1) ∧ ((0 ≤ (i + (2 : Int32)) ∧ ((i + (2 : Int32))).toNatClampNeg < X.1) ∧ (ma_wp X (d - 1) (w - 23) 258 0 [(0, .inr (.inr (some 94))), (1, .inl (X.2 ((i + (1 : Int32))).toNatClampNeg)), (2, .inl (X.2 ((i + (2 : Int32))).toNatClampNeg))] [] S2 (zi (fun v4 S3 => zT S3 ∧ (ma_fp X 0 d w 929 [(0, .inr (.inr (some 30))), (1, .inr (.inr (some 64))), (2, .inr (.inr (some 94))), (3, .inr (.inr (some 125))), (4, .inl i)] [] S3 Q)) (fun _ _ => False)))))))))) : ma_fp X 0 d w 821 [(0, .inr (.inr (some 30))), (1, .inr (.inr (some 64))), (2, .inr (.inr (some 94))), (3, .inr (.inr (some 125))), (4, .inl i)] [] S Q := by
  refine zf_push fm_0 dF0_821 (v := .inr (.inr (some 64))) rfl ?_
  refine zf_push fm_0 dF0_822 (v := .inr (.inr (some 30))) rfl ?_
  refine zf_push fm_0 dF0_823 (v := .inl i) rfl ?_
  refine zf_push fm_0 dF0_825 (v := .inl (1 : Int32)) rfl ?_
  refine zf_stk fm_0 dF0_826 (st' := [.inl (i + (1 : Int32)), .inr (.inr (some 30)), .inr (.inr (some 64))]) rfl rfl ?_
  obtain ⟨hg, h⟩ := h
  refine zf_one fm_0 dF0_827 (oo_sc hg) ?_
  refine zf_push fm_0 dF0_828 (v := .inr (.inr (some 30))) rfl ?_
  refine zf_push fm_0 dF0_829 (v := .inl i) rfl ?_
  refine zf_push fm_0 dF0_831 (v := .inl (2 : Int32)) rfl ?_
  refine zf_stk fm_0 dF0_832 (st' := [.inl (i + (2 : Int32)), .inr (.inr (some 30)), .inl (X.2 ((i + (1 : Int32))).toNatClampNeg), .inr (.inr (some 64))]) rfl rfl ?_
  obtain ⟨hg, h⟩ := h
  refine zf_one fm_0 dF0_833 (oo_sc hg) ?_
  refine zf_push fm_0 dF0_834 (v := .inr (.inr (some 125))) rfl ?_
  refine zf_cw fm_0 dF0_835 cw_150 fm_17 [.inr (.inr (some 125)), .inl (X.2 ((i + (2 : Int32))).toNatClampNeg), .inl (X.2 ((i + (1 : Int32))).toNatClampNeg), .inr (.inr (some 64))] [] rfl (by omega) (by omega) rfl (zf_mono h (zfi_go ?_))
  · intro v1 S2 hv
    obtain ⟨hS2, h⟩ := hv
    refine zf_sto fm_0 dF0_838 [(5, .inl v1), (0, .inr (.inr (some 30))), (1, .inr (.inr (some 64))), (2, .inr (.inr (some 94))), (3, .inr (.inr (some 125))), (4, .inl i)] rfl rfl rfl ?_
    refine zf_push fm_0 dF0_840 (v := .inr (.inr (some 94))) rfl ?_
    refine zf_push fm_0 dF0_841 (v := .inr (.inr (some 30))) rfl ?_
    refine zf_push fm_0 dF0_842 (v := .inl i) rfl ?_
    refine zf_push fm_0 dF0_844 (v := .inl (1 : Int32)) rfl ?_
    refine zf_stk fm_0 dF0_845 (st' := [.inl (i + (1 : Int32)), .inr (.inr (some 30)), .inr (.inr (some 94))]) rfl rfl ?_
    obtain ⟨hg, h⟩ := h
    refine zf_one fm_0 dF0_846 (oo_sc hg) ?_
    refine zf_push fm_0 dF0_847 (v := .inr (.inr (some 30))) rfl ?_
    refine zf_push fm_0 dF0_848 (v := .inl i) rfl ?_
    refine zf_push fm_0 dF0_850 (v := .inl (2 : Int32)) rfl ?_
    refine zf_stk fm_0 dF0_851 (st' := [.inl (i + (2 : Int32)), .inr (.inr (some 30)), .inl (X.2 ((i + (1 : Int32))).toNatClampNeg), .inr (.inr (some 94))]) rfl rfl ?_
    obtain ⟨hg, h⟩ := h
    refine zf_one fm_0 dF0_852 (oo_sc hg) ?_
    refine zf_cv fm_0 dF0_853 v_14_152_12 hm_258 [.inl (X.2 ((i + (2 : Int32))).toNatClampNeg), .inl (X.2 ((i + (1 : Int32))).toNatClampNeg)] [] rfl (zT_rt hS2 s_94 rfl) ⟨by omega, by omega⟩ rfl (zw_mono h (zi_go ?_ ?_))
    · intro v4 S3 hv
      obtain ⟨hS3, h⟩ := hv
      refine zf_sto fm_0 dF0_856 [(6, .inl v4), (5, .inl v1), (0, .inr (.inr (some 30))), (1, .inr (.inr (some 64))), (2, .inr (.inr (some 94))), (3, .inr (.inr (some 125))), (4, .inl i)] rfl rfl rfl ?_
      refine zf_goto fm_0 dF0_858 (t := 929) rfl ?_
      exact zf_sub (ma_nd_of (ks := [0, 1, 2, 3, 4]) rfl (by decide)) (ma_nd_of (ks := [6, 5, 0, 1, 2, 3, 4]) rfl (by decide)) (ma_le_cons rfl (ma_le_cons rfl (ma_le_cons rfl (ma_le_cons rfl (ma_le_cons rfl (ma_le_nil _)))))) h
    · intro x S9 hx
      exact hx.elim
theorem la_17 {X : Nat × (Nat → Int32)} {C0 Z0 T : Nat} {S : ma_S} {Q : Option ma_V → ma_S → Prop} (i : Int32) (H : zLw C0 Z0 T S) (ht : T + 1 ≤ 3000) (gd : ∀ j : Int32, (j = 1 ∨ j = 2 ∨ j = 3 ∨ j = 4 ∨ j = 5) → 0 ≤ i + j ∧ (i + j).toNatClampNeg < X.1) (K : ∀ S', zLw C0 Z0 (T + 1) S' → ma_fp X 0 13 494 929 [(0, .inr (.inr (some 30))), (1, .inr (.inr (some 64))), (2, .inr (.inr (some 94))), (3, .inr (.inr (some 125))), (4, .inl i)] [] S' Q) : ma_fp X 0 13 494 821 [(0, .inr (.inr (some 30))), (1, .inr (.inr (some 64))), (2, .inr (.inr (some 94))), (3, .inr (.inr (some 125))), (4, .inl i)] [] S Q := by
  refine gl_821 i (by decide) (by decide) H.1.1.1 ?_
  refine ⟨gd 1 (by decide), gd 2 (by decide), ?_⟩
  refine fw_17 _ _ (by decide) (by decide) H.1 (fun v S2 hc hte hke h65 => zfi_n ⟨hc.1.1.1, gd 1 (by decide), gd 2 (by decide), ?_⟩)
  refine rf_258 _ _ (by decide) (by decide) hc.1.1.1 (ref_tr H.2.1 hc.2.1) ht (fun v2 m' hr ho h3 h7 h95 => zi_n ⟨hc.1.1.1, K _ (lw_step H hc hr ho (lw_te H hc hte ho h3) (lw_ke H hc hke ho h7) (lw_al H hc h65 ho (by rw [h3]; exact Int.le_refl _) h95))⟩)
theorem gl_861 {X : Nat × (Nat → Int32)} {d w : Nat} {S : ma_S} {Q : Option ma_V → ma_S → Prop} (i : Int32) (hd : 13 ≤ d) (hw : 494 ≤ w) (hS : zT S) (h : (0 ≤ (i + (1 : Int32)) ∧ ((i + (1 : Int32))).toNatClampNeg < X.1) ∧ ((0 ≤ (i + (2 : Int32)) ∧ ((i + (2 : Int32))).toNatClampNeg < X.1) ∧ (ma_fp X 18 (d - 1) (w - 24) 0 [(0, .inr (.inr (some 64))), (1, .inl (X.2 ((i + (1 : Int32))).toNatClampNeg)), (2, .inl (X.2 ((i + (2 : Int32))).toNatClampNeg)), (3, .inr (.inr (some 125)))] [] S (zfi_ (fun v1 S2 => zT S2 ∧ ((0 ≤ (i + (1 : Int32)) ∧ ((i + (1 : Int32))).toNatClampNeg < X.1) ∧ ((0 ≤ (i + (2 : Int32)) ∧ ((i + (2 : Int32))).toNatClampNeg < X.1) ∧ (ma_wp X (d - 1) (w - 25) 259 0 [(0, .inr (.inr (some 94))), (1, .inl (X.2 ((i + (1 : Int32))).toNatClampNeg)), (2, .inl (X.2 ((i + (2 : Int32))).toNatClampNeg))] [] S2 (zi (fun v4 S3 => zT S3 ∧ (ma_fp X 0 d w 929 [(0, .inr (.inr (some 30))), (1, .inr (.inr (some 64))), (2, .inr (.inr (some 94))), (3, .inr (.inr (some 125))), (4, .inl i)] [] S3 Q)) (fun _ _ => False)))))))))) : ma_fp X 0 d w 861 [(0, .inr (.inr (some 30))), (1, .inr (.inr (some 64))), (2, .inr (.inr (some 94))), (3, .inr (.inr (some 125))), (4, .inl i)] [] S Q := by
  refine zf_push fm_0 dF0_861 (v := .inr (.inr (some 64))) rfl ?_
  refine zf_push fm_0 dF0_862 (v := .inr (.inr (some 30))) rfl ?_
  refine zf_push fm_0 dF0_863 (v := .inl i) rfl ?_
  refine zf_push fm_0 dF0_865 (v := .inl (1 : Int32)) rfl ?_
  refine zf_stk fm_0 dF0_866 (st' := [.inl (i + (1 : Int32)), .inr (.inr (some 30)), .inr (.inr (some 64))]) rfl rfl ?_
  obtain ⟨hg, h⟩ := h
  refine zf_one fm_0 dF0_867 (oo_sc hg) ?_
  refine zf_push fm_0 dF0_868 (v := .inr (.inr (some 30))) rfl ?_
  refine zf_push fm_0 dF0_869 (v := .inl i) rfl ?_
  refine zf_push fm_0 dF0_871 (v := .inl (2 : Int32)) rfl ?_
  refine zf_stk fm_0 dF0_872 (st' := [.inl (i + (2 : Int32)), .inr (.inr (some 30)), .inl (X.2 ((i + (1 : Int32))).toNatClampNeg), .inr (.inr (some 64))]) rfl rfl ?_
  obtain ⟨hg, h⟩ := h
  refine zf_one fm_0 dF0_873 (oo_sc hg) ?_
  refine zf_push fm_0 dF0_874 (v := .inr (.inr (some 125))) rfl ?_
  refine zf_cw fm_0 dF0_875 cw_153 fm_18 [.inr (.inr (some 125)), .inl (X.2 ((i + (2 : Int32))).toNatClampNeg), .inl (X.2 ((i + (1 : Int32))).toNatClampNeg), .inr (.inr (some 64))] [] rfl (by omega) (by omega) rfl (zf_mono h (zfi_go ?_))
  · intro v1 S2 hv
    obtain ⟨hS2, h⟩ := hv
    refine zf_sto fm_0 dF0_878 [(5, .inl v1), (0, .inr (.inr (some 30))), (1, .inr (.inr (some 64))), (2, .inr (.inr (some 94))), (3, .inr (.inr (some 125))), (4, .inl i)] rfl rfl rfl ?_
    refine zf_push fm_0 dF0_880 (v := .inr (.inr (some 94))) rfl ?_
    refine zf_push fm_0 dF0_881 (v := .inr (.inr (some 30))) rfl ?_
    refine zf_push fm_0 dF0_882 (v := .inl i) rfl ?_
    refine zf_push fm_0 dF0_884 (v := .inl (1 : Int32)) rfl ?_
    refine zf_stk fm_0 dF0_885 (st' := [.inl (i + (1 : Int32)), .inr (.inr (some 30)), .inr (.inr (some 94))]) rfl rfl ?_
    obtain ⟨hg, h⟩ := h
    refine zf_one fm_0 dF0_886 (oo_sc hg) ?_
    refine zf_push fm_0 dF0_887 (v := .inr (.inr (some 30))) rfl ?_
    refine zf_push fm_0 dF0_888 (v := .inl i) rfl ?_
    refine zf_push fm_0 dF0_890 (v := .inl (2 : Int32)) rfl ?_
    refine zf_stk fm_0 dF0_891 (st' := [.inl (i + (2 : Int32)), .inr (.inr (some 30)), .inl (X.2 ((i + (1 : Int32))).toNatClampNeg), .inr (.inr (some 94))]) rfl rfl ?_
    obtain ⟨hg, h⟩ := h
    refine zf_one fm_0 dF0_892 (oo_sc hg) ?_
    refine zf_cv fm_0 dF0_893 v_14_155_12 hm_259 [.inl (X.2 ((i + (2 : Int32))).toNatClampNeg), .inl (X.2 ((i + (1 : Int32))).toNatClampNeg)] [] rfl (zT_rt hS2 s_94 rfl) ⟨by omega, by omega⟩ rfl (zw_mono h (zi_go ?_ ?_))
    · intro v4 S3 hv
      obtain ⟨hS3, h⟩ := hv
      refine zf_sto fm_0 dF0_896 [(6, .inl v4), (5, .inl v1), (0, .inr (.inr (some 30))), (1, .inr (.inr (some 64))), (2, .inr (.inr (some 94))), (3, .inr (.inr (some 125))), (4, .inl i)] rfl rfl rfl ?_
      refine zf_goto fm_0 dF0_898 (t := 929) rfl ?_
      exact zf_sub (ma_nd_of (ks := [0, 1, 2, 3, 4]) rfl (by decide)) (ma_nd_of (ks := [6, 5, 0, 1, 2, 3, 4]) rfl (by decide)) (ma_le_cons rfl (ma_le_cons rfl (ma_le_cons rfl (ma_le_cons rfl (ma_le_cons rfl (ma_le_nil _)))))) h
    · intro x S9 hx
      exact hx.elim
theorem la_18 {X : Nat × (Nat → Int32)} {C0 Z0 T : Nat} {S : ma_S} {Q : Option ma_V → ma_S → Prop} (i : Int32) (H : zLw C0 Z0 T S) (ht : T + 1 ≤ 3000) (gd : ∀ j : Int32, (j = 1 ∨ j = 2 ∨ j = 3 ∨ j = 4 ∨ j = 5) → 0 ≤ i + j ∧ (i + j).toNatClampNeg < X.1) (K : ∀ S', zLw C0 Z0 (T + 1) S' → ma_fp X 0 13 494 929 [(0, .inr (.inr (some 30))), (1, .inr (.inr (some 64))), (2, .inr (.inr (some 94))), (3, .inr (.inr (some 125))), (4, .inl i)] [] S' Q) : ma_fp X 0 13 494 861 [(0, .inr (.inr (some 30))), (1, .inr (.inr (some 64))), (2, .inr (.inr (some 94))), (3, .inr (.inr (some 125))), (4, .inl i)] [] S Q := by
  refine gl_861 i (by decide) (by decide) H.1.1.1 ?_
  refine ⟨gd 1 (by decide), gd 2 (by decide), ?_⟩
  refine fw_18 _ _ (by decide) (by decide) H.1 (fun v S2 hc hte hke h65 => zfi_n ⟨hc.1.1.1, gd 1 (by decide), gd 2 (by decide), ?_⟩)
  refine rf_259 _ _ (by decide) (by decide) hc.1.1.1 (ref_tr H.2.1 hc.2.1) ht (fun v2 m' hr ho h3 h7 h95 => zi_n ⟨hc.1.1.1, K _ (lw_step H hc hr ho (lw_te H hc hte ho h3) (lw_ke H hc hke ho h7) (lw_al H hc h65 ho (by rw [h3]; exact Int.le_refl _) h95))⟩)
theorem gl_901 {X : Nat × (Nat → Int32)} {d w : Nat} {S : ma_S} {Q : Option ma_V → ma_S → Prop} (i : Int32) (hd : 13 ≤ d) (hw : 494 ≤ w) (hS : zT S) (h : (0 ≤ (i + (1 : Int32)) ∧ ((i + (1 : Int32))).toNatClampNeg < X.1) ∧ (ma_fp X 19 (d - 1) (w - 23) 0 [(0, .inr (.inr (some 64))), (1, .inl (X.2 ((i + (1 : Int32))).toNatClampNeg)), (2, .inr (.inr (some 125)))] [] S (zfi_ (fun v1 S2 => zT S2 ∧ ((0 ≤ (i + (1 : Int32)) ∧ ((i + (1 : Int32))).toNatClampNeg < X.1) ∧ (ma_wp X (d - 1) (w - 21) 260 0 [(0, .inr (.inr (some 94))), (1, .inl (X.2 ((i + (1 : Int32))).toNatClampNeg))] [] S2 (zi (fun v4 S3 => zT S3 ∧ (ma_fp X 0 d w 929 [(0, .inr (.inr (some 30))), (1, .inr (.inr (some 64))), (2, .inr (.inr (some 94))), (3, .inr (.inr (some 125))), (4, .inl i)] [] S3 Q)) (fun _ _ => False)))))))) : ma_fp X 0 d w 901 [(0, .inr (.inr (some 30))), (1, .inr (.inr (some 64))), (2, .inr (.inr (some 94))), (3, .inr (.inr (some 125))), (4, .inl i)] [] S Q := by
  refine zf_push fm_0 dF0_901 (v := .inr (.inr (some 64))) rfl ?_
  refine zf_push fm_0 dF0_902 (v := .inr (.inr (some 30))) rfl ?_
  refine zf_push fm_0 dF0_903 (v := .inl i) rfl ?_
  refine zf_push fm_0 dF0_905 (v := .inl (1 : Int32)) rfl ?_
  refine zf_stk fm_0 dF0_906 (st' := [.inl (i + (1 : Int32)), .inr (.inr (some 30)), .inr (.inr (some 64))]) rfl rfl ?_
  obtain ⟨hg, h⟩ := h
  refine zf_one fm_0 dF0_907 (oo_sc hg) ?_
  refine zf_push fm_0 dF0_908 (v := .inr (.inr (some 125))) rfl ?_
  refine zf_cw fm_0 dF0_909 cw_156 fm_19 [.inr (.inr (some 125)), .inl (X.2 ((i + (1 : Int32))).toNatClampNeg), .inr (.inr (some 64))] [] rfl (by omega) (by omega) rfl (zf_mono h (zfi_go ?_))
  · intro v1 S2 hv
    obtain ⟨hS2, h⟩ := hv
    refine zf_sto fm_0 dF0_912 [(5, .inl v1), (0, .inr (.inr (some 30))), (1, .inr (.inr (some 64))), (2, .inr (.inr (some 94))), (3, .inr (.inr (some 125))), (4, .inl i)] rfl rfl rfl ?_
    refine zf_push fm_0 dF0_914 (v := .inr (.inr (some 94))) rfl ?_
    refine zf_push fm_0 dF0_915 (v := .inr (.inr (some 30))) rfl ?_
    refine zf_push fm_0 dF0_916 (v := .inl i) rfl ?_
    refine zf_push fm_0 dF0_918 (v := .inl (1 : Int32)) rfl ?_
    refine zf_stk fm_0 dF0_919 (st' := [.inl (i + (1 : Int32)), .inr (.inr (some 30)), .inr (.inr (some 94))]) rfl rfl ?_
    obtain ⟨hg, h⟩ := h
    refine zf_one fm_0 dF0_920 (oo_sc hg) ?_
    refine zf_cv fm_0 dF0_921 v_14_158_12 hm_260 [.inl (X.2 ((i + (1 : Int32))).toNatClampNeg)] [] rfl (zT_rt hS2 s_94 rfl) ⟨by omega, by omega⟩ rfl (zw_mono h (zi_go ?_ ?_))
    · intro v4 S3 hv
      obtain ⟨hS3, h⟩ := hv
      refine zf_sto fm_0 dF0_924 [(6, .inl v4), (5, .inl v1), (0, .inr (.inr (some 30))), (1, .inr (.inr (some 64))), (2, .inr (.inr (some 94))), (3, .inr (.inr (some 125))), (4, .inl i)] rfl rfl rfl ?_
      refine zf_goto fm_0 dF0_926 (t := 929) rfl ?_
      exact zf_sub (ma_nd_of (ks := [0, 1, 2, 3, 4]) rfl (by decide)) (ma_nd_of (ks := [6, 5, 0, 1, 2, 3, 4]) rfl (by decide)) (ma_le_cons rfl (ma_le_cons rfl (ma_le_cons rfl (ma_le_cons rfl (ma_le_cons rfl (ma_le_nil _)))))) h
    · intro x S9 hx
      exact hx.elim
theorem la_19 {X : Nat × (Nat → Int32)} {C0 Z0 T : Nat} {S : ma_S} {Q : Option ma_V → ma_S → Prop} (i : Int32) (H : zLw C0 Z0 T S) (ht : T + 1 ≤ 3000) (gd : ∀ j : Int32, (j = 1 ∨ j = 2 ∨ j = 3 ∨ j = 4 ∨ j = 5) → 0 ≤ i + j ∧ (i + j).toNatClampNeg < X.1) (K : ∀ S', zLw C0 Z0 (T + 1) S' → ma_fp X 0 13 494 929 [(0, .inr (.inr (some 30))), (1, .inr (.inr (some 64))), (2, .inr (.inr (some 94))), (3, .inr (.inr (some 125))), (4, .inl i)] [] S' Q) : ma_fp X 0 13 494 901 [(0, .inr (.inr (some 30))), (1, .inr (.inr (some 64))), (2, .inr (.inr (some 94))), (3, .inr (.inr (some 125))), (4, .inl i)] [] S Q := by
  refine gl_901 i (by decide) (by decide) H.1.1.1 ?_
  refine ⟨gd 1 (by decide), ?_⟩
  refine fw_19 _ (by decide) (by decide) H.1 (fun v S2 hc hte hke h65 => zfi_n ⟨hc.1.1.1, gd 1 (by decide), ?_⟩)
  refine rf_260 _ (by decide) (by decide) hc.1.1.1 (ref_tr H.2.1 hc.2.1) ht (fun v2 m' hr ho h3 h7 h95 => zi_n ⟨hc.1.1.1, K _ (lw_step H hc hr ho (lw_te H hc hte ho h3) (lw_ke H hc hke ho h7) (lw_al H hc h65 ho (by rw [h3]; exact Int.le_refl _) h95))⟩)
theorem la_any {X : Nat × (Nat → Int32)} {C0 Z0 T : Nat} {S : ma_S} {Q : Option ma_V → ma_S → Prop} (i : Int32) (H : zLw C0 Z0 T S) (ht : T + 1 ≤ 3000) (hX : X.1 ≤ 3072) (hi0 : 0 ≤ i.toInt) (hi : i.toInt + 6 ≤ (X.1 : Int)) (K : ∀ S', zLw C0 Z0 (T + 1) S' → ma_fp X 0 13 494 929 [(0, .inr (.inr (some 30))), (1, .inr (.inr (some 64))), (2, .inr (.inr (some 94))), (3, .inr (.inr (some 125))), (4, .inl i)] [] S' Q) : ma_fp X 0 13 494 23 [(0, .inr (.inr (some 30))), (1, .inr (.inr (some 64))), (2, .inr (.inr (some 94))), (3, .inr (.inr (some 125))), (4, .inl i)] [] S Q := by
  have gd : ∀ j : Int32, (j = 1 ∨ j = 2 ∨ j = 3 ∨ j = 4 ∨ j = 5) → 0 ≤ i + j ∧ (i + j).toNatClampNeg < X.1 := by
    intro j hj
    have e : 1 ≤ j.toInt ∧ j.toInt ≤ 5 := by rcases hj with rfl | rfl | rfl | rfl | rfl <;> decide
    have e2 : (i + j).toInt = i.toInt + j.toInt := i_add (by omega) (by omega)
    exact i_ix (by omega) (by omega)
  have eX : (Int32.ofNat X.1).toInt = (X.1 : Int) := Int32.toInt_ofNat_of_lt (by omega)
  have e6 : ((Int32.ofNat X.1) - (6 : Int32)).toInt = (X.1 : Int) - 6 := by
    rw [i_subk (k := 6) rfl (by omega) (by omega), eX]
  refine gl_23 i (by decide) (by decide) H.1.1.1 (zf (fun z => by have := i_lt z; omega) ⟨i_ix (by omega) (by omega), ?_⟩)
  refine zd (fun _ => la_0 i H ht gd K) (fun _ => ?_)
  refine zd (fun _ => la_1 i H ht gd K) (fun _ => ?_)
  refine zd (fun _ => la_2 i H ht gd K) (fun _ => ?_)
  refine zd (fun _ => la_3 i H ht gd K) (fun _ => ?_)
  refine zd (fun _ => la_4 i H ht gd K) (fun _ => ?_)
  refine zd (fun _ => la_5 i H ht gd K) (fun _ => ?_)
  refine zd (fun _ => la_6 i H ht gd K) (fun _ => ?_)
  refine zd (fun _ => la_7 i H ht gd K) (fun _ => ?_)
  refine zd (fun _ => la_8 i H ht gd K) (fun _ => ?_)
  refine zd (fun _ => la_9 i H ht gd K) (fun _ => ?_)
  refine zd (fun _ => la_10 i H ht gd K) (fun _ => ?_)
  refine zd (fun _ => la_11 i H ht gd K) (fun _ => ?_)
  refine zd (fun _ => la_12 i H ht gd K) (fun _ => ?_)
  refine zd (fun _ => la_13 i H ht gd K) (fun _ => ?_)
  refine zd (fun _ => la_14 i H ht gd K) (fun _ => ?_)
  refine zd (fun _ => la_15 i H ht gd K) (fun _ => ?_)
  refine zd (fun _ => la_16 i H ht gd K) (fun _ => ?_)
  refine zd (fun _ => la_17 i H ht gd K) (fun _ => ?_)
  refine zd (fun _ => la_18 i H ht gd K) (fun _ => ?_)
  refine zd (fun _ => la_19 i H ht gd K) (fun _ => ?_)
  exact K S (lw_more H ht)
theorem la_loop {X : Nat × (Nat → Int32)} {C0 Z0 : Nat} {Q : Option ma_V → ma_S → Prop} (hX : X.1 ≤ 3072) (K : ∀ S' T, T ≤ 600 → zLw C0 Z0 T S' → Q (some (.inl (1 : Int32))) S') : ∀ (n : Nat) (T : Nat) (i : Int32) (S : ma_S), 3078 - i.toInt.toNat = n → 0 ≤ i.toInt → i.toInt = 6 * (T : Int) → i.toInt ≤ 3072 → zLw C0 Z0 T S → ma_fp X 0 13 494 23 [(0, .inr (.inr (some 30))), (1, .inr (.inr (some 64))), (2, .inr (.inr (some 94))), (3, .inr (.inr (some 125))), (4, .inl i)] [] S Q := by
  intro n
  induction n using Nat.strongRecOn with
  | _ n IH =>
    intro T i S hn h0 hT hi H
    by_cases hx : i.toInt + 6 ≤ (X.1 : Int)
    · refine la_any i H (by omega) hX h0 hx (fun S' H' => ?_)
      have e : (i + (6 : Int32)).toInt = i.toInt + 6 := i_addk rfl (by omega) (by omega)
      refine gl_929 i (by decide) (by decide) H'.1.1.1 ?_
      exact IH _ (by omega) (T + 1) (i + (6 : Int32)) S' rfl (by omega) (by omega) (by omega) H'
    · have eX : (Int32.ofNat X.1).toInt = (X.1 : Int) := Int32.toInt_ofNat_of_lt (by omega)
      have e6 : ((Int32.ofNat X.1) - (6 : Int32)).toInt = (X.1 : Int) - 6 := by
        rw [i_subk (k := 6) rfl (by omega) (by omega), eX]
      exact gl_23 i (by decide) (by decide) H.1.1.1 (zt (Int32.lt_iff_toInt_lt.mpr (by omega)) (K S T (by omega) H))
