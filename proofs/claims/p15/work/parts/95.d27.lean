/-! texts (written by wip/tools/gen95d.py) -/
theorem g_127_64_n_0 {X : Nat × (Nat → Int32)} {d w : Nat} {S : ma_S} {Q : Option ma_V ⊕ Nat → ma_S → Prop}  (hd : 9 ≤ d) (hw : 186 ≤ w) (hS : zT S) (h : ma_wp X (d - 1) (w - 23) 128 0 [(0, .inr (.inr (some 64)))] [] S (zi (fun v2 S1 => zT S1 ∧ (if v2 < 0 then (Q (.inl (some (.inl ((-1 : Int32) - (mI S1 64 2))))) (ma_put S1 64 1 (.inl (0 : Int32)))) else (if v2 < (7 : Int32) then (ma_wp X d w 127 30 [(0, .inr (.inr (some 64))), (1, .inl v2)] [] (ma_put S1 64 1 (.inl (0 : Int32))) Q) else (Q (.inl (some (.inl ((-1 : Int32) - (mI S1 64 2))))) (ma_put S1 64 1 (.inl (0 : Int32))))))) (fun x S9 => Q (.inr x) S9))) : ma_wp X d w 127 0 [(0, .inr (.inr (some 64)))] [] S Q := by
  refine zw_push hm_127 dX11_heap_0 (v := .inr (.inr (some 64))) rfl ?_
  refine zw_cv hm_127 dX11_heap_1 v_11_88_11 hm_128 [] [] rfl (zT_rt hS s_64 rfl) ⟨by omega, by omega⟩ rfl (zw_mono h (zi_go ?_ ?_))
  · intro v2 S1 hv
    obtain ⟨hS1, h⟩ := hv
    refine zw_sto hm_127 dX11_heap_4 [(1, .inl v2), (0, .inr (.inr (some 64)))] rfl rfl rfl ?_
    refine zw_push hm_127 dX11_heap_5 (v := .inr (.inr (some 64))) rfl ?_
    refine zw_push hm_127 dX11_heap_6 (v := .inl (0 : Int32)) rfl ?_
    refine zw_pf hm_127 dX11_heap_7 (zT_is hS1 s_64) (zT_t hS1 s_64) p_11_68_11 zk_int ?_
    refine zw_push hm_127 dX11_heap_10 (v := .inl v2) rfl ?_
    refine zw_if0 hm_127 dX11_heap_11 (t := 23) rfl zc0_lt ?_ ?_
    · intro hc
      rw [if_pos hc] at h
      refine zw_push hm_127 dX11_heap_23 (v := .inl (-1 : Int32)) rfl ?_
      refine zw_push hm_127 dX11_heap_24 (v := .inr (.inr (some 64))) rfl ?_
      refine zw_gf hm_127 dX11_heap_25 (v := .inl (mI S1 64 2)) (zT_is (zT_pi hS1) s_64) (zT_t (zT_pi hS1) s_64) rfl f_11_92_11 rfl ?_
      refine zw_stk hm_127 dX11_heap_28 (st' := [.inl ((-1 : Int32) - (mI S1 64 2))]) rfl rfl ?_
      exact zw_iret hm_127 dX11_heap_29 h
    · intro hc
      rw [if_neg hc] at h
      refine zw_push hm_127 dX11_heap_14 (v := .inl v2) rfl ?_
      refine zw_push hm_127 dX11_heap_15 (v := .inr (.inr (some 64))) rfl ?_
      refine zw_gf hm_127 dX11_heap_16 (v := .inr (.inr (some 78))) (zT_is (zT_pi hS1) s_64) (zT_t (zT_pi hS1) s_64) rfl f_11_64_11 (zT_f (zT_pi hS1) r_64_10) ?_
      refine zw_len hm_127 dX11_heap_19 (v := (7 : Int32)) (zT_is (zT_pi hS1) s_78) (zT_h (zT_pi hS1) s_78) rfl rfl ?_
      refine zw_if2 hm_127 dX11_heap_20 (t := 30) rfl zc2_lt ?_ ?_
      · intro hc
        rw [if_pos hc] at h
        exact zw_sub (ma_nd_of (ks := [0, 1]) rfl (by decide)) (ma_nd_of (ks := [1, 0]) rfl (by decide)) (ma_le_cons rfl (ma_le_cons rfl (ma_le_nil _))) h
      · intro hc
        rw [if_neg hc] at h
        refine zw_push hm_127 dX11_heap_23 (v := .inl (-1 : Int32)) rfl ?_
        refine zw_push hm_127 dX11_heap_24 (v := .inr (.inr (some 64))) rfl ?_
        refine zw_gf hm_127 dX11_heap_25 (v := .inl (mI S1 64 2)) (zT_is (zT_pi hS1) s_64) (zT_t (zT_pi hS1) s_64) rfl f_11_92_11 rfl ?_
        refine zw_stk hm_127 dX11_heap_28 (st' := [.inl ((-1 : Int32) - (mI S1 64 2))]) rfl rfl ?_
        exact zw_iret hm_127 dX11_heap_29 h
  · intro x S9 hx
    exact ⟨by decide, hx⟩
theorem g_127_64_n_30 {X : Nat × (Nat → Int32)} {d w : Nat} {S : ma_S} {Q : Option ma_V ⊕ Nat → ma_S → Prop} (l1 : Int32) (hd : 9 ≤ d) (hw : 186 ≤ w) (hS : zT S) (h : ma_wp X (d - 1) (w - 21) 80 0 [(0, .inr (.inr (some 69)))] [] S (zv (fun S1 => zT S1 ∧ (if l1 = (0 : Int32) then (ma_wp X (d - 1) (w - 21) 100 0 [(0, .inr (.inr (some 79))), (1, .inr (.inr (some 66)))] [] (ma_put S1 64 11 (.inr (.inr (some 79)))) (zv (fun S3 => zT S3 ∧ (mR S3 64 11 = some 79 ∧ (ma_wp X (d - 1) (w - 20) 101 0 [(0, .inr (.inr (some 79)))] [] S3 (zi (fun v6 S5 => zT S5 ∧ (Q (.inl (some (.inl v6))) S5)) (fun _ _ => False))))) (fun _ _ => False))) else (if l1 = (1 : Int32) then (ma_wp X (d - 1) (w - 21) 59 0 [(0, .inr (.inr (some 80))), (1, .inr (.inr (some 66)))] [] (ma_put S1 64 11 (.inr (.inr (some 80)))) (zv (fun S7 => zT S7 ∧ (mR S7 64 11 = some 80 ∧ (ma_wp X (d - 1) (w - 20) 60 0 [(0, .inr (.inr (some 80)))] [] S7 (zi (fun v10 S9 => zT S9 ∧ (Q (.inl (some (.inl v10))) S9)) (fun _ _ => False))))) (fun _ _ => False))) else (if l1 = (2 : Int32) then (ma_wp X (d - 1) (w - 21) 29 0 [(0, .inr (.inr (some 81))), (1, .inr (.inr (some 66)))] [] (ma_put S1 64 11 (.inr (.inr (some 81)))) (zv (fun S11 => zT S11 ∧ (mR S11 64 11 = some 81 ∧ (ma_wp X (d - 1) (w - 20) 30 0 [(0, .inr (.inr (some 81)))] [] S11 (zi (fun v14 S13 => zT S13 ∧ (Q (.inl (some (.inl v14))) S13)) (fun _ _ => False))))) (fun _ _ => False))) else (if l1 = (3 : Int32) then (ma_wp X (d - 1) (w - 21) 1 0 [(0, .inr (.inr (some 82))), (1, .inr (.inr (some 66)))] [] (ma_put S1 64 11 (.inr (.inr (some 82)))) (zv (fun S15 => zT S15 ∧ (mR S15 64 11 = some 82 ∧ (ma_wp X (d - 1) (w - 20) 2 0 [(0, .inr (.inr (some 82)))] [] S15 (zi (fun v18 S17 => zT S17 ∧ (Q (.inl (some (.inl v18))) S17)) (fun _ _ => False))))) (fun _ _ => False))) else (if l1 = (4 : Int32) then (ma_wp X (d - 1) (w - 21) 100 0 [(0, .inr (.inr (some 84))), (1, .inr (.inr (some 66)))] [] (ma_put S1 64 11 (.inr (.inr (some 84)))) (zv (fun S19 => zT S19 ∧ (mR S19 64 11 = some 84 ∧ (ma_wp X (d - 1) (w - 20) 101 0 [(0, .inr (.inr (some 84)))] [] S19 (zi (fun v22 S21 => zT S21 ∧ (Q (.inl (some (.inl v22))) S21)) (fun _ _ => False))))) (fun _ _ => False))) else (if l1 = (5 : Int32) then (ma_wp X (d - 1) (w - 21) 66 0 [(0, .inr (.inr (some 87))), (1, .inr (.inr (some 66)))] [] (ma_put S1 64 11 (.inr (.inr (some 87)))) (zv (fun S23 => zT S23 ∧ (mR S23 64 11 = some 87 ∧ (ma_wp X (d - 1) (w - 20) 101 0 [(0, .inr (.inr (some 87)))] [] S23 (zi (fun v26 S25 => zT S25 ∧ (Q (.inl (some (.inl v26))) S25)) (fun _ _ => False))))) (fun _ _ => False))) else (if l1 = (6 : Int32) then (ma_wp X (d - 1) (w - 21) 38 0 [(0, .inr (.inr (some 91))), (1, .inr (.inr (some 66)))] [] (ma_put S1 64 11 (.inr (.inr (some 91)))) (zv (fun S27 => zT S27 ∧ (mR S27 64 11 = some 91 ∧ (ma_wp X (d - 1) (w - 20) 39 0 [(0, .inr (.inr (some 91)))] [] S27 (zi (fun v30 S29 => zT S29 ∧ (Q (.inl (some (.inl v30))) S29)) (fun _ _ => False))))) (fun _ _ => False))) else (False))))))))) (fun x S9 => Q (.inr x) S9))) : ma_wp X d w 127 30 [(0, .inr (.inr (some 64))), (1, .inl l1)] [] S Q := by
  refine zw_push hm_127 dX11_heap_30 (v := .inr (.inr (some 64))) rfl ?_
  refine zw_gf hm_127 dX11_heap_31 (v := .inr (.inr (some 69))) (zT_is hS s_64) (zT_t hS s_64) rfl f_11_26_11 (zT_f hS r_64_8) ?_
  refine zw_cv hm_127 dX11_heap_34 v_11_95_7 hm_80 [] [] rfl (zT_rt hS s_69 rfl) ⟨by omega, by omega⟩ rfl (zw_mono h (zv_go ?_ ?_))
  · intro S1 hv
    obtain ⟨hS1, h⟩ := hv
    refine zw_push hm_127 dX11_heap_37 (v := .inr (.inr (some 64))) rfl ?_
    refine zw_push hm_127 dX11_heap_38 (v := .inr (.inr (some 64))) rfl ?_
    refine zw_gf hm_127 dX11_heap_39 (v := .inr (.inr (some 78))) (zT_is hS1 s_64) (zT_t hS1 s_64) rfl f_11_64_11 (zT_f hS1 r_64_10) ?_
    refine zw_push hm_127 dX11_heap_42 (v := .inl l1) rfl ?_
    by_cases hc0 : l1 = (0 : Int32)
    · rw [if_pos hc0] at h
      have h9 := h
      subst hc0
      have h := h9
      refine zw_aa hm_127 dX11_heap_43 (zT_is hS1 s_78) (zT_h hS1 s_78) rfl rfl ⟨by decide, by decide⟩ (zT_r hS1 r_78_0) ?_
      show ma_wp X d w 127 44 [(0, .inr (.inr (some 64))), (1, .inl (0 : Int32))] [.inr (.inr (some 79)), .inr (.inr (some 64))] S1 _
      refine zw_pf hm_127 dX11_heap_44 (zT_is hS1 s_64) (zT_t hS1 s_64) p_11_98_11 rfl ?_
      refine zw_push hm_127 dX11_heap_47 (v := .inr (.inr (some 64))) rfl ?_
      refine zw_gf hm_127 dX11_heap_48 (v := .inr (.inr (some 79))) (zT_is (zT_pr hS1 rfl) s_64) (zT_t (zT_pr hS1 rfl) s_64) rfl f_11_98_11 rfl ?_
      refine zw_push hm_127 dX11_heap_51 (v := .inr (.inr (some 64))) rfl ?_
      refine zw_gf hm_127 dX11_heap_52 (v := .inr (.inr (some 66))) (zT_is (zT_pr hS1 rfl) s_64) (zT_t (zT_pr hS1 rfl) s_64) rfl f_11_13_11 (zT_f (zT_pr hS1 rfl) r_64_4) ?_
      refine zw_cv hm_127 dX11_heap_55 v_11_102_8 hm_100 [.inr (.inr (some 66))] [] rfl (zT_rt (zT_pr hS1 rfl) s_79 rfl) ⟨by omega, by omega⟩ rfl (zw_mono h (zv_go ?_ ?_))
      · intro S3 hv
        obtain ⟨hS3, h⟩ := hv
        refine zw_push hm_127 dX11_heap_58 (v := .inr (.inr (some 64))) rfl ?_
        obtain ⟨hg, h⟩ := h
        refine zw_gf hm_127 dX11_heap_59 (v := .inr (.inr (some 79))) (zT_is hS3 s_64) (zT_t hS3 s_64) rfl f_11_98_11 (congrArg (fun z => Sum.inr (Sum.inr z)) hg) ?_
        refine zw_cv hm_127 dX11_heap_62 v_11_106_8 hm_101 [] [] rfl (zT_rt hS3 s_79 rfl) ⟨by omega, by omega⟩ rfl (zw_mono h (zi_go ?_ ?_))
        · intro v6 S5 hv
          obtain ⟨hS5, h⟩ := hv
          exact zw_iret hm_127 dX11_heap_65 h
        · intro x S9 hx
          exact hx.elim
      · intro x S9 hx
        exact hx.elim
    rw [if_neg hc0] at h
    by_cases hc1 : l1 = (1 : Int32)
    · rw [if_pos hc1] at h
      have h9 := h
      subst hc1
      have h := h9
      refine zw_aa hm_127 dX11_heap_43 (zT_is hS1 s_78) (zT_h hS1 s_78) rfl rfl ⟨by decide, by decide⟩ (zT_r hS1 r_78_1) ?_
      show ma_wp X d w 127 44 [(0, .inr (.inr (some 64))), (1, .inl (1 : Int32))] [.inr (.inr (some 80)), .inr (.inr (some 64))] S1 _
      refine zw_pf hm_127 dX11_heap_44 (zT_is hS1 s_64) (zT_t hS1 s_64) p_11_98_11 rfl ?_
      refine zw_push hm_127 dX11_heap_47 (v := .inr (.inr (some 64))) rfl ?_
      refine zw_gf hm_127 dX11_heap_48 (v := .inr (.inr (some 80))) (zT_is (zT_pr hS1 rfl) s_64) (zT_t (zT_pr hS1 rfl) s_64) rfl f_11_98_11 rfl ?_
      refine zw_push hm_127 dX11_heap_51 (v := .inr (.inr (some 64))) rfl ?_
      refine zw_gf hm_127 dX11_heap_52 (v := .inr (.inr (some 66))) (zT_is (zT_pr hS1 rfl) s_64) (zT_t (zT_pr hS1 rfl) s_64) rfl f_11_13_11 (zT_f (zT_pr hS1 rfl) r_64_4) ?_
      refine zw_cv hm_127 dX11_heap_55 v_11_102_5 hm_59 [.inr (.inr (some 66))] [] rfl (zT_rt (zT_pr hS1 rfl) s_80 rfl) ⟨by omega, by omega⟩ rfl (zw_mono h (zv_go ?_ ?_))
      · intro S7 hv
        obtain ⟨hS7, h⟩ := hv
        refine zw_push hm_127 dX11_heap_58 (v := .inr (.inr (some 64))) rfl ?_
        obtain ⟨hg, h⟩ := h
        refine zw_gf hm_127 dX11_heap_59 (v := .inr (.inr (some 80))) (zT_is hS7 s_64) (zT_t hS7 s_64) rfl f_11_98_11 (congrArg (fun z => Sum.inr (Sum.inr z)) hg) ?_
        refine zw_cv hm_127 dX11_heap_62 v_11_106_5 hm_60 [] [] rfl (zT_rt hS7 s_80 rfl) ⟨by omega, by omega⟩ rfl (zw_mono h (zi_go ?_ ?_))
        · intro v10 S9 hv
          obtain ⟨hS9, h⟩ := hv
          exact zw_iret hm_127 dX11_heap_65 h
        · intro x S9 hx
          exact hx.elim
      · intro x S9 hx
        exact hx.elim
    rw [if_neg hc1] at h
    by_cases hc2 : l1 = (2 : Int32)
    · rw [if_pos hc2] at h
      have h9 := h
      subst hc2
      have h := h9
      refine zw_aa hm_127 dX11_heap_43 (zT_is hS1 s_78) (zT_h hS1 s_78) rfl rfl ⟨by decide, by decide⟩ (zT_r hS1 r_78_2) ?_
      show ma_wp X d w 127 44 [(0, .inr (.inr (some 64))), (1, .inl (2 : Int32))] [.inr (.inr (some 81)), .inr (.inr (some 64))] S1 _
      refine zw_pf hm_127 dX11_heap_44 (zT_is hS1 s_64) (zT_t hS1 s_64) p_11_98_11 rfl ?_
      refine zw_push hm_127 dX11_heap_47 (v := .inr (.inr (some 64))) rfl ?_
      refine zw_gf hm_127 dX11_heap_48 (v := .inr (.inr (some 81))) (zT_is (zT_pr hS1 rfl) s_64) (zT_t (zT_pr hS1 rfl) s_64) rfl f_11_98_11 rfl ?_
      refine zw_push hm_127 dX11_heap_51 (v := .inr (.inr (some 64))) rfl ?_
      refine zw_gf hm_127 dX11_heap_52 (v := .inr (.inr (some 66))) (zT_is (zT_pr hS1 rfl) s_64) (zT_t (zT_pr hS1 rfl) s_64) rfl f_11_13_11 (zT_f (zT_pr hS1 rfl) r_64_4) ?_
      refine zw_cv hm_127 dX11_heap_55 v_11_102_3 hm_29 [.inr (.inr (some 66))] [] rfl (zT_rt (zT_pr hS1 rfl) s_81 rfl) ⟨by omega, by omega⟩ rfl (zw_mono h (zv_go ?_ ?_))
      · intro S11 hv
        obtain ⟨hS11, h⟩ := hv
        refine zw_push hm_127 dX11_heap_58 (v := .inr (.inr (some 64))) rfl ?_
        obtain ⟨hg, h⟩ := h
        refine zw_gf hm_127 dX11_heap_59 (v := .inr (.inr (some 81))) (zT_is hS11 s_64) (zT_t hS11 s_64) rfl f_11_98_11 (congrArg (fun z => Sum.inr (Sum.inr z)) hg) ?_
        refine zw_cv hm_127 dX11_heap_62 v_11_106_3 hm_30 [] [] rfl (zT_rt hS11 s_81 rfl) ⟨by omega, by omega⟩ rfl (zw_mono h (zi_go ?_ ?_))
        · intro v14 S13 hv
          obtain ⟨hS13, h⟩ := hv
          exact zw_iret hm_127 dX11_heap_65 h
        · intro x S9 hx
          exact hx.elim
      · intro x S9 hx
        exact hx.elim
    rw [if_neg hc2] at h
    by_cases hc3 : l1 = (3 : Int32)
    · rw [if_pos hc3] at h
      have h9 := h
      subst hc3
      have h := h9
      refine zw_aa hm_127 dX11_heap_43 (zT_is hS1 s_78) (zT_h hS1 s_78) rfl rfl ⟨by decide, by decide⟩ (zT_r hS1 r_78_3) ?_
      show ma_wp X d w 127 44 [(0, .inr (.inr (some 64))), (1, .inl (3 : Int32))] [.inr (.inr (some 82)), .inr (.inr (some 64))] S1 _
      refine zw_pf hm_127 dX11_heap_44 (zT_is hS1 s_64) (zT_t hS1 s_64) p_11_98_11 rfl ?_
      refine zw_push hm_127 dX11_heap_47 (v := .inr (.inr (some 64))) rfl ?_
      refine zw_gf hm_127 dX11_heap_48 (v := .inr (.inr (some 82))) (zT_is (zT_pr hS1 rfl) s_64) (zT_t (zT_pr hS1 rfl) s_64) rfl f_11_98_11 rfl ?_
      refine zw_push hm_127 dX11_heap_51 (v := .inr (.inr (some 64))) rfl ?_
      refine zw_gf hm_127 dX11_heap_52 (v := .inr (.inr (some 66))) (zT_is (zT_pr hS1 rfl) s_64) (zT_t (zT_pr hS1 rfl) s_64) rfl f_11_13_11 (zT_f (zT_pr hS1 rfl) r_64_4) ?_
      refine zw_cv hm_127 dX11_heap_55 v_11_102_1 hm_1 [.inr (.inr (some 66))] [] rfl (zT_rt (zT_pr hS1 rfl) s_82 rfl) ⟨by omega, by omega⟩ rfl (zw_mono h (zv_go ?_ ?_))
      · intro S15 hv
        obtain ⟨hS15, h⟩ := hv
        refine zw_push hm_127 dX11_heap_58 (v := .inr (.inr (some 64))) rfl ?_
        obtain ⟨hg, h⟩ := h
        refine zw_gf hm_127 dX11_heap_59 (v := .inr (.inr (some 82))) (zT_is hS15 s_64) (zT_t hS15 s_64) rfl f_11_98_11 (congrArg (fun z => Sum.inr (Sum.inr z)) hg) ?_
        refine zw_cv hm_127 dX11_heap_62 v_11_106_1 hm_2 [] [] rfl (zT_rt hS15 s_82 rfl) ⟨by omega, by omega⟩ rfl (zw_mono h (zi_go ?_ ?_))
        · intro v18 S17 hv
          obtain ⟨hS17, h⟩ := hv
          exact zw_iret hm_127 dX11_heap_65 h
        · intro x S9 hx
          exact hx.elim
      · intro x S9 hx
        exact hx.elim
    rw [if_neg hc3] at h
    by_cases hc4 : l1 = (4 : Int32)
    · rw [if_pos hc4] at h
      have h9 := h
      subst hc4
      have h := h9
      refine zw_aa hm_127 dX11_heap_43 (zT_is hS1 s_78) (zT_h hS1 s_78) rfl rfl ⟨by decide, by decide⟩ (zT_r hS1 r_78_4) ?_
      show ma_wp X d w 127 44 [(0, .inr (.inr (some 64))), (1, .inl (4 : Int32))] [.inr (.inr (some 84)), .inr (.inr (some 64))] S1 _
      refine zw_pf hm_127 dX11_heap_44 (zT_is hS1 s_64) (zT_t hS1 s_64) p_11_98_11 rfl ?_
      refine zw_push hm_127 dX11_heap_47 (v := .inr (.inr (some 64))) rfl ?_
      refine zw_gf hm_127 dX11_heap_48 (v := .inr (.inr (some 84))) (zT_is (zT_pr hS1 rfl) s_64) (zT_t (zT_pr hS1 rfl) s_64) rfl f_11_98_11 rfl ?_
      refine zw_push hm_127 dX11_heap_51 (v := .inr (.inr (some 64))) rfl ?_
      refine zw_gf hm_127 dX11_heap_52 (v := .inr (.inr (some 66))) (zT_is (zT_pr hS1 rfl) s_64) (zT_t (zT_pr hS1 rfl) s_64) rfl f_11_13_11 (zT_f (zT_pr hS1 rfl) r_64_4) ?_
      refine zw_cv hm_127 dX11_heap_55 v_11_102_2 hm_100 [.inr (.inr (some 66))] [] rfl (zT_rt (zT_pr hS1 rfl) s_84 rfl) ⟨by omega, by omega⟩ rfl (zw_mono h (zv_go ?_ ?_))
      · intro S19 hv
        obtain ⟨hS19, h⟩ := hv
        refine zw_push hm_127 dX11_heap_58 (v := .inr (.inr (some 64))) rfl ?_
        obtain ⟨hg, h⟩ := h
        refine zw_gf hm_127 dX11_heap_59 (v := .inr (.inr (some 84))) (zT_is hS19 s_64) (zT_t hS19 s_64) rfl f_11_98_11 (congrArg (fun z => Sum.inr (Sum.inr z)) hg) ?_
        refine zw_cv hm_127 dX11_heap_62 v_11_106_2 hm_101 [] [] rfl (zT_rt hS19 s_84 rfl) ⟨by omega, by omega⟩ rfl (zw_mono h (zi_go ?_ ?_))
        · intro v22 S21 hv
          obtain ⟨hS21, h⟩ := hv
          exact zw_iret hm_127 dX11_heap_65 h
        · intro x S9 hx
          exact hx.elim
      · intro x S9 hx
        exact hx.elim
    rw [if_neg hc4] at h
    by_cases hc5 : l1 = (5 : Int32)
    · rw [if_pos hc5] at h
      have h9 := h
      subst hc5
      have h := h9
      refine zw_aa hm_127 dX11_heap_43 (zT_is hS1 s_78) (zT_h hS1 s_78) rfl rfl ⟨by decide, by decide⟩ (zT_r hS1 r_78_5) ?_
      show ma_wp X d w 127 44 [(0, .inr (.inr (some 64))), (1, .inl (5 : Int32))] [.inr (.inr (some 87)), .inr (.inr (some 64))] S1 _
      refine zw_pf hm_127 dX11_heap_44 (zT_is hS1 s_64) (zT_t hS1 s_64) p_11_98_11 rfl ?_
      refine zw_push hm_127 dX11_heap_47 (v := .inr (.inr (some 64))) rfl ?_
      refine zw_gf hm_127 dX11_heap_48 (v := .inr (.inr (some 87))) (zT_is (zT_pr hS1 rfl) s_64) (zT_t (zT_pr hS1 rfl) s_64) rfl f_11_98_11 rfl ?_
      refine zw_push hm_127 dX11_heap_51 (v := .inr (.inr (some 64))) rfl ?_
      refine zw_gf hm_127 dX11_heap_52 (v := .inr (.inr (some 66))) (zT_is (zT_pr hS1 rfl) s_64) (zT_t (zT_pr hS1 rfl) s_64) rfl f_11_13_11 (zT_f (zT_pr hS1 rfl) r_64_4) ?_
      refine zw_cv hm_127 dX11_heap_55 v_11_102_6 hm_66 [.inr (.inr (some 66))] [] rfl (zT_rt (zT_pr hS1 rfl) s_87 rfl) ⟨by omega, by omega⟩ rfl (zw_mono h (zv_go ?_ ?_))
      · intro S23 hv
        obtain ⟨hS23, h⟩ := hv
        refine zw_push hm_127 dX11_heap_58 (v := .inr (.inr (some 64))) rfl ?_
        obtain ⟨hg, h⟩ := h
        refine zw_gf hm_127 dX11_heap_59 (v := .inr (.inr (some 87))) (zT_is hS23 s_64) (zT_t hS23 s_64) rfl f_11_98_11 (congrArg (fun z => Sum.inr (Sum.inr z)) hg) ?_
        refine zw_cv hm_127 dX11_heap_62 v_11_106_6 hm_101 [] [] rfl (zT_rt hS23 s_87 rfl) ⟨by omega, by omega⟩ rfl (zw_mono h (zi_go ?_ ?_))
        · intro v26 S25 hv
          obtain ⟨hS25, h⟩ := hv
          exact zw_iret hm_127 dX11_heap_65 h
        · intro x S9 hx
          exact hx.elim
      · intro x S9 hx
        exact hx.elim
    rw [if_neg hc5] at h
    by_cases hc6 : l1 = (6 : Int32)
    · rw [if_pos hc6] at h
      have h9 := h
      subst hc6
      have h := h9
      refine zw_aa hm_127 dX11_heap_43 (zT_is hS1 s_78) (zT_h hS1 s_78) rfl rfl ⟨by decide, by decide⟩ (zT_r hS1 r_78_6) ?_
      show ma_wp X d w 127 44 [(0, .inr (.inr (some 64))), (1, .inl (6 : Int32))] [.inr (.inr (some 91)), .inr (.inr (some 64))] S1 _
      refine zw_pf hm_127 dX11_heap_44 (zT_is hS1 s_64) (zT_t hS1 s_64) p_11_98_11 rfl ?_
      refine zw_push hm_127 dX11_heap_47 (v := .inr (.inr (some 64))) rfl ?_
      refine zw_gf hm_127 dX11_heap_48 (v := .inr (.inr (some 91))) (zT_is (zT_pr hS1 rfl) s_64) (zT_t (zT_pr hS1 rfl) s_64) rfl f_11_98_11 rfl ?_
      refine zw_push hm_127 dX11_heap_51 (v := .inr (.inr (some 64))) rfl ?_
      refine zw_gf hm_127 dX11_heap_52 (v := .inr (.inr (some 66))) (zT_is (zT_pr hS1 rfl) s_64) (zT_t (zT_pr hS1 rfl) s_64) rfl f_11_13_11 (zT_f (zT_pr hS1 rfl) r_64_4) ?_
      refine zw_cv hm_127 dX11_heap_55 v_11_102_4 hm_38 [.inr (.inr (some 66))] [] rfl (zT_rt (zT_pr hS1 rfl) s_91 rfl) ⟨by omega, by omega⟩ rfl (zw_mono h (zv_go ?_ ?_))
      · intro S27 hv
        obtain ⟨hS27, h⟩ := hv
        refine zw_push hm_127 dX11_heap_58 (v := .inr (.inr (some 64))) rfl ?_
        obtain ⟨hg, h⟩ := h
        refine zw_gf hm_127 dX11_heap_59 (v := .inr (.inr (some 91))) (zT_is hS27 s_64) (zT_t hS27 s_64) rfl f_11_98_11 (congrArg (fun z => Sum.inr (Sum.inr z)) hg) ?_
        refine zw_cv hm_127 dX11_heap_62 v_11_106_4 hm_39 [] [] rfl (zT_rt hS27 s_91 rfl) ⟨by omega, by omega⟩ rfl (zw_mono h (zi_go ?_ ?_))
        · intro v30 S29 hv
          obtain ⟨hS29, h⟩ := hv
          exact zw_iret hm_127 dX11_heap_65 h
        · intro x S9 hx
          exact hx.elim
      · intro x S9 hx
        exact hx.elim
    rw [if_neg hc6] at h
    exact h.elim
  · intro x S9 hx
    exact ⟨by decide, hx⟩
theorem lp_127_64_n_30 {X : Nat × (Nat → Int32)} {d w : Nat} {f : Nat → Nat → Int32} {r : Nat → Nat → Option Nat} {C Z N : Nat} {Q : Option ma_V ⊕ Nat → ma_S → Prop} {zt : Nat→Int32} {zn : Int} (hd : 9 ≤ d) (hw : 186 ≤ w) (K : ∀ v S' r', (r' = r ∨ ∃ p, p ∈ zcl7 ∧ r' = zrp r p) → zA f r' C Z N S' → ((mI S' 64 1).toInt = 0) → (v.toInt = zAns zt zn) → Q (.inl (some (.inl v))) S') : ∀ (n : Nat) (S : ma_S) (l1 : Int32), ((0 : Int)).toNat = n → zA f r C Z N S → (0 ≤ l1.toInt) → (l1.toInt ≤ 6) → (0 ≤ (mI S 66 0).toInt ∧ (l1.toInt = 3 → 0 ≤ (mI S 66 1).toInt) ∧ (l1.toInt = 6 → 16 ≤ (mI S 66 1).toInt)) → ((mI S 64 1).toInt = 0) → (zFin l1.toInt (mI S 66 0).toInt (mI S 66 1).toInt = zAns zt zn) → ma_wp X d w 127 30 [(0, .inr (.inr (some 64))), (1, .inl l1)] [] S Q := by
  intro n
  induction n using Nat.strongRecOn with
  | _ n IH =>
    intro S l1 hmu hI  hi0 hi1 hi2 hi3 hi4
    refine g_127_64_n_30 l1 (by omega) (by omega) (zG_T hI) ?_
    have f1 := zG_a hI 4 (-1) (1500) (c := 66) (k := 0) (by decide) (by decide)
    have f2 := zG_a hI 4 (-1) (1500) (c := 66) (k := 1) (by decide) (by decide)
    refine sp_80_69  (by omega) (by omega) (zA_dn_zS hI)  (fun S1 hL_S1 => zv_n ⟨zG_T hL_S1, ?_⟩)
    have hI_S1 := zA_up_zS hI hL_S1
    have b3 := i_bd l1
    have li4 : (0 : Int32).toInt = 0 := rfl
    refine zd (fun h5 => ?_) (fun h5 => ?_)
    · skip
      have g6 := i_eq h5
      have hI7 : zA f (zrp r 79) C Z N (ma_put S1 64 11 (.inr (.inr (some 79)))) := zG_pres hI_S1 (by decide)
      have q8 : (mI S1 66 0).toInt = (mI S 66 0).toInt := zG_zi (f := mI S) hL_S1 rfl
      have f9 := zG_a hI_S1 4 (-1) (1500) (c := 66) (k := 0) (by decide) (by decide)
      refine sp_100_79_66_n  (by omega) (by omega) (zA_dn_zJ79 hI7) (show 0 ≤ (mI S1 66 0).toInt ∧ (mI S1 66 0).toInt ≤ 1500 from by omega) (fun S3 hL_S3 rp0_S3 => zv_n ⟨zG_T hL_S3, ?_⟩)
      have hI_S3 := zA_up_zJ79 hI7 hL_S3
      have f10 := zG_s hI_S3 (0) (1500) (c := 79) (k := 2) (by decide)
      have rp0_S3 : (mI S3 79 2).toInt = (mI S1 66 0).toInt := by
        have z := rp0_S3
        (try rw [show mI (ma_put S1 64 11 (.inr (.inr (some 79)))) 65 = f 65 from funext (fun k => zG_z hI7 rfl)] at z)
        (try rw [show mI (ma_put S1 64 11 (.inr (.inr (some 79)))) 64 1 = f 64 1 from zG_z hI7 rfl] at z)
        exact z
      refine ⟨((zG_r hI_S3 (by decide)).trans rfl), ?_⟩
      refine sp_101_79_n (g0 := ((mI S3 79 2).toInt)) (by omega) (by omega) (zA_dn_zJ79 hI_S3) (show (mI S3 79 2).toInt = ((mI S3 79 2).toInt) from by omega) (fun v6 S5 hL_S5 hp_v6 rp0_S5 => zi_n ⟨zG_T hL_S5, ?_⟩)
      have hI_S5 := zA_up_zJ79 hI_S3 hL_S5
      have rp0_S5 : v6.toInt = ((mI S3 79 2).toInt) := by
        have z := rp0_S5
        (try rw [show mI S3 65 = f 65 from funext (fun k => zG_z hI_S3 rfl)] at z)
        (try rw [show mI S3 64 1 = f 64 1 from zG_z hI_S3 rfl] at z)
        exact z
      have b11 := i_bd v6
      have f12 := zG_s hI (0) (100) (c := 64) (k := 1) (by decide)
      have q13 : (mI S1 64 1).toInt = (mI S 64 1).toInt := zG_zi (f := mI S) hL_S1 rfl
      have f14 := zG_s hI_S1 (0) (100) (c := 64) (k := 1) (by decide)
      have q15 : (mI S3 64 1).toInt = (mI S1 64 1).toInt := zG_zi (f := mI (ma_put S1 64 11 (.inr (.inr (some 79))))) hL_S3 rfl
      have f16 := zG_s hI_S3 (0) (100) (c := 64) (k := 1) (by decide)
      have q17 : (mI S5 64 1).toInt = (mI S3 64 1).toInt := zG_zi (f := mI S3) hL_S5 rfl
      have f18 := zG_s hI_S5 (0) (100) (c := 64) (k := 1) (by decide)
      exact K (v6) _ (zrp r 79) (Or.inr ⟨79, by decide, rfl⟩) hI_S5 (show (mI S5 64 1).toInt = 0 from by omega) (show v6.toInt = zAns zt zn from by first | (have z := hi4; rw [zFin_0 (by omega)] at z; omega) | (have z := hi4; rw [zFin_2 (by omega)] at z; omega) | (have z := hi4; rw [zFin_3 (by omega)] at z; omega) | (have z := hi4; rw [zFin_6 (by omega)] at z; exact mul_eq2 rp0_S5 rp0_S3.1 rp0_S3.2 (by omega) (by omega) z) | (omega) | (exfalso; omega))
    · skip
      have g19 := i_ne h5
      have li20 : (1 : Int32).toInt = 1 := rfl
      refine zd (fun h21 => ?_) (fun h21 => ?_)
      · skip
        have g22 := i_eq h21
        have hI23 : zA f (zrp r 80) C Z N (ma_put S1 64 11 (.inr (.inr (some 80)))) := zG_pres hI_S1 (by decide)
        have q24 : (mI S1 66 0).toInt = (mI S 66 0).toInt := zG_zi (f := mI S) hL_S1 rfl
        have f25 := zG_a hI_S1 4 (-1) (1500) (c := 66) (k := 0) (by decide) (by decide)
        refine sp_59_80_66_n  (by omega) (by omega) (zA_dn_zJ80 hI23) (show 0 ≤ (mI S1 66 0).toInt ∧ (mI S1 66 0).toInt ≤ 1500 from by omega) (fun S7 hL_S7 rp0_S7 => zv_n ⟨zG_T hL_S7, ?_⟩)
        have hI_S7 := zA_up_zJ80 hI23 hL_S7
        have f26 := zG_s hI_S7 (0) (1500) (c := 80) (k := 2) (by decide)
        have rp0_S7 : (mI S7 80 2).toInt = (mI S1 66 0).toInt := by
          have z := rp0_S7
          (try rw [show mI (ma_put S1 64 11 (.inr (.inr (some 80)))) 65 = f 65 from funext (fun k => zG_z hI23 rfl)] at z)
          (try rw [show mI (ma_put S1 64 11 (.inr (.inr (some 80)))) 64 1 = f 64 1 from zG_z hI23 rfl] at z)
          exact z
        refine ⟨((zG_r hI_S7 (by decide)).trans rfl), ?_⟩
        refine sp_60_80_n (g0 := ((mI S7 80 2).toInt)) (by omega) (by omega) (zA_dn_zJ80 hI_S7) (show (mI S7 80 2).toInt = ((mI S7 80 2).toInt) from by omega) (fun v10 S9 hL_S9 hp_v10 rp0_S9 => zi_n ⟨zG_T hL_S9, ?_⟩)
        have hI_S9 := zA_up_zJ80 hI_S7 hL_S9
        have rp0_S9 : v10.toInt = ((mI S7 80 2).toInt) := by
          have z := rp0_S9
          (try rw [show mI S7 65 = f 65 from funext (fun k => zG_z hI_S7 rfl)] at z)
          (try rw [show mI S7 64 1 = f 64 1 from zG_z hI_S7 rfl] at z)
          exact z
        have b27 := i_bd v10
        have f28 := zG_s hI (0) (100) (c := 64) (k := 1) (by decide)
        have q29 : (mI S1 64 1).toInt = (mI S 64 1).toInt := zG_zi (f := mI S) hL_S1 rfl
        have f30 := zG_s hI_S1 (0) (100) (c := 64) (k := 1) (by decide)
        have q31 : (mI S7 64 1).toInt = (mI S1 64 1).toInt := zG_zi (f := mI (ma_put S1 64 11 (.inr (.inr (some 80))))) hL_S7 rfl
        have f32 := zG_s hI_S7 (0) (100) (c := 64) (k := 1) (by decide)
        have q33 : (mI S9 64 1).toInt = (mI S7 64 1).toInt := zG_zi (f := mI S7) hL_S9 rfl
        have f34 := zG_s hI_S9 (0) (100) (c := 64) (k := 1) (by decide)
        exact K (v10) _ (zrp r 80) (Or.inr ⟨80, by decide, rfl⟩) hI_S9 (show (mI S9 64 1).toInt = 0 from by omega) (show v10.toInt = zAns zt zn from by first | (have z := hi4; rw [zFin_0 (by omega)] at z; omega) | (have z := hi4; rw [zFin_2 (by omega)] at z; omega) | (have z := hi4; rw [zFin_3 (by omega)] at z; omega) | (have z := hi4; rw [zFin_6 (by omega)] at z; exact mul_eq2 rp0_S9 rp0_S7.1 rp0_S7.2 (by omega) (by omega) z) | (omega) | (exfalso; omega))
      · skip
        have g35 := i_ne h21
        have li36 : (2 : Int32).toInt = 2 := rfl
        refine zd (fun h37 => ?_) (fun h37 => ?_)
        · skip
          have g38 := i_eq h37
          have hI39 : zA f (zrp r 81) C Z N (ma_put S1 64 11 (.inr (.inr (some 81)))) := zG_pres hI_S1 (by decide)
          have q40 : (mI S1 66 0).toInt = (mI S 66 0).toInt := zG_zi (f := mI S) hL_S1 rfl
          have f41 := zG_a hI_S1 4 (-1) (1500) (c := 66) (k := 0) (by decide) (by decide)
          refine sp_29_81_66_zK81_n  (by omega) (by omega) (zA_dn_zK81 hI39) (show 0 ≤ (mI S1 66 0).toInt ∧ (mI S1 66 0).toInt ≤ 1500 from by omega) (fun S11 hL_S11 hp_S11 rp0_S11 => zv_n ⟨zG_T hL_S11, ?_⟩)
          have hI_S11 := zA_up_zK81 hI39 hL_S11 hp_S11
          have x42 : (0 ≤ (mI S11 81 3).toInt ∧ (mI S11 81 3).toInt ≤ (mI S11 81 2).toInt) ∧ ((mI S11 82 3).toInt ≤ (mI S11 82 7).toInt ∧ (mI S11 82 7).toInt ≤ (mI S11 82 3).toInt + (mI S11 82 2).toInt) := zG_x hI_S11
          have f43 := zG_s hI_S11 (0) (1500) (c := 81) (k := 2) (by decide)
          have rp0_S11 : (mI S11 81 2).toInt = (mI S1 66 0).toInt := by
            have z := rp0_S11
            (try rw [show mI (ma_put S1 64 11 (.inr (.inr (some 81)))) 65 = f 65 from funext (fun k => zG_z hI39 rfl)] at z)
            (try rw [show mI (ma_put S1 64 11 (.inr (.inr (some 81)))) 64 1 = f 64 1 from zG_z hI39 rfl] at z)
            exact z
          refine ⟨((zG_r hI_S11 (by decide)).trans rfl), ?_⟩
          refine sp_30_81_n (g0 := ((mI S11 81 2).toInt)) (by omega) (by omega) (zA_dn_zJ81 hI_S11) (show (mI S11 81 2).toInt = ((mI S11 81 2).toInt) from by omega) (fun v14 S13 hL_S13 hp_v14 rp0_S13 => zi_n ⟨zG_T hL_S13, ?_⟩)
          have hI_S13 := zA_up_zJ81 hI_S11 hL_S13
          have rp0_S13 : v14.toInt = 2 * ((mI S11 81 2).toInt) := by
            have z := rp0_S13
            (try rw [show mI S11 65 = f 65 from funext (fun k => zG_z hI_S11 rfl)] at z)
            (try rw [show mI S11 64 1 = f 64 1 from zG_z hI_S11 rfl] at z)
            exact z
          have b44 := i_bd v14
          have f45 := zG_s hI (0) (100) (c := 64) (k := 1) (by decide)
          have q46 : (mI S1 64 1).toInt = (mI S 64 1).toInt := zG_zi (f := mI S) hL_S1 rfl
          have f47 := zG_s hI_S1 (0) (100) (c := 64) (k := 1) (by decide)
          have q48 : (mI S11 64 1).toInt = (mI S1 64 1).toInt := zG_zi (f := mI (ma_put S1 64 11 (.inr (.inr (some 81))))) hL_S11 rfl
          have f49 := zG_s hI_S11 (0) (100) (c := 64) (k := 1) (by decide)
          have q50 : (mI S13 64 1).toInt = (mI S11 64 1).toInt := zG_zi (f := mI S11) hL_S13 rfl
          have f51 := zG_s hI_S13 (0) (100) (c := 64) (k := 1) (by decide)
          exact K (v14) _ (zrp r 81) (Or.inr ⟨81, by decide, rfl⟩) hI_S13 (show (mI S13 64 1).toInt = 0 from by omega) (show v14.toInt = zAns zt zn from by first | (have z := hi4; rw [zFin_0 (by omega)] at z; omega) | (have z := hi4; rw [zFin_2 (by omega)] at z; omega) | (have z := hi4; rw [zFin_3 (by omega)] at z; omega) | (have z := hi4; rw [zFin_6 (by omega)] at z; exact mul_eq2 rp0_S13 rp0_S11.1 rp0_S11.2 (by omega) (by omega) z) | (omega) | (exfalso; omega))
        · skip
          have g52 := i_ne h37
          have li53 : (3 : Int32).toInt = 3 := rfl
          refine zd (fun h54 => ?_) (fun h54 => ?_)
          · skip
            have g55 := i_eq h54
            have hI56 : zA f (zrp r 82) C Z N (ma_put S1 64 11 (.inr (.inr (some 82)))) := zG_pres hI_S1 (by decide)
            have q57 : (mI S1 66 0).toInt = (mI S 66 0).toInt := zG_zi (f := mI S) hL_S1 rfl
            have f58 := zG_a hI_S1 4 (-1) (1500) (c := 66) (k := 0) (by decide) (by decide)
            have q59 : (mI S1 66 1).toInt = (mI S 66 1).toInt := zG_zi (f := mI S) hL_S1 rfl
            have f60 := zG_a hI_S1 4 (-1) (1500) (c := 66) (k := 1) (by decide) (by decide)
            refine sp_1_82_66_zK82_n  (by omega) (by omega) (zA_dn_zK82 hI56) (show 0 ≤ (mI S1 66 0).toInt ∧ (mI S1 66 0).toInt ≤ 1500 ∧ 0 ≤ (mI S1 66 1).toInt ∧ (mI S1 66 1).toInt ≤ 1500 from by omega) (fun S15 hL_S15 hp_S15 rp0_S15 => zv_n ⟨zG_T hL_S15, ?_⟩)
            have hI_S15 := zA_up_zK82 hI56 hL_S15 hp_S15
            have x61 : (0 ≤ (mI S15 81 3).toInt ∧ (mI S15 81 3).toInt ≤ (mI S15 81 2).toInt) ∧ ((mI S15 82 3).toInt ≤ (mI S15 82 7).toInt ∧ (mI S15 82 7).toInt ≤ (mI S15 82 3).toInt + (mI S15 82 2).toInt) := zG_x hI_S15
            have f62 := zG_s hI_S15 (0) (1500) (c := 82) (k := 2) (by decide)
            have f63 := zG_s hI_S15 (0) (1500) (c := 82) (k := 3) (by decide)
            have rp0_S15 : (mI S15 82 2).toInt = (mI S1 66 0).toInt ∧ (mI S15 82 3).toInt = (mI S1 66 1).toInt := by
              have z := rp0_S15
              (try rw [show mI (ma_put S1 64 11 (.inr (.inr (some 82)))) 65 = f 65 from funext (fun k => zG_z hI56 rfl)] at z)
              (try rw [show mI (ma_put S1 64 11 (.inr (.inr (some 82)))) 64 1 = f 64 1 from zG_z hI56 rfl] at z)
              exact z
            refine ⟨((zG_r hI_S15 (by decide)).trans rfl), ?_⟩
            refine sp_2_82_n (g0 := ((mI S15 82 2).toInt)) (g1 := ((mI S15 82 3).toInt)) (by omega) (by omega) (zA_dn_zJ82 hI_S15) (show (mI S15 82 2).toInt = ((mI S15 82 2).toInt) from by omega) (show (mI S15 82 3).toInt = ((mI S15 82 3).toInt) from by omega) (fun v18 S17 hL_S17 hp_v18 rp0_S17 => zi_n ⟨zG_T hL_S17, ?_⟩)
            have hI_S17 := zA_up_zJ82 hI_S15 hL_S17
            have rp0_S17 : v18.toInt = ((mI S15 82 3).toInt) + 2 * ((mI S15 82 2).toInt) := by
              have z := rp0_S17
              (try rw [show mI S15 65 = f 65 from funext (fun k => zG_z hI_S15 rfl)] at z)
              (try rw [show mI S15 64 1 = f 64 1 from zG_z hI_S15 rfl] at z)
              exact z
            have b64 := i_bd v18
            have f65 := zG_s hI (0) (100) (c := 64) (k := 1) (by decide)
            have q66 : (mI S1 64 1).toInt = (mI S 64 1).toInt := zG_zi (f := mI S) hL_S1 rfl
            have f67 := zG_s hI_S1 (0) (100) (c := 64) (k := 1) (by decide)
            have q68 : (mI S15 64 1).toInt = (mI S1 64 1).toInt := zG_zi (f := mI (ma_put S1 64 11 (.inr (.inr (some 82))))) hL_S15 rfl
            have f69 := zG_s hI_S15 (0) (100) (c := 64) (k := 1) (by decide)
            have q70 : (mI S17 64 1).toInt = (mI S15 64 1).toInt := zG_zi (f := mI S15) hL_S17 rfl
            have f71 := zG_s hI_S17 (0) (100) (c := 64) (k := 1) (by decide)
            exact K (v18) _ (zrp r 82) (Or.inr ⟨82, by decide, rfl⟩) hI_S17 (show (mI S17 64 1).toInt = 0 from by omega) (show v18.toInt = zAns zt zn from by first | (have z := hi4; rw [zFin_0 (by omega)] at z; omega) | (have z := hi4; rw [zFin_2 (by omega)] at z; omega) | (have z := hi4; rw [zFin_3 (by omega)] at z; omega) | (have z := hi4; rw [zFin_6 (by omega)] at z; exact mul_eq2 rp0_S17 rp0_S15.1 rp0_S15.2 (by omega) (by omega) z) | (omega) | (exfalso; omega))
          · skip
            have g72 := i_ne h54
            have li73 : (4 : Int32).toInt = 4 := rfl
            refine zd (fun h74 => ?_) (fun h74 => ?_)
            · skip
              have g75 := i_eq h74
              have hI76 : zA f (zrp r 84) C Z N (ma_put S1 64 11 (.inr (.inr (some 84)))) := zG_pres hI_S1 (by decide)
              have q77 : (mI S1 66 0).toInt = (mI S 66 0).toInt := zG_zi (f := mI S) hL_S1 rfl
              have f78 := zG_a hI_S1 4 (-1) (1500) (c := 66) (k := 0) (by decide) (by decide)
              refine sp_100_84_66_n  (by omega) (by omega) (zA_dn_zJ84 hI76) (show 0 ≤ (mI S1 66 0).toInt ∧ (mI S1 66 0).toInt ≤ 1500 from by omega) (fun S19 hL_S19 rp0_S19 => zv_n ⟨zG_T hL_S19, ?_⟩)
              have hI_S19 := zA_up_zJ84 hI76 hL_S19
              have f79 := zG_s hI_S19 (0) (1500) (c := 84) (k := 0) (by decide)
              have rp0_S19 : (mI S19 84 0).toInt = (mI S1 66 0).toInt := by
                have z := rp0_S19
                (try rw [show mI (ma_put S1 64 11 (.inr (.inr (some 84)))) 65 = f 65 from funext (fun k => zG_z hI76 rfl)] at z)
                (try rw [show mI (ma_put S1 64 11 (.inr (.inr (some 84)))) 64 1 = f 64 1 from zG_z hI76 rfl] at z)
                exact z
              refine ⟨((zG_r hI_S19 (by decide)).trans rfl), ?_⟩
              refine sp_101_84_n (g0 := ((mI S19 84 0).toInt)) (by omega) (by omega) (zA_dn_zJ84 hI_S19) (show (mI S19 84 0).toInt = ((mI S19 84 0).toInt) from by omega) (fun v22 S21 hL_S21 hp_v22 rp0_S21 => zi_n ⟨zG_T hL_S21, ?_⟩)
              have hI_S21 := zA_up_zJ84 hI_S19 hL_S21
              have rp0_S21 : v22.toInt = ((mI S19 84 0).toInt) := by
                have z := rp0_S21
                (try rw [show mI S19 65 = f 65 from funext (fun k => zG_z hI_S19 rfl)] at z)
                (try rw [show mI S19 64 1 = f 64 1 from zG_z hI_S19 rfl] at z)
                exact z
              have b80 := i_bd v22
              have f81 := zG_s hI (0) (100) (c := 64) (k := 1) (by decide)
              have q82 : (mI S1 64 1).toInt = (mI S 64 1).toInt := zG_zi (f := mI S) hL_S1 rfl
              have f83 := zG_s hI_S1 (0) (100) (c := 64) (k := 1) (by decide)
              have q84 : (mI S19 64 1).toInt = (mI S1 64 1).toInt := zG_zi (f := mI (ma_put S1 64 11 (.inr (.inr (some 84))))) hL_S19 rfl
              have f85 := zG_s hI_S19 (0) (100) (c := 64) (k := 1) (by decide)
              have q86 : (mI S21 64 1).toInt = (mI S19 64 1).toInt := zG_zi (f := mI S19) hL_S21 rfl
              have f87 := zG_s hI_S21 (0) (100) (c := 64) (k := 1) (by decide)
              exact K (v22) _ (zrp r 84) (Or.inr ⟨84, by decide, rfl⟩) hI_S21 (show (mI S21 64 1).toInt = 0 from by omega) (show v22.toInt = zAns zt zn from by first | (have z := hi4; rw [zFin_0 (by omega)] at z; omega) | (have z := hi4; rw [zFin_2 (by omega)] at z; omega) | (have z := hi4; rw [zFin_3 (by omega)] at z; omega) | (have z := hi4; rw [zFin_6 (by omega)] at z; exact mul_eq2 rp0_S21 rp0_S19.1 rp0_S19.2 (by omega) (by omega) z) | (omega) | (exfalso; omega))
            · skip
              have g88 := i_ne h74
              have li89 : (5 : Int32).toInt = 5 := rfl
              refine zd (fun h90 => ?_) (fun h90 => ?_)
              · skip
                have g91 := i_eq h90
                have hI92 : zA f (zrp r 87) C Z N (ma_put S1 64 11 (.inr (.inr (some 87)))) := zG_pres hI_S1 (by decide)
                have q93 : (mI S1 66 0).toInt = (mI S 66 0).toInt := zG_zi (f := mI S) hL_S1 rfl
                have f94 := zG_a hI_S1 4 (-1) (1500) (c := 66) (k := 0) (by decide) (by decide)
                have f95 := zG_a hI 4 (-1) (1500) (c := 66) (k := 2) (by decide) (by decide)
                have q96 : (mI S1 66 2).toInt = (mI S 66 2).toInt := zG_zi (f := mI S) hL_S1 rfl
                have f97 := zG_a hI_S1 4 (-1) (1500) (c := 66) (k := 2) (by decide) (by decide)
                refine sp_66_87_66_n  (by omega) (by omega) (zA_dn_zJ87 hI92) (show 0 ≤ (mI S1 66 0).toInt ∧ (mI S1 66 0).toInt ≤ 1500 ∧ -1 ≤ (mI S1 66 2).toInt ∧ (mI S1 66 2).toInt ≤ 1500 from by omega) (fun S23 hL_S23 rp0_S23 => zv_n ⟨zG_T hL_S23, ?_⟩)
                have hI_S23 := zA_up_zJ87 hI92 hL_S23
                have f98 := zG_s hI_S23 (0) (1500) (c := 87) (k := 0) (by decide)
                have rp0_S23 : (mI S23 87 0).toInt = (mI S1 66 0).toInt := by
                  have z := rp0_S23
                  (try rw [show mI (ma_put S1 64 11 (.inr (.inr (some 87)))) 65 = f 65 from funext (fun k => zG_z hI92 rfl)] at z)
                  (try rw [show mI (ma_put S1 64 11 (.inr (.inr (some 87)))) 64 1 = f 64 1 from zG_z hI92 rfl] at z)
                  exact z
                refine ⟨((zG_r hI_S23 (by decide)).trans rfl), ?_⟩
                refine sp_101_87_n (g0 := ((mI S23 87 0).toInt)) (by omega) (by omega) (zA_dn_zJ87 hI_S23) (show (mI S23 87 0).toInt = ((mI S23 87 0).toInt) from by omega) (fun v26 S25 hL_S25 hp_v26 rp0_S25 => zi_n ⟨zG_T hL_S25, ?_⟩)
                have hI_S25 := zA_up_zJ87 hI_S23 hL_S25
                have rp0_S25 : v26.toInt = ((mI S23 87 0).toInt) := by
                  have z := rp0_S25
                  (try rw [show mI S23 65 = f 65 from funext (fun k => zG_z hI_S23 rfl)] at z)
                  (try rw [show mI S23 64 1 = f 64 1 from zG_z hI_S23 rfl] at z)
                  exact z
                have b99 := i_bd v26
                have f100 := zG_s hI (0) (100) (c := 64) (k := 1) (by decide)
                have q101 : (mI S1 64 1).toInt = (mI S 64 1).toInt := zG_zi (f := mI S) hL_S1 rfl
                have f102 := zG_s hI_S1 (0) (100) (c := 64) (k := 1) (by decide)
                have q103 : (mI S23 64 1).toInt = (mI S1 64 1).toInt := zG_zi (f := mI (ma_put S1 64 11 (.inr (.inr (some 87))))) hL_S23 rfl
                have f104 := zG_s hI_S23 (0) (100) (c := 64) (k := 1) (by decide)
                have q105 : (mI S25 64 1).toInt = (mI S23 64 1).toInt := zG_zi (f := mI S23) hL_S25 rfl
                have f106 := zG_s hI_S25 (0) (100) (c := 64) (k := 1) (by decide)
                exact K (v26) _ (zrp r 87) (Or.inr ⟨87, by decide, rfl⟩) hI_S25 (show (mI S25 64 1).toInt = 0 from by omega) (show v26.toInt = zAns zt zn from by first | (have z := hi4; rw [zFin_0 (by omega)] at z; omega) | (have z := hi4; rw [zFin_2 (by omega)] at z; omega) | (have z := hi4; rw [zFin_3 (by omega)] at z; omega) | (have z := hi4; rw [zFin_6 (by omega)] at z; exact mul_eq2 rp0_S25 rp0_S23.1 rp0_S23.2 (by omega) (by omega) z) | (omega) | (exfalso; omega))
              · skip
                have g107 := i_ne h90
                have li108 : (6 : Int32).toInt = 6 := rfl
                refine zd (fun h109 => ?_) (fun h109 => ?_)
                · skip
                  have g110 := i_eq h109
                  have hI111 : zA f (zrp r 91) C Z N (ma_put S1 64 11 (.inr (.inr (some 91)))) := zG_pres hI_S1 (by decide)
                  have q112 : (mI S1 66 0).toInt = (mI S 66 0).toInt := zG_zi (f := mI S) hL_S1 rfl
                  have f113 := zG_a hI_S1 4 (-1) (1500) (c := 66) (k := 0) (by decide) (by decide)
                  have q114 : (mI S1 66 1).toInt = (mI S 66 1).toInt := zG_zi (f := mI S) hL_S1 rfl
                  have f115 := zG_a hI_S1 4 (-1) (1500) (c := 66) (k := 1) (by decide) (by decide)
                  refine sp_38_91_66_n  (by omega) (by omega) (zA_dn_zL91 hI111) (show 0 ≤ (mI S1 66 0).toInt ∧ (mI S1 66 0).toInt ≤ 1500 ∧ 16 ≤ (mI S1 66 1).toInt ∧ (mI S1 66 1).toInt ≤ 1500 from by omega) (fun S27 hL_S27 rp0_S27 => zv_n ⟨zG_T hL_S27, ?_⟩)
                  have hI_S27 := zA_up_zL91 hI111 hL_S27
                  have f116 := zG_s hI_S27 (0) (93) (c := 91) (k := 3) (by decide)
                  have f117 := zG_s hI_S27 (0) (1500) (c := 91) (k := 2) (by decide)
                  have rp0_S27 : (mI S27 91 3).toInt = (mI S1 66 0).toInt / (mI S1 66 1).toInt ∧ (mI S27 91 2).toInt = (mI S1 66 1).toInt := by
                    have z := rp0_S27
                    (try rw [show mI (ma_put S1 64 11 (.inr (.inr (some 91)))) 65 = f 65 from funext (fun k => zG_z hI111 rfl)] at z)
                    (try rw [show mI (ma_put S1 64 11 (.inr (.inr (some 91)))) 64 1 = f 64 1 from zG_z hI111 rfl] at z)
                    exact z
                  refine ⟨((zG_r hI_S27 (by decide)).trans rfl), ?_⟩
                  refine sp_39_91_n (g0 := ((mI S27 91 3).toInt)) (g1 := ((mI S27 91 2).toInt)) (by omega) (by omega) (zA_dn_zL91 hI_S27) (show (mI S27 91 3).toInt = ((mI S27 91 3).toInt) from by omega) (show (mI S27 91 2).toInt = ((mI S27 91 2).toInt) from by omega) (fun v30 S29 hL_S29 hp_v30 rp0_S29 => zi_n ⟨zG_T hL_S29, ?_⟩)
                  have hI_S29 := zA_up_zL91 hI_S27 hL_S29
                  have rp0_S29 : v30.toInt = ((mI S27 91 3).toInt) * ((mI S27 91 2).toInt) := by
                    have z := rp0_S29
                    (try rw [show mI S27 65 = f 65 from funext (fun k => zG_z hI_S27 rfl)] at z)
                    (try rw [show mI S27 64 1 = f 64 1 from zG_z hI_S27 rfl] at z)
                    exact z
                  have b118 := i_bd v30
                  have f119 := zG_s hI (0) (100) (c := 64) (k := 1) (by decide)
                  have q120 : (mI S1 64 1).toInt = (mI S 64 1).toInt := zG_zi (f := mI S) hL_S1 rfl
                  have f121 := zG_s hI_S1 (0) (100) (c := 64) (k := 1) (by decide)
                  have q122 : (mI S27 64 1).toInt = (mI S1 64 1).toInt := zG_zi (f := mI (ma_put S1 64 11 (.inr (.inr (some 91))))) hL_S27 rfl
                  have f123 := zG_s hI_S27 (0) (100) (c := 64) (k := 1) (by decide)
                  have q124 : (mI S29 64 1).toInt = (mI S27 64 1).toInt := zG_zi (f := mI S27) hL_S29 rfl
                  have f125 := zG_s hI_S29 (0) (100) (c := 64) (k := 1) (by decide)
                  exact K (v30) _ (zrp r 91) (Or.inr ⟨91, by decide, rfl⟩) hI_S29 (show (mI S29 64 1).toInt = 0 from by omega) (show v30.toInt = zAns zt zn from by first | (have z := hi4; rw [zFin_0 (by omega)] at z; omega) | (have z := hi4; rw [zFin_2 (by omega)] at z; omega) | (have z := hi4; rw [zFin_3 (by omega)] at z; omega) | (have z := hi4; rw [zFin_6 (by omega)] at z; exact mul_eq2 rp0_S29 rp0_S27.1 rp0_S27.2 (by omega) (by omega) z) | (omega) | (exfalso; omega))
                · skip
                  have g126 := i_ne h109
                  exact (by omega : False)
theorem sp_127_64_n {X : Nat × (Nat → Int32)} {d w : Nat} {f : Nat → Nat → Int32} {r : Nat → Nat → Option Nat} {C Z N : Nat} {Q : Option ma_V ⊕ Nat → ma_S → Prop} {zt : Nat→Int32} {zn : Int} {S : ma_S}  (hd : 9 ≤ d) (hw : 186 ≤ w) (hI : zA f r C Z N S) (hpre0 : (mI S 65) = zt) (hpre1 : (mI S 64 1).toInt = zn) (K : ∀ v S' r', (r' = r ∨ ∃ p, p ∈ zcl7 ∧ r' = zrp r p) → zA f r' C Z N S' → ((mI S' 64 1).toInt = 0) → (v.toInt = zAns zt zn) → Q (.inl (some (.inl v))) S') : ma_wp X d w 127 0 [(0, .inr (.inr (some 64)))] [] S Q := by
  refine g_127_64_n_0  (by omega) (by omega) (zG_T hI) ?_
  refine sp_128_64_n  (by omega) (by omega) (zA_dn_zR hI)  (fun v2 S1 hL_S1 hp_v2 rp0_S1 => zi_n ⟨zG_T hL_S1, ?_⟩)
  have hI_S1 := zA_up_zR hI hL_S1
  have f1 := zG_s hI_S1 (0) (100) (c := 64) (k := 2) (by decide)
  have f2 := zG_s hI (0) (100) (c := 64) (k := 1) (by decide)
  have f3 := zG_a hI_S1 4 (-1) (1500) (c := 66) (k := 0) (by decide) (by decide)
  have f4 := zG_a hI_S1 4 (-1) (1500) (c := 66) (k := 1) (by decide) (by decide)
  have rp0_S1 : (v2.toInt = -1 ∧ -1 - (mI S1 64 2).toInt = zAns (mI S 65) (mI S 64 1).toInt) ∨ (v2.toInt ≠ -1 ∧ zFin v2.toInt (mI S1 66 0).toInt (mI S1 66 1).toInt = zAns (mI S 65) (mI S 64 1).toInt) := by
    have z := rp0_S1
    (try rw [show mI S 65 = f 65 from funext (fun k => zG_z hI rfl)] at z)
    (try rw [show mI S 64 1 = f 64 1 from zG_z hI rfl] at z)
    exact z
  have b5 := i_bd v2
  have li6 : (0 : Int32).toInt = 0 := rfl
  refine zd (fun h7 => ?_) (fun h7 => ?_)
  · skip
    have g8 := i_lt h7
    have hI9 : zA f r C Z N (ma_put S1 64 1 (.inl (0 : Int32))) := zG_sp hI_S1 (0) (100) rfl (by decide) (by decide) (by decide) (show zA_x (mI S1) from zG_x hI_S1) (by omega) (by omega)
    have li10 : (-1 : Int32).toInt = -1 := rfl
    first | have e11 : ((-1 : Int32) - (mI S1 64 2)).toInt = (-1 : Int32).toInt - (mI S1 64 2).toInt := i_sub (by omega) (by omega) | have b12 := i_bd ((-1 : Int32) - (mI S1 64 2))
    exact K (((-1 : Int32) - (mI S1 64 2))) _ r (Or.inl rfl) hI9 (show (0 : Int32).toInt = 0 from by omega) (show ((-1 : Int32) - (mI S1 64 2)).toInt = zAns zt zn from by first | (exact hp_bad (by have z := rp0_S1; rw [hpre0, hpre1] at z; exact z) (hp_neg hp_v2 (by first | exact Or.inl (by assumption) | omega)) (zG_s hI_S1 (0) (100) (c := 64) (k := 2) (by decide)).1 (zG_s hI_S1 (0) (100) (c := 64) (k := 2) (by decide)).2) | (omega) | (exfalso; omega))
  · skip
    have g13 := i_nlt h7
    have li14 : (7 : Int32).toInt = 7 := rfl
    refine zd (fun h15 => ?_) (fun h15 => ?_)
    · skip
      have g16 := i_lt h15
      have hI17 : zA f r C Z N (ma_put S1 64 1 (.inl (0 : Int32))) := zG_sp hI_S1 (0) (100) rfl (by decide) (by decide) (by decide) (show zA_x (mI S1) from zG_x hI_S1) (by omega) (by omega)
      exact lp_127_64_n_30 (by omega) (by omega) K _ _ (v2) rfl hI17 (by omega) (by omega) (show 0 ≤ (mI S1 66 0).toInt ∧ ((v2).toInt = 3 → 0 ≤ (mI S1 66 1).toInt) ∧ ((v2).toInt = 6 → 16 ≤ (mI S1 66 1).toInt) from by omega) (show (0 : Int32).toInt = 0 from by omega) (show zFin (v2).toInt (mI S1 66 0).toInt (mI S1 66 1).toInt = zAns zt zn from by first | (exact hp_good (by have z := rp0_S1; rw [hpre0, hpre1] at z; exact z) (by omega)) | (omega) | (exfalso; omega))
    · skip
      have g18 := i_nlt h15
      have hI19 : zA f r C Z N (ma_put S1 64 1 (.inl (0 : Int32))) := zG_sp hI_S1 (0) (100) rfl (by decide) (by decide) (by decide) (show zA_x (mI S1) from zG_x hI_S1) (by omega) (by omega)
      have li20 : (-1 : Int32).toInt = -1 := rfl
      first | have e21 : ((-1 : Int32) - (mI S1 64 2)).toInt = (-1 : Int32).toInt - (mI S1 64 2).toInt := i_sub (by omega) (by omega) | have b22 := i_bd ((-1 : Int32) - (mI S1 64 2))
      exact K (((-1 : Int32) - (mI S1 64 2))) _ r (Or.inl rfl) hI19 (show (0 : Int32).toInt = 0 from by omega) (show ((-1 : Int32) - (mI S1 64 2)).toInt = zAns zt zn from by first | (exact hp_bad (by have z := rp0_S1; rw [hpre0, hpre1] at z; exact z) (hp_neg hp_v2 (by first | exact Or.inl (by assumption) | omega)) (zG_s hI_S1 (0) (100) (c := 64) (k := 2) (by decide)).1 (zG_s hI_S1 (0) (100) (c := 64) (k := 2) (by decide)).2) | (omega) | (exfalso; omega))
