/-! the class behind (written by wip/tools/gen95c.py) -/
theorem g_127_64_0 {X : Nat × (Nat → Int32)} {d w : Nat} {S : ma_S} {Q : Option ma_V ⊕ Nat → ma_S → Prop}  (hd : 9 ≤ d) (hw : 186 ≤ w) (hS : zT S) (h : ma_wp X (d - 1) (w - 23) 128 0 [(0, .inr (.inr (some 64)))] [] S (zi (fun v2 S1 => zT S1 ∧ (if v2 < 0 then (Q (.inl (some (.inl ((-1 : Int32) - (mI S1 64 2))))) (ma_put S1 64 1 (.inl (0 : Int32)))) else (if v2 < (7 : Int32) then (ma_wp X d w 127 30 [(0, .inr (.inr (some 64))), (1, .inl v2)] [] (ma_put S1 64 1 (.inl (0 : Int32))) Q) else (Q (.inl (some (.inl ((-1 : Int32) - (mI S1 64 2))))) (ma_put S1 64 1 (.inl (0 : Int32))))))) (fun x S9 => Q (.inr x) S9))) : ma_wp X d w 127 0 [(0, .inr (.inr (some 64)))] [] S Q := by
  refine zw_push hm_127 dX11_heap_0 (v := .inr (.inr (some 64))) rfl ?_
  refine zw_cv hm_127 dX11_heap_1 v_11_88_11 hm_128 [] [] rfl (zT_rt hS s_64 rfl) ⟨by omega, by omega⟩ rfl (zw_mono h (zi_go ?_ ?_))
  · intro v2 S1 hv
    obtain ⟨hS1, h⟩ := hv
    refine zw_sto hm_127 dX11_heap_4 [(1, .inl v2), (0, .inr (.inr (some 64)))] rfl rfl rfl ?_
    refine zw_push hm_127 dX11_heap_5 (v := .inr (.inr (some 64))) rfl ?_
    refine zw_push hm_127 dX11_heap_6 (v := .inl (0 : Int32)) rfl ?_
    refine zw_pf hm_127 dX11_heap_7 (zT_is hS1 s_64) (zT_t hS1 s_64) p_11_68_11 zk_int ?_
    refine zw_push hm_127 dX11_heap_10 (v := .inl v2) rfl ?_
    refine zw_if0 hm_127 dX11_heap_11 (t := 23) rfl zc0_lt ?_ ?_
    · intro hc
      rw [if_pos hc] at h
      refine zw_push hm_127 dX11_heap_23 (v := .inl (-1 : Int32)) rfl ?_
      refine zw_push hm_127 dX11_heap_24 (v := .inr (.inr (some 64))) rfl ?_
      refine zw_gf hm_127 dX11_heap_25 (v := .inl (mI S1 64 2)) (zT_is (zT_pi hS1) s_64) (zT_t (zT_pi hS1) s_64) rfl f_11_92_11 rfl ?_
      refine zw_stk hm_127 dX11_heap_28 (st' := [.inl ((-1 : Int32) - (mI S1 64 2))]) rfl rfl ?_
      exact zw_iret hm_127 dX11_heap_29 h
    · intro hc
      rw [if_neg hc] at h
      refine zw_push hm_127 dX11_heap_14 (v := .inl v2) rfl ?_
      refine zw_push hm_127 dX11_heap_15 (v := .inr (.inr (some 64))) rfl ?_
      refine zw_gf hm_127 dX11_heap_16 (v := .inr (.inr (some 78))) (zT_is (zT_pi hS1) s_64) (zT_t (zT_pi hS1) s_64) rfl f_11_64_11 (zT_f (zT_pi hS1) r_64_10) ?_
      refine zw_len hm_127 dX11_heap_19 (v := (7 : Int32)) (zT_is (zT_pi hS1) s_78) (zT_h (zT_pi hS1) s_78) rfl rfl ?_
      refine zw_if2 hm_127 dX11_heap_20 (t := 30) rfl zc2_lt ?_ ?_
      · intro hc
        rw [if_pos hc] at h
        exact zw_sub (ma_nd_of (ks := [0, 1]) rfl (by decide)) (ma_nd_of (ks := [1, 0]) rfl (by decide)) (ma_le_cons rfl (ma_le_cons rfl (ma_le_nil _))) h
      · intro hc
        rw [if_neg hc] at h
        refine zw_push hm_127 dX11_heap_23 (v := .inl (-1 : Int32)) rfl ?_
        refine zw_push hm_127 dX11_heap_24 (v := .inr (.inr (some 64))) rfl ?_
        refine zw_gf hm_127 dX11_heap_25 (v := .inl (mI S1 64 2)) (zT_is (zT_pi hS1) s_64) (zT_t (zT_pi hS1) s_64) rfl f_11_92_11 rfl ?_
        refine zw_stk hm_127 dX11_heap_28 (st' := [.inl ((-1 : Int32) - (mI S1 64 2))]) rfl rfl ?_
        exact zw_iret hm_127 dX11_heap_29 h
  · intro x S9 hx
    exact ⟨by decide, hx⟩
theorem g_127_64_30 {X : Nat × (Nat → Int32)} {d w : Nat} {S : ma_S} {Q : Option ma_V ⊕ Nat → ma_S → Prop} (l1 : Int32) (hd : 9 ≤ d) (hw : 186 ≤ w) (hS : zT S) (h : ma_wp X (d - 1) (w - 21) 80 0 [(0, .inr (.inr (some 69)))] [] S (zv (fun S1 => zT S1 ∧ (if l1 = (0 : Int32) then (ma_wp X (d - 1) (w - 21) 100 0 [(0, .inr (.inr (some 79))), (1, .inr (.inr (some 66)))] [] (ma_put S1 64 11 (.inr (.inr (some 79)))) (zv (fun S3 => zT S3 ∧ (mR S3 64 11 = some 79 ∧ (ma_wp X (d - 1) (w - 20) 101 0 [(0, .inr (.inr (some 79)))] [] S3 (zi (fun v6 S5 => zT S5 ∧ (Q (.inl (some (.inl v6))) S5)) (fun _ _ => False))))) (fun _ _ => False))) else (if l1 = (1 : Int32) then (ma_wp X (d - 1) (w - 21) 59 0 [(0, .inr (.inr (some 80))), (1, .inr (.inr (some 66)))] [] (ma_put S1 64 11 (.inr (.inr (some 80)))) (zv (fun S7 => zT S7 ∧ (mR S7 64 11 = some 80 ∧ (ma_wp X (d - 1) (w - 20) 60 0 [(0, .inr (.inr (some 80)))] [] S7 (zi (fun v10 S9 => zT S9 ∧ (Q (.inl (some (.inl v10))) S9)) (fun _ _ => False))))) (fun _ _ => False))) else (if l1 = (2 : Int32) then (ma_wp X (d - 1) (w - 21) 29 0 [(0, .inr (.inr (some 81))), (1, .inr (.inr (some 66)))] [] (ma_put S1 64 11 (.inr (.inr (some 81)))) (zv (fun S11 => zT S11 ∧ (mR S11 64 11 = some 81 ∧ (ma_wp X (d - 1) (w - 20) 30 0 [(0, .inr (.inr (some 81)))] [] S11 (zi (fun v14 S13 => zT S13 ∧ (Q (.inl (some (.inl v14))) S13)) (fun _ _ => False))))) (fun _ _ => False))) else (if l1 = (3 : Int32) then (ma_wp X (d - 1) (w - 21) 1 0 [(0, .inr (.inr (some 82))), (1, .inr (.inr (some 66)))] [] (ma_put S1 64 11 (.inr (.inr (some 82)))) (zv (fun S15 => zT S15 ∧ (mR S15 64 11 = some 82 ∧ (ma_wp X (d - 1) (w - 20) 2 0 [(0, .inr (.inr (some 82)))] [] S15 (zi (fun v18 S17 => zT S17 ∧ (Q (.inl (some (.inl v18))) S17)) (fun _ _ => False))))) (fun _ _ => False))) else (if l1 = (4 : Int32) then (ma_wp X (d - 1) (w - 21) 100 0 [(0, .inr (.inr (some 84))), (1, .inr (.inr (some 66)))] [] (ma_put S1 64 11 (.inr (.inr (some 84)))) (zv (fun S19 => zT S19 ∧ (mR S19 64 11 = some 84 ∧ (ma_wp X (d - 1) (w - 20) 101 0 [(0, .inr (.inr (some 84)))] [] S19 (zi (fun v22 S21 => zT S21 ∧ (Q (.inl (some (.inl v22))) S21)) (fun _ _ => False))))) (fun _ _ => False))) else (if l1 = (5 : Int32) then (ma_wp X (d - 1) (w - 21) 66 0 [(0, .inr (.inr (some 87))), (1, .inr (.inr (some 66)))] [] (ma_put S1 64 11 (.inr (.inr (some 87)))) (zv (fun S23 => zT S23 ∧ (mR S23 64 11 = some 87 ∧ (ma_wp X (d - 1) (w - 20) 101 0 [(0, .inr (.inr (some 87)))] [] S23 (zi (fun v26 S25 => zT S25 ∧ (Q (.inl (some (.inl v26))) S25)) (fun _ _ => False))))) (fun _ _ => False))) else (if l1 = (6 : Int32) then (ma_wp X (d - 1) (w - 21) 38 0 [(0, .inr (.inr (some 91))), (1, .inr (.inr (some 66)))] [] (ma_put S1 64 11 (.inr (.inr (some 91)))) (zv (fun S27 => zT S27 ∧ (mR S27 64 11 = some 91 ∧ (ma_wp X (d - 1) (w - 20) 39 0 [(0, .inr (.inr (some 91)))] [] S27 (zi (fun v30 S29 => zT S29 ∧ (Q (.inl (some (.inl v30))) S29)) (fun _ _ => False))))) (fun _ _ => False))) else (False))))))))) (fun x S9 => Q (.inr x) S9))) : ma_wp X d w 127 30 [(0, .inr (.inr (some 64))), (1, .inl l1)] [] S Q := by
  refine zw_push hm_127 dX11_heap_30 (v := .inr (.inr (some 64))) rfl ?_
  refine zw_gf hm_127 dX11_heap_31 (v := .inr (.inr (some 69))) (zT_is hS s_64) (zT_t hS s_64) rfl f_11_26_11 (zT_f hS r_64_8) ?_
  refine zw_cv hm_127 dX11_heap_34 v_11_95_7 hm_80 [] [] rfl (zT_rt hS s_69 rfl) ⟨by omega, by omega⟩ rfl (zw_mono h (zv_go ?_ ?_))
  · intro S1 hv
    obtain ⟨hS1, h⟩ := hv
    refine zw_push hm_127 dX11_heap_37 (v := .inr (.inr (some 64))) rfl ?_
    refine zw_push hm_127 dX11_heap_38 (v := .inr (.inr (some 64))) rfl ?_
    refine zw_gf hm_127 dX11_heap_39 (v := .inr (.inr (some 78))) (zT_is hS1 s_64) (zT_t hS1 s_64) rfl f_11_64_11 (zT_f hS1 r_64_10) ?_
    refine zw_push hm_127 dX11_heap_42 (v := .inl l1) rfl ?_
    by_cases hc0 : l1 = (0 : Int32)
    · rw [if_pos hc0] at h
      have h9 := h
      subst hc0
      have h := h9
      refine zw_aa hm_127 dX11_heap_43 (zT_is hS1 s_78) (zT_h hS1 s_78) rfl rfl ⟨by decide, by decide⟩ (zT_r hS1 r_78_0) ?_
      show ma_wp X d w 127 44 [(0, .inr (.inr (some 64))), (1, .inl (0 : Int32))] [.inr (.inr (some 79)), .inr (.inr (some 64))] S1 _
      refine zw_pf hm_127 dX11_heap_44 (zT_is hS1 s_64) (zT_t hS1 s_64) p_11_98_11 rfl ?_
      refine zw_push hm_127 dX11_heap_47 (v := .inr (.inr (some 64))) rfl ?_
      refine zw_gf hm_127 dX11_heap_48 (v := .inr (.inr (some 79))) (zT_is (zT_pr hS1 rfl) s_64) (zT_t (zT_pr hS1 rfl) s_64) rfl f_11_98_11 rfl ?_
      refine zw_push hm_127 dX11_heap_51 (v := .inr (.inr (some 64))) rfl ?_
      refine zw_gf hm_127 dX11_heap_52 (v := .inr (.inr (some 66))) (zT_is (zT_pr hS1 rfl) s_64) (zT_t (zT_pr hS1 rfl) s_64) rfl f_11_13_11 (zT_f (zT_pr hS1 rfl) r_64_4) ?_
      refine zw_cv hm_127 dX11_heap_55 v_11_102_8 hm_100 [.inr (.inr (some 66))] [] rfl (zT_rt (zT_pr hS1 rfl) s_79 rfl) ⟨by omega, by omega⟩ rfl (zw_mono h (zv_go ?_ ?_))
      · intro S3 hv
        obtain ⟨hS3, h⟩ := hv
        refine zw_push hm_127 dX11_heap_58 (v := .inr (.inr (some 64))) rfl ?_
        obtain ⟨hg, h⟩ := h
        refine zw_gf hm_127 dX11_heap_59 (v := .inr (.inr (some 79))) (zT_is hS3 s_64) (zT_t hS3 s_64) rfl f_11_98_11 (congrArg (fun z => Sum.inr (Sum.inr z)) hg) ?_
        refine zw_cv hm_127 dX11_heap_62 v_11_106_8 hm_101 [] [] rfl (zT_rt hS3 s_79 rfl) ⟨by omega, by omega⟩ rfl (zw_mono h (zi_go ?_ ?_))
        · intro v6 S5 hv
          obtain ⟨hS5, h⟩ := hv
          exact zw_iret hm_127 dX11_heap_65 h
        · intro x S9 hx
          exact hx.elim
      · intro x S9 hx
        exact hx.elim
    rw [if_neg hc0] at h
    by_cases hc1 : l1 = (1 : Int32)
    · rw [if_pos hc1] at h
      have h9 := h
      subst hc1
      have h := h9
      refine zw_aa hm_127 dX11_heap_43 (zT_is hS1 s_78) (zT_h hS1 s_78) rfl rfl ⟨by decide, by decide⟩ (zT_r hS1 r_78_1) ?_
      show ma_wp X d w 127 44 [(0, .inr (.inr (some 64))), (1, .inl (1 : Int32))] [.inr (.inr (some 80)), .inr (.inr (some 64))] S1 _
      refine zw_pf hm_127 dX11_heap_44 (zT_is hS1 s_64) (zT_t hS1 s_64) p_11_98_11 rfl ?_
      refine zw_push hm_127 dX11_heap_47 (v := .inr (.inr (some 64))) rfl ?_
      refine zw_gf hm_127 dX11_heap_48 (v := .inr (.inr (some 80))) (zT_is (zT_pr hS1 rfl) s_64) (zT_t (zT_pr hS1 rfl) s_64) rfl f_11_98_11 rfl ?_
      refine zw_push hm_127 dX11_heap_51 (v := .inr (.inr (some 64))) rfl ?_
      refine zw_gf hm_127 dX11_heap_52 (v := .inr (.inr (some 66))) (zT_is (zT_pr hS1 rfl) s_64) (zT_t (zT_pr hS1 rfl) s_64) rfl f_11_13_11 (zT_f (zT_pr hS1 rfl) r_64_4) ?_
      refine zw_cv hm_127 dX11_heap_55 v_11_102_5 hm_59 [.inr (.inr (some 66))] [] rfl (zT_rt (zT_pr hS1 rfl) s_80 rfl) ⟨by omega, by omega⟩ rfl (zw_mono h (zv_go ?_ ?_))
      · intro S7 hv
        obtain ⟨hS7, h⟩ := hv
        refine zw_push hm_127 dX11_heap_58 (v := .inr (.inr (some 64))) rfl ?_
        obtain ⟨hg, h⟩ := h
        refine zw_gf hm_127 dX11_heap_59 (v := .inr (.inr (some 80))) (zT_is hS7 s_64) (zT_t hS7 s_64) rfl f_11_98_11 (congrArg (fun z => Sum.inr (Sum.inr z)) hg) ?_
        refine zw_cv hm_127 dX11_heap_62 v_11_106_5 hm_60 [] [] rfl (zT_rt hS7 s_80 rfl) ⟨by omega, by omega⟩ rfl (zw_mono h (zi_go ?_ ?_))
        · intro v10 S9 hv
          obtain ⟨hS9, h⟩ := hv
          exact zw_iret hm_127 dX11_heap_65 h
        · intro x S9 hx
          exact hx.elim
      · intro x S9 hx
        exact hx.elim
    rw [if_neg hc1] at h
    by_cases hc2 : l1 = (2 : Int32)
    · rw [if_pos hc2] at h
      have h9 := h
      subst hc2
      have h := h9
      refine zw_aa hm_127 dX11_heap_43 (zT_is hS1 s_78) (zT_h hS1 s_78) rfl rfl ⟨by decide, by decide⟩ (zT_r hS1 r_78_2) ?_
      show ma_wp X d w 127 44 [(0, .inr (.inr (some 64))), (1, .inl (2 : Int32))] [.inr (.inr (some 81)), .inr (.inr (some 64))] S1 _
      refine zw_pf hm_127 dX11_heap_44 (zT_is hS1 s_64) (zT_t hS1 s_64) p_11_98_11 rfl ?_
      refine zw_push hm_127 dX11_heap_47 (v := .inr (.inr (some 64))) rfl ?_
      refine zw_gf hm_127 dX11_heap_48 (v := .inr (.inr (some 81))) (zT_is (zT_pr hS1 rfl) s_64) (zT_t (zT_pr hS1 rfl) s_64) rfl f_11_98_11 rfl ?_
      refine zw_push hm_127 dX11_heap_51 (v := .inr (.inr (some 64))) rfl ?_
      refine zw_gf hm_127 dX11_heap_52 (v := .inr (.inr (some 66))) (zT_is (zT_pr hS1 rfl) s_64) (zT_t (zT_pr hS1 rfl) s_64) rfl f_11_13_11 (zT_f (zT_pr hS1 rfl) r_64_4) ?_
      refine zw_cv hm_127 dX11_heap_55 v_11_102_3 hm_29 [.inr (.inr (some 66))] [] rfl (zT_rt (zT_pr hS1 rfl) s_81 rfl) ⟨by omega, by omega⟩ rfl (zw_mono h (zv_go ?_ ?_))
      · intro S11 hv
        obtain ⟨hS11, h⟩ := hv
        refine zw_push hm_127 dX11_heap_58 (v := .inr (.inr (some 64))) rfl ?_
        obtain ⟨hg, h⟩ := h
        refine zw_gf hm_127 dX11_heap_59 (v := .inr (.inr (some 81))) (zT_is hS11 s_64) (zT_t hS11 s_64) rfl f_11_98_11 (congrArg (fun z => Sum.inr (Sum.inr z)) hg) ?_
        refine zw_cv hm_127 dX11_heap_62 v_11_106_3 hm_30 [] [] rfl (zT_rt hS11 s_81 rfl) ⟨by omega, by omega⟩ rfl (zw_mono h (zi_go ?_ ?_))
        · intro v14 S13 hv
          obtain ⟨hS13, h⟩ := hv
          exact zw_iret hm_127 dX11_heap_65 h
        · intro x S9 hx
          exact hx.elim
      · intro x S9 hx
        exact hx.elim
    rw [if_neg hc2] at h
    by_cases hc3 : l1 = (3 : Int32)
    · rw [if_pos hc3] at h
      have h9 := h
      subst hc3
      have h := h9
      refine zw_aa hm_127 dX11_heap_43 (zT_is hS1 s_78) (zT_h hS1 s_78) rfl rfl ⟨by decide, by decide⟩ (zT_r hS1 r_78_3) ?_
      show ma_wp X d w 127 44 [(0, .inr (.inr (some 64))), (1, .inl (3 : Int32))] [.inr (.inr (some 82)), .inr (.inr (some 64))] S1 _
      refine zw_pf hm_127 dX11_heap_44 (zT_is hS1 s_64) (zT_t hS1 s_64) p_11_98_11 rfl ?_
      refine zw_push hm_127 dX11_heap_47 (v := .inr (.inr (some 64))) rfl ?_
      refine zw_gf hm_127 dX11_heap_48 (v := .inr (.inr (some 82))) (zT_is (zT_pr hS1 rfl) s_64) (zT_t (zT_pr hS1 rfl) s_64) rfl f_11_98_11 rfl ?_
      refine zw_push hm_127 dX11_heap_51 (v := .inr (.inr (some 64))) rfl ?_
      refine zw_gf hm_127 dX11_heap_52 (v := .inr (.inr (some 66))) (zT_is (zT_pr hS1 rfl) s_64) (zT_t (zT_pr hS1 rfl) s_64) rfl f_11_13_11 (zT_f (zT_pr hS1 rfl) r_64_4) ?_
      refine zw_cv hm_127 dX11_heap_55 v_11_102_1 hm_1 [.inr (.inr (some 66))] [] rfl (zT_rt (zT_pr hS1 rfl) s_82 rfl) ⟨by omega, by omega⟩ rfl (zw_mono h (zv_go ?_ ?_))
      · intro S15 hv
        obtain ⟨hS15, h⟩ := hv
        refine zw_push hm_127 dX11_heap_58 (v := .inr (.inr (some 64))) rfl ?_
        obtain ⟨hg, h⟩ := h
        refine zw_gf hm_127 dX11_heap_59 (v := .inr (.inr (some 82))) (zT_is hS15 s_64) (zT_t hS15 s_64) rfl f_11_98_11 (congrArg (fun z => Sum.inr (Sum.inr z)) hg) ?_
        refine zw_cv hm_127 dX11_heap_62 v_11_106_1 hm_2 [] [] rfl (zT_rt hS15 s_82 rfl) ⟨by omega, by omega⟩ rfl (zw_mono h (zi_go ?_ ?_))
        · intro v18 S17 hv
          obtain ⟨hS17, h⟩ := hv
          exact zw_iret hm_127 dX11_heap_65 h
        · intro x S9 hx
          exact hx.elim
      · intro x S9 hx
        exact hx.elim
    rw [if_neg hc3] at h
    by_cases hc4 : l1 = (4 : Int32)
    · rw [if_pos hc4] at h
      have h9 := h
      subst hc4
      have h := h9
      refine zw_aa hm_127 dX11_heap_43 (zT_is hS1 s_78) (zT_h hS1 s_78) rfl rfl ⟨by decide, by decide⟩ (zT_r hS1 r_78_4) ?_
      show ma_wp X d w 127 44 [(0, .inr (.inr (some 64))), (1, .inl (4 : Int32))] [.inr (.inr (some 84)), .inr (.inr (some 64))] S1 _
      refine zw_pf hm_127 dX11_heap_44 (zT_is hS1 s_64) (zT_t hS1 s_64) p_11_98_11 rfl ?_
      refine zw_push hm_127 dX11_heap_47 (v := .inr (.inr (some 64))) rfl ?_
      refine zw_gf hm_127 dX11_heap_48 (v := .inr (.inr (some 84))) (zT_is (zT_pr hS1 rfl) s_64) (zT_t (zT_pr hS1 rfl) s_64) rfl f_11_98_11 rfl ?_
      refine zw_push hm_127 dX11_heap_51 (v := .inr (.inr (some 64))) rfl ?_
      refine zw_gf hm_127 dX11_heap_52 (v := .inr (.inr (some 66))) (zT_is (zT_pr hS1 rfl) s_64) (zT_t (zT_pr hS1 rfl) s_64) rfl f_11_13_11 (zT_f (zT_pr hS1 rfl) r_64_4) ?_
      refine zw_cv hm_127 dX11_heap_55 v_11_102_2 hm_100 [.inr (.inr (some 66))] [] rfl (zT_rt (zT_pr hS1 rfl) s_84 rfl) ⟨by omega, by omega⟩ rfl (zw_mono h (zv_go ?_ ?_))
      · intro S19 hv
        obtain ⟨hS19, h⟩ := hv
        refine zw_push hm_127 dX11_heap_58 (v := .inr (.inr (some 64))) rfl ?_
        obtain ⟨hg, h⟩ := h
        refine zw_gf hm_127 dX11_heap_59 (v := .inr (.inr (some 84))) (zT_is hS19 s_64) (zT_t hS19 s_64) rfl f_11_98_11 (congrArg (fun z => Sum.inr (Sum.inr z)) hg) ?_
        refine zw_cv hm_127 dX11_heap_62 v_11_106_2 hm_101 [] [] rfl (zT_rt hS19 s_84 rfl) ⟨by omega, by omega⟩ rfl (zw_mono h (zi_go ?_ ?_))
        · intro v22 S21 hv
          obtain ⟨hS21, h⟩ := hv
          exact zw_iret hm_127 dX11_heap_65 h
        · intro x S9 hx
          exact hx.elim
      · intro x S9 hx
        exact hx.elim
    rw [if_neg hc4] at h
    by_cases hc5 : l1 = (5 : Int32)
    · rw [if_pos hc5] at h
      have h9 := h
      subst hc5
      have h := h9
      refine zw_aa hm_127 dX11_heap_43 (zT_is hS1 s_78) (zT_h hS1 s_78) rfl rfl ⟨by decide, by decide⟩ (zT_r hS1 r_78_5) ?_
      show ma_wp X d w 127 44 [(0, .inr (.inr (some 64))), (1, .inl (5 : Int32))] [.inr (.inr (some 87)), .inr (.inr (some 64))] S1 _
      refine zw_pf hm_127 dX11_heap_44 (zT_is hS1 s_64) (zT_t hS1 s_64) p_11_98_11 rfl ?_
      refine zw_push hm_127 dX11_heap_47 (v := .inr (.inr (some 64))) rfl ?_
      refine zw_gf hm_127 dX11_heap_48 (v := .inr (.inr (some 87))) (zT_is (zT_pr hS1 rfl) s_64) (zT_t (zT_pr hS1 rfl) s_64) rfl f_11_98_11 rfl ?_
      refine zw_push hm_127 dX11_heap_51 (v := .inr (.inr (some 64))) rfl ?_
      refine zw_gf hm_127 dX11_heap_52 (v := .inr (.inr (some 66))) (zT_is (zT_pr hS1 rfl) s_64) (zT_t (zT_pr hS1 rfl) s_64) rfl f_11_13_11 (zT_f (zT_pr hS1 rfl) r_64_4) ?_
      refine zw_cv hm_127 dX11_heap_55 v_11_102_6 hm_66 [.inr (.inr (some 66))] [] rfl (zT_rt (zT_pr hS1 rfl) s_87 rfl) ⟨by omega, by omega⟩ rfl (zw_mono h (zv_go ?_ ?_))
      · intro S23 hv
        obtain ⟨hS23, h⟩ := hv
        refine zw_push hm_127 dX11_heap_58 (v := .inr (.inr (some 64))) rfl ?_
        obtain ⟨hg, h⟩ := h
        refine zw_gf hm_127 dX11_heap_59 (v := .inr (.inr (some 87))) (zT_is hS23 s_64) (zT_t hS23 s_64) rfl f_11_98_11 (congrArg (fun z => Sum.inr (Sum.inr z)) hg) ?_
        refine zw_cv hm_127 dX11_heap_62 v_11_106_6 hm_101 [] [] rfl (zT_rt hS23 s_87 rfl) ⟨by omega, by omega⟩ rfl (zw_mono h (zi_go ?_ ?_))
        · intro v26 S25 hv
          obtain ⟨hS25, h⟩ := hv
          exact zw_iret hm_127 dX11_heap_65 h
        · intro x S9 hx
          exact hx.elim
      · intro x S9 hx
        exact hx.elim
    rw [if_neg hc5] at h
    by_cases hc6 : l1 = (6 : Int32)
    · rw [if_pos hc6] at h
      have h9 := h
      subst hc6
      have h := h9
      refine zw_aa hm_127 dX11_heap_43 (zT_is hS1 s_78) (zT_h hS1 s_78) rfl rfl ⟨by decide, by decide⟩ (zT_r hS1 r_78_6) ?_
      show ma_wp X d w 127 44 [(0, .inr (.inr (some 64))), (1, .inl (6 : Int32))] [.inr (.inr (some 91)), .inr (.inr (some 64))] S1 _
      refine zw_pf hm_127 dX11_heap_44 (zT_is hS1 s_64) (zT_t hS1 s_64) p_11_98_11 rfl ?_
      refine zw_push hm_127 dX11_heap_47 (v := .inr (.inr (some 64))) rfl ?_
      refine zw_gf hm_127 dX11_heap_48 (v := .inr (.inr (some 91))) (zT_is (zT_pr hS1 rfl) s_64) (zT_t (zT_pr hS1 rfl) s_64) rfl f_11_98_11 rfl ?_
      refine zw_push hm_127 dX11_heap_51 (v := .inr (.inr (some 64))) rfl ?_
      refine zw_gf hm_127 dX11_heap_52 (v := .inr (.inr (some 66))) (zT_is (zT_pr hS1 rfl) s_64) (zT_t (zT_pr hS1 rfl) s_64) rfl f_11_13_11 (zT_f (zT_pr hS1 rfl) r_64_4) ?_
      refine zw_cv hm_127 dX11_heap_55 v_11_102_4 hm_38 [.inr (.inr (some 66))] [] rfl (zT_rt (zT_pr hS1 rfl) s_91 rfl) ⟨by omega, by omega⟩ rfl (zw_mono h (zv_go ?_ ?_))
      · intro S27 hv
        obtain ⟨hS27, h⟩ := hv
        refine zw_push hm_127 dX11_heap_58 (v := .inr (.inr (some 64))) rfl ?_
        obtain ⟨hg, h⟩ := h
        refine zw_gf hm_127 dX11_heap_59 (v := .inr (.inr (some 91))) (zT_is hS27 s_64) (zT_t hS27 s_64) rfl f_11_98_11 (congrArg (fun z => Sum.inr (Sum.inr z)) hg) ?_
        refine zw_cv hm_127 dX11_heap_62 v_11_106_4 hm_39 [] [] rfl (zT_rt hS27 s_91 rfl) ⟨by omega, by omega⟩ rfl (zw_mono h (zi_go ?_ ?_))
        · intro v30 S29 hv
          obtain ⟨hS29, h⟩ := hv
          exact zw_iret hm_127 dX11_heap_65 h
        · intro x S9 hx
          exact hx.elim
      · intro x S9 hx
        exact hx.elim
    rw [if_neg hc6] at h
    exact h.elim
  · intro x S9 hx
    exact ⟨by decide, hx⟩
theorem lp_127_64_30 {X : Nat × (Nat → Int32)} {d w : Nat} {f : Nat → Nat → Int32} {r : Nat → Nat → Option Nat} {C Z N : Nat} {Q : Option ma_V ⊕ Nat → ma_S → Prop} (hd : 9 ≤ d) (hw : 186 ≤ w) (K : ∀ v S' r', (r' = r ∨ ∃ p, p ∈ zcl7 ∧ r' = zrp r p) → zA f r' C Z N S' → ((mI S' 64 1).toInt = 0) → Q (.inl (some (.inl v))) S') : ∀ (n : Nat) (S : ma_S) (l1 : Int32), ((0 : Int)).toNat = n → zA f r C Z N S → (0 ≤ l1.toInt) → (l1.toInt ≤ 6) → (0 ≤ (mI S 66 0).toInt ∧ (l1.toInt = 3 → 0 ≤ (mI S 66 1).toInt) ∧ (l1.toInt = 6 → 0 ≤ (mI S 66 1).toInt)) → ((mI S 64 1).toInt = 0) → ma_wp X d w 127 30 [(0, .inr (.inr (some 64))), (1, .inl l1)] [] S Q := by
  intro n
  induction n using Nat.strongRecOn with
  | _ n IH =>
    intro S l1 hmu hI  hi0 hi1 hi2 hi3
    refine g_127_64_30 l1 (by omega) (by omega) (zG_T hI) ?_
    refine sp_80_69  (by omega) (by omega) (zA_dn_zS hI)  (fun S1 hL_S1 => zv_n ⟨zG_T hL_S1, ?_⟩)
    have hI_S1 := zA_up_zS hI hL_S1
    have b1 := i_bd l1
    have li2 : (0 : Int32).toInt = 0 := rfl
    refine zd (fun h3 => ?_) (fun h3 => ?_)
    · skip
      have g4 := i_eq h3
      have hI5 : zA f (zrp r 79) C Z N (ma_put S1 64 11 (.inr (.inr (some 79)))) := zG_pres hI_S1 (by decide)
      have f6 := zG_a hI 4 (-1) (1500) (c := 66) (k := 0) (by decide) (by decide)
      have q7 : (mI S1 66 0).toInt = (mI S 66 0).toInt := zG_zi (f := mI S) hL_S1 rfl
      have f8 := zG_a hI_S1 4 (-1) (1500) (c := 66) (k := 0) (by decide) (by decide)
      refine sp_100_79_66  (by omega) (by omega) (zA_dn_zJ79 hI5) (show 0 ≤ (mI S1 66 0).toInt ∧ (mI S1 66 0).toInt ≤ 1500 from by omega) (fun S3 hL_S3 => zv_n ⟨zG_T hL_S3, ?_⟩)
      have hI_S3 := zA_up_zJ79 hI5 hL_S3
      refine ⟨((zG_r hI_S3 (by decide)).trans rfl), ?_⟩
      refine sp_101_79  (by omega) (by omega) (zA_dn_zJ79 hI_S3)  (fun v6 S5 hL_S5 hp_v6 => zi_n ⟨zG_T hL_S5, ?_⟩)
      have hI_S5 := zA_up_zJ79 hI_S3 hL_S5
      have b9 := i_bd v6
      have f10 := zG_s hI (0) (100) (c := 64) (k := 1) (by decide)
      have q11 : (mI S1 64 1).toInt = (mI S 64 1).toInt := zG_zi (f := mI S) hL_S1 rfl
      have f12 := zG_s hI_S1 (0) (100) (c := 64) (k := 1) (by decide)
      have q13 : (mI S3 64 1).toInt = (mI S1 64 1).toInt := zG_zi (f := mI (ma_put S1 64 11 (.inr (.inr (some 79))))) hL_S3 rfl
      have f14 := zG_s hI_S3 (0) (100) (c := 64) (k := 1) (by decide)
      have q15 : (mI S5 64 1).toInt = (mI S3 64 1).toInt := zG_zi (f := mI S3) hL_S5 rfl
      have f16 := zG_s hI_S5 (0) (100) (c := 64) (k := 1) (by decide)
      exact K (v6) _ (zrp r 79) (Or.inr ⟨79, by decide, rfl⟩) hI_S5 (show (mI S5 64 1).toInt = 0 from by omega)
    · skip
      have g17 := i_ne h3
      have li18 : (1 : Int32).toInt = 1 := rfl
      refine zd (fun h19 => ?_) (fun h19 => ?_)
      · skip
        have g20 := i_eq h19
        have hI21 : zA f (zrp r 80) C Z N (ma_put S1 64 11 (.inr (.inr (some 80)))) := zG_pres hI_S1 (by decide)
        have f22 := zG_a hI 4 (-1) (1500) (c := 66) (k := 0) (by decide) (by decide)
        have q23 : (mI S1 66 0).toInt = (mI S 66 0).toInt := zG_zi (f := mI S) hL_S1 rfl
        have f24 := zG_a hI_S1 4 (-1) (1500) (c := 66) (k := 0) (by decide) (by decide)
        refine sp_59_80_66  (by omega) (by omega) (zA_dn_zJ80 hI21) (show 0 ≤ (mI S1 66 0).toInt ∧ (mI S1 66 0).toInt ≤ 1500 from by omega) (fun S7 hL_S7 => zv_n ⟨zG_T hL_S7, ?_⟩)
        have hI_S7 := zA_up_zJ80 hI21 hL_S7
        refine ⟨((zG_r hI_S7 (by decide)).trans rfl), ?_⟩
        refine sp_60_80  (by omega) (by omega) (zA_dn_zJ80 hI_S7)  (fun v10 S9 hL_S9 hp_v10 => zi_n ⟨zG_T hL_S9, ?_⟩)
        have hI_S9 := zA_up_zJ80 hI_S7 hL_S9
        have b25 := i_bd v10
        have f26 := zG_s hI (0) (100) (c := 64) (k := 1) (by decide)
        have q27 : (mI S1 64 1).toInt = (mI S 64 1).toInt := zG_zi (f := mI S) hL_S1 rfl
        have f28 := zG_s hI_S1 (0) (100) (c := 64) (k := 1) (by decide)
        have q29 : (mI S7 64 1).toInt = (mI S1 64 1).toInt := zG_zi (f := mI (ma_put S1 64 11 (.inr (.inr (some 80))))) hL_S7 rfl
        have f30 := zG_s hI_S7 (0) (100) (c := 64) (k := 1) (by decide)
        have q31 : (mI S9 64 1).toInt = (mI S7 64 1).toInt := zG_zi (f := mI S7) hL_S9 rfl
        have f32 := zG_s hI_S9 (0) (100) (c := 64) (k := 1) (by decide)
        exact K (v10) _ (zrp r 80) (Or.inr ⟨80, by decide, rfl⟩) hI_S9 (show (mI S9 64 1).toInt = 0 from by omega)
      · skip
        have g33 := i_ne h19
        have li34 : (2 : Int32).toInt = 2 := rfl
        refine zd (fun h35 => ?_) (fun h35 => ?_)
        · skip
          have g36 := i_eq h35
          have hI37 : zA f (zrp r 81) C Z N (ma_put S1 64 11 (.inr (.inr (some 81)))) := zG_pres hI_S1 (by decide)
          have f38 := zG_a hI 4 (-1) (1500) (c := 66) (k := 0) (by decide) (by decide)
          have q39 : (mI S1 66 0).toInt = (mI S 66 0).toInt := zG_zi (f := mI S) hL_S1 rfl
          have f40 := zG_a hI_S1 4 (-1) (1500) (c := 66) (k := 0) (by decide) (by decide)
          refine sp_29_81_66_zK81  (by omega) (by omega) (zA_dn_zK81 hI37) (show 0 ≤ (mI S1 66 0).toInt ∧ (mI S1 66 0).toInt ≤ 1500 from by omega) (fun S11 hL_S11 hp_S11 => zv_n ⟨zG_T hL_S11, ?_⟩)
          have hI_S11 := zA_up_zK81 hI37 hL_S11 hp_S11
          refine ⟨((zG_r hI_S11 (by decide)).trans rfl), ?_⟩
          refine sp_30_81  (by omega) (by omega) (zA_dn_zJ81 hI_S11)  (fun v14 S13 hL_S13 hp_v14 => zi_n ⟨zG_T hL_S13, ?_⟩)
          have hI_S13 := zA_up_zJ81 hI_S11 hL_S13
          have b41 := i_bd v14
          have f42 := zG_s hI (0) (100) (c := 64) (k := 1) (by decide)
          have q43 : (mI S1 64 1).toInt = (mI S 64 1).toInt := zG_zi (f := mI S) hL_S1 rfl
          have f44 := zG_s hI_S1 (0) (100) (c := 64) (k := 1) (by decide)
          have q45 : (mI S11 64 1).toInt = (mI S1 64 1).toInt := zG_zi (f := mI (ma_put S1 64 11 (.inr (.inr (some 81))))) hL_S11 rfl
          have f46 := zG_s hI_S11 (0) (100) (c := 64) (k := 1) (by decide)
          have q47 : (mI S13 64 1).toInt = (mI S11 64 1).toInt := zG_zi (f := mI S11) hL_S13 rfl
          have f48 := zG_s hI_S13 (0) (100) (c := 64) (k := 1) (by decide)
          exact K (v14) _ (zrp r 81) (Or.inr ⟨81, by decide, rfl⟩) hI_S13 (show (mI S13 64 1).toInt = 0 from by omega)
        · skip
          have g49 := i_ne h35
          have li50 : (3 : Int32).toInt = 3 := rfl
          refine zd (fun h51 => ?_) (fun h51 => ?_)
          · skip
            have g52 := i_eq h51
            have hI53 : zA f (zrp r 82) C Z N (ma_put S1 64 11 (.inr (.inr (some 82)))) := zG_pres hI_S1 (by decide)
            have f54 := zG_a hI 4 (-1) (1500) (c := 66) (k := 0) (by decide) (by decide)
            have q55 : (mI S1 66 0).toInt = (mI S 66 0).toInt := zG_zi (f := mI S) hL_S1 rfl
            have f56 := zG_a hI_S1 4 (-1) (1500) (c := 66) (k := 0) (by decide) (by decide)
            have f57 := zG_a hI 4 (-1) (1500) (c := 66) (k := 1) (by decide) (by decide)
            have q58 : (mI S1 66 1).toInt = (mI S 66 1).toInt := zG_zi (f := mI S) hL_S1 rfl
            have f59 := zG_a hI_S1 4 (-1) (1500) (c := 66) (k := 1) (by decide) (by decide)
            refine sp_1_82_66_zK82  (by omega) (by omega) (zA_dn_zK82 hI53) (show 0 ≤ (mI S1 66 0).toInt ∧ (mI S1 66 0).toInt ≤ 1500 ∧ 0 ≤ (mI S1 66 1).toInt ∧ (mI S1 66 1).toInt ≤ 1500 from by omega) (fun S15 hL_S15 hp_S15 => zv_n ⟨zG_T hL_S15, ?_⟩)
            have hI_S15 := zA_up_zK82 hI53 hL_S15 hp_S15
            refine ⟨((zG_r hI_S15 (by decide)).trans rfl), ?_⟩
            refine sp_2_82  (by omega) (by omega) (zA_dn_zJ82 hI_S15)  (fun v18 S17 hL_S17 hp_v18 => zi_n ⟨zG_T hL_S17, ?_⟩)
            have hI_S17 := zA_up_zJ82 hI_S15 hL_S17
            have b60 := i_bd v18
            have f61 := zG_s hI (0) (100) (c := 64) (k := 1) (by decide)
            have q62 : (mI S1 64 1).toInt = (mI S 64 1).toInt := zG_zi (f := mI S) hL_S1 rfl
            have f63 := zG_s hI_S1 (0) (100) (c := 64) (k := 1) (by decide)
            have q64 : (mI S15 64 1).toInt = (mI S1 64 1).toInt := zG_zi (f := mI (ma_put S1 64 11 (.inr (.inr (some 82))))) hL_S15 rfl
            have f65 := zG_s hI_S15 (0) (100) (c := 64) (k := 1) (by decide)
            have q66 : (mI S17 64 1).toInt = (mI S15 64 1).toInt := zG_zi (f := mI S15) hL_S17 rfl
            have f67 := zG_s hI_S17 (0) (100) (c := 64) (k := 1) (by decide)
            exact K (v18) _ (zrp r 82) (Or.inr ⟨82, by decide, rfl⟩) hI_S17 (show (mI S17 64 1).toInt = 0 from by omega)
          · skip
            have g68 := i_ne h51
            have li69 : (4 : Int32).toInt = 4 := rfl
            refine zd (fun h70 => ?_) (fun h70 => ?_)
            · skip
              have g71 := i_eq h70
              have hI72 : zA f (zrp r 84) C Z N (ma_put S1 64 11 (.inr (.inr (some 84)))) := zG_pres hI_S1 (by decide)
              have f73 := zG_a hI 4 (-1) (1500) (c := 66) (k := 0) (by decide) (by decide)
              have q74 : (mI S1 66 0).toInt = (mI S 66 0).toInt := zG_zi (f := mI S) hL_S1 rfl
              have f75 := zG_a hI_S1 4 (-1) (1500) (c := 66) (k := 0) (by decide) (by decide)
              refine sp_100_84_66  (by omega) (by omega) (zA_dn_zJ84 hI72) (show 0 ≤ (mI S1 66 0).toInt ∧ (mI S1 66 0).toInt ≤ 1500 from by omega) (fun S19 hL_S19 => zv_n ⟨zG_T hL_S19, ?_⟩)
              have hI_S19 := zA_up_zJ84 hI72 hL_S19
              refine ⟨((zG_r hI_S19 (by decide)).trans rfl), ?_⟩
              refine sp_101_84  (by omega) (by omega) (zA_dn_zJ84 hI_S19)  (fun v22 S21 hL_S21 hp_v22 => zi_n ⟨zG_T hL_S21, ?_⟩)
              have hI_S21 := zA_up_zJ84 hI_S19 hL_S21
              have b76 := i_bd v22
              have f77 := zG_s hI (0) (100) (c := 64) (k := 1) (by decide)
              have q78 : (mI S1 64 1).toInt = (mI S 64 1).toInt := zG_zi (f := mI S) hL_S1 rfl
              have f79 := zG_s hI_S1 (0) (100) (c := 64) (k := 1) (by decide)
              have q80 : (mI S19 64 1).toInt = (mI S1 64 1).toInt := zG_zi (f := mI (ma_put S1 64 11 (.inr (.inr (some 84))))) hL_S19 rfl
              have f81 := zG_s hI_S19 (0) (100) (c := 64) (k := 1) (by decide)
              have q82 : (mI S21 64 1).toInt = (mI S19 64 1).toInt := zG_zi (f := mI S19) hL_S21 rfl
              have f83 := zG_s hI_S21 (0) (100) (c := 64) (k := 1) (by decide)
              exact K (v22) _ (zrp r 84) (Or.inr ⟨84, by decide, rfl⟩) hI_S21 (show (mI S21 64 1).toInt = 0 from by omega)
            · skip
              have g84 := i_ne h70
              have li85 : (5 : Int32).toInt = 5 := rfl
              refine zd (fun h86 => ?_) (fun h86 => ?_)
              · skip
                have g87 := i_eq h86
                have hI88 : zA f (zrp r 87) C Z N (ma_put S1 64 11 (.inr (.inr (some 87)))) := zG_pres hI_S1 (by decide)
                have f89 := zG_a hI 4 (-1) (1500) (c := 66) (k := 0) (by decide) (by decide)
                have q90 : (mI S1 66 0).toInt = (mI S 66 0).toInt := zG_zi (f := mI S) hL_S1 rfl
                have f91 := zG_a hI_S1 4 (-1) (1500) (c := 66) (k := 0) (by decide) (by decide)
                have f92 := zG_a hI 4 (-1) (1500) (c := 66) (k := 2) (by decide) (by decide)
                have q93 : (mI S1 66 2).toInt = (mI S 66 2).toInt := zG_zi (f := mI S) hL_S1 rfl
                have f94 := zG_a hI_S1 4 (-1) (1500) (c := 66) (k := 2) (by decide) (by decide)
                refine sp_66_87_66  (by omega) (by omega) (zA_dn_zJ87 hI88) (show 0 ≤ (mI S1 66 0).toInt ∧ (mI S1 66 0).toInt ≤ 1500 ∧ -1 ≤ (mI S1 66 2).toInt ∧ (mI S1 66 2).toInt ≤ 1500 from by omega) (fun S23 hL_S23 => zv_n ⟨zG_T hL_S23, ?_⟩)
                have hI_S23 := zA_up_zJ87 hI88 hL_S23
                refine ⟨((zG_r hI_S23 (by decide)).trans rfl), ?_⟩
                refine sp_101_87  (by omega) (by omega) (zA_dn_zJ87 hI_S23)  (fun v26 S25 hL_S25 hp_v26 => zi_n ⟨zG_T hL_S25, ?_⟩)
                have hI_S25 := zA_up_zJ87 hI_S23 hL_S25
                have b95 := i_bd v26
                have f96 := zG_s hI (0) (100) (c := 64) (k := 1) (by decide)
                have q97 : (mI S1 64 1).toInt = (mI S 64 1).toInt := zG_zi (f := mI S) hL_S1 rfl
                have f98 := zG_s hI_S1 (0) (100) (c := 64) (k := 1) (by decide)
                have q99 : (mI S23 64 1).toInt = (mI S1 64 1).toInt := zG_zi (f := mI (ma_put S1 64 11 (.inr (.inr (some 87))))) hL_S23 rfl
                have f100 := zG_s hI_S23 (0) (100) (c := 64) (k := 1) (by decide)
                have q101 : (mI S25 64 1).toInt = (mI S23 64 1).toInt := zG_zi (f := mI S23) hL_S25 rfl
                have f102 := zG_s hI_S25 (0) (100) (c := 64) (k := 1) (by decide)
                exact K (v26) _ (zrp r 87) (Or.inr ⟨87, by decide, rfl⟩) hI_S25 (show (mI S25 64 1).toInt = 0 from by omega)
              · skip
                have g103 := i_ne h86
                have li104 : (6 : Int32).toInt = 6 := rfl
                refine zd (fun h105 => ?_) (fun h105 => ?_)
                · skip
                  have g106 := i_eq h105
                  have hI107 : zA f (zrp r 91) C Z N (ma_put S1 64 11 (.inr (.inr (some 91)))) := zG_pres hI_S1 (by decide)
                  have f108 := zG_a hI 4 (-1) (1500) (c := 66) (k := 0) (by decide) (by decide)
                  have q109 : (mI S1 66 0).toInt = (mI S 66 0).toInt := zG_zi (f := mI S) hL_S1 rfl
                  have f110 := zG_a hI_S1 4 (-1) (1500) (c := 66) (k := 0) (by decide) (by decide)
                  have f111 := zG_a hI 4 (-1) (1500) (c := 66) (k := 1) (by decide) (by decide)
                  have q112 : (mI S1 66 1).toInt = (mI S 66 1).toInt := zG_zi (f := mI S) hL_S1 rfl
                  have f113 := zG_a hI_S1 4 (-1) (1500) (c := 66) (k := 1) (by decide) (by decide)
                  refine sp_38_91_66  (by omega) (by omega) (zA_dn_zL91 hI107) (show 0 ≤ (mI S1 66 0).toInt ∧ (mI S1 66 0).toInt ≤ 1500 ∧ 0 ≤ (mI S1 66 1).toInt ∧ (mI S1 66 1).toInt ≤ 1500 from by omega) (fun S27 hL_S27 => zv_n ⟨zG_T hL_S27, ?_⟩)
                  have hI_S27 := zA_up_zL91 hI107 hL_S27
                  refine ⟨((zG_r hI_S27 (by decide)).trans rfl), ?_⟩
                  refine sp_39_91  (by omega) (by omega) (zA_dn_zL91 hI_S27)  (fun v30 S29 hL_S29 hp_v30 => zi_n ⟨zG_T hL_S29, ?_⟩)
                  have hI_S29 := zA_up_zL91 hI_S27 hL_S29
                  have b114 := i_bd v30
                  have f115 := zG_s hI (0) (100) (c := 64) (k := 1) (by decide)
                  have q116 : (mI S1 64 1).toInt = (mI S 64 1).toInt := zG_zi (f := mI S) hL_S1 rfl
                  have f117 := zG_s hI_S1 (0) (100) (c := 64) (k := 1) (by decide)
                  have q118 : (mI S27 64 1).toInt = (mI S1 64 1).toInt := zG_zi (f := mI (ma_put S1 64 11 (.inr (.inr (some 91))))) hL_S27 rfl
                  have f119 := zG_s hI_S27 (0) (100) (c := 64) (k := 1) (by decide)
                  have q120 : (mI S29 64 1).toInt = (mI S27 64 1).toInt := zG_zi (f := mI S27) hL_S29 rfl
                  have f121 := zG_s hI_S29 (0) (100) (c := 64) (k := 1) (by decide)
                  exact K (v30) _ (zrp r 91) (Or.inr ⟨91, by decide, rfl⟩) hI_S29 (show (mI S29 64 1).toInt = 0 from by omega)
                · skip
                  have g122 := i_ne h105
                  exact (by omega : False)
theorem sp_127_64 {X : Nat × (Nat → Int32)} {d w : Nat} {f : Nat → Nat → Int32} {r : Nat → Nat → Option Nat} {C Z N : Nat} {Q : Option ma_V ⊕ Nat → ma_S → Prop} {S : ma_S}  (hd : 9 ≤ d) (hw : 186 ≤ w) (hI : zA f r C Z N S)  (K : ∀ v S' r', (r' = r ∨ ∃ p, p ∈ zcl7 ∧ r' = zrp r p) → zA f r' C Z N S' → ((mI S' 64 1).toInt = 0) → Q (.inl (some (.inl v))) S') : ma_wp X d w 127 0 [(0, .inr (.inr (some 64)))] [] S Q := by
  refine g_127_64_0  (by omega) (by omega) (zG_T hI) ?_
  refine sp_128_64  (by omega) (by omega) hI  (fun v2 S1 hI_S1 hp_v2 => zi_n ⟨zG_T hI_S1, ?_⟩)
  have b1 := i_bd v2
  have li2 : (0 : Int32).toInt = 0 := rfl
  refine zd (fun h3 => ?_) (fun h3 => ?_)
  · skip
    have g4 := i_lt h3
    have hI5 : zA f r C Z N (ma_put S1 64 1 (.inl (0 : Int32))) := zG_sp hI_S1 (0) (100) rfl (by decide) (by decide) (by decide) (show zA_x (mI S1) from zG_x hI_S1) (by omega) (by omega)
    have li6 : (-1 : Int32).toInt = -1 := rfl
    have f7 := zG_s hI_S1 (0) (100) (c := 64) (k := 2) (by decide)
    first | have e8 : ((-1 : Int32) - (mI S1 64 2)).toInt = (-1 : Int32).toInt - (mI S1 64 2).toInt := i_sub (by omega) (by omega) | have b9 := i_bd ((-1 : Int32) - (mI S1 64 2))
    exact K (((-1 : Int32) - (mI S1 64 2))) _ r (Or.inl rfl) hI5 (show (0 : Int32).toInt = 0 from by omega)
  · skip
    have g10 := i_nlt h3
    have li11 : (7 : Int32).toInt = 7 := rfl
    refine zd (fun h12 => ?_) (fun h12 => ?_)
    · skip
      have g13 := i_lt h12
      have hI14 : zA f r C Z N (ma_put S1 64 1 (.inl (0 : Int32))) := zG_sp hI_S1 (0) (100) rfl (by decide) (by decide) (by decide) (show zA_x (mI S1) from zG_x hI_S1) (by omega) (by omega)
      have f15 := zG_a hI_S1 4 (-1) (1500) (c := 66) (k := 0) (by decide) (by decide)
      have f16 := zG_a hI_S1 4 (-1) (1500) (c := 66) (k := 1) (by decide) (by decide)
      exact lp_127_64_30 (by omega) (by omega) K _ _ (v2) rfl hI14 (by omega) (by omega) (show 0 ≤ (mI S1 66 0).toInt ∧ ((v2).toInt = 3 → 0 ≤ (mI S1 66 1).toInt) ∧ ((v2).toInt = 6 → 0 ≤ (mI S1 66 1).toInt) from by omega) (show (0 : Int32).toInt = 0 from by omega)
    · skip
      have g17 := i_nlt h12
      have hI18 : zA f r C Z N (ma_put S1 64 1 (.inl (0 : Int32))) := zG_sp hI_S1 (0) (100) rfl (by decide) (by decide) (by decide) (show zA_x (mI S1) from zG_x hI_S1) (by omega) (by omega)
      have li19 : (-1 : Int32).toInt = -1 := rfl
      have f20 := zG_s hI_S1 (0) (100) (c := 64) (k := 2) (by decide)
      first | have e21 : ((-1 : Int32) - (mI S1 64 2)).toInt = (-1 : Int32).toInt - (mI S1 64 2).toInt := i_sub (by omega) (by omega) | have b22 := i_bd ((-1 : Int32) - (mI S1 64 2))
      exact K (((-1 : Int32) - (mI S1 64 2))) _ r (Or.inl rfl) hI18 (show (0 : Int32).toInt = 0 from by omega)
theorem g_104_79_t_0 {X : Nat × (Nat → Int32)} {d w : Nat} {S : ma_S} {Q : Option ma_V ⊕ Nat → ma_S → Prop} (a : Int32) (b : Int32) (n : Int32) (hd : 2 ≤ d) (hw : 45 ≤ w) (hS : zT S) (h : ma_wp X (d - 1) (w - 23) 105 0 [(0, .inr (.inr (some 79))), (1, .inl a)] [] S (zi (fun v2 S1 => zT S1 ∧ (ma_wp X d w 104 10 [(0, .inr (.inr (some 79))), (2, .inl b), (3, .inl n), (4, .inl v2), (5, .inl (0 : Int32))] [] S1 Q)) (fun x S9 => Q (.inr x) S9))) : ma_wp X d w 104 0 [(0, .inr (.inr (some 79))), (1, .inl a), (2, .inl b), (3, .inl n)] [] S Q := by
  refine zw_push hm_104 dX8_fitFirst_0 (v := .inr (.inr (some 79))) rfl ?_
  refine zw_push hm_104 dX8_fitFirst_1 (v := .inl a) rfl ?_
  refine zw_cv hm_104 dX8_fitFirst_2 v_8_40_8 hm_105 [.inl a] [] rfl (zT_rt hS s_79 rfl) ⟨by omega, by omega⟩ rfl (zw_mono h (zi_go ?_ ?_))
  · intro v2 S1 hv
    obtain ⟨hS1, h⟩ := hv
    refine zw_sto hm_104 dX8_fitFirst_5 [(4, .inl v2), (0, .inr (.inr (some 79))), (1, .inl a), (2, .inl b), (3, .inl n)] rfl rfl rfl ?_
    refine zw_push hm_104 dX8_fitFirst_7 (v := .inl (0 : Int32)) rfl ?_
    refine zw_sto hm_104 dX8_fitFirst_8 [(5, .inl (0 : Int32)), (4, .inl v2), (0, .inr (.inr (some 79))), (1, .inl a), (2, .inl b), (3, .inl n)] rfl rfl rfl ?_
    exact zw_sub (ma_nd_of (ks := [0, 2, 3, 4, 5]) rfl (by decide)) (ma_nd_of (ks := [5, 4, 0, 1, 2, 3]) rfl (by decide)) (ma_le_cons rfl (ma_le_cons rfl (ma_le_cons rfl (ma_le_cons rfl (ma_le_cons rfl (ma_le_nil _)))))) h
  · intro x S9 hx
    exact ⟨by decide, hx⟩
theorem g_104_79_t_10 {X : Nat × (Nat → Int32)} {d w : Nat} {S : ma_S} {Q : Option ma_V ⊕ Nat → ma_S → Prop} (l2 : Int32) (l3 : Int32) (l4 : Int32) (l5 : Int32) (hd : 2 ≤ d) (hw : 45 ≤ w) (hS : zT S) (h : if (4500 : Int32) ≤ l5 then (Q (.inl (some (.inl (-1 : Int32)))) S) else (if l2 ≤ l4 then (Q (.inl (some (.inl (-1 : Int32)))) S) else (ma_wp X (d - 1) (w - 22) 106 0 [(0, .inr (.inr (some 79))), (1, .inl l4)] [] S (zi (fun v2 S1 => zT S1 ∧ (if (v2 - l4) < l3 then (ma_wp X (d - 1) (w - 23) 105 0 [(0, .inr (.inr (some 79))), (1, .inl v2)] [] (ma_put S1 69 12 (.inl ((mI S1 69 12) + (1 : Int32)))) (zi (fun v4 S3 => zT S3 ∧ (ma_wp X d w 104 10 [(0, .inr (.inr (some 79))), (2, .inl l2), (3, .inl l3), (4, .inl v4), (5, .inl (l5 + (1 : Int32)))] [] S3 Q)) (fun x S9 => Q (.inr x) S9))) else (Q (.inl (some (.inl l4))) (ma_put S1 69 12 (.inl ((mI S1 69 12) + (1 : Int32))))))) (fun x S9 => Q (.inr x) S9))))) : ma_wp X d w 104 10 [(0, .inr (.inr (some 79))), (2, .inl l2), (3, .inl l3), (4, .inl l4), (5, .inl l5)] [] S Q := by
  refine zw_push hm_104 dX8_fitFirst_10 (v := .inl l5) rfl ?_
  refine zw_push hm_104 dX8_fitFirst_12 (v := .inl (4500 : Int32)) rfl ?_
  refine zw_if2 hm_104 dX8_fitFirst_15 (t := 71) rfl zc2_ge ?_ ?_
  · intro hc
    rw [if_pos hc] at h
    refine zw_push hm_104 dX8_fitFirst_71 (v := .inl (-1 : Int32)) rfl ?_
    exact zw_iret hm_104 dX8_fitFirst_72 h
  · intro hc
    rw [if_neg hc] at h
    refine zw_push hm_104 dX8_fitFirst_18 (v := .inl l4) rfl ?_
    refine zw_push hm_104 dX8_fitFirst_20 (v := .inl l2) rfl ?_
    refine zw_if2 hm_104 dX8_fitFirst_21 (t := 71) rfl zc2_ge ?_ ?_
    · intro hc
      rw [if_pos hc] at h
      refine zw_push hm_104 dX8_fitFirst_71 (v := .inl (-1 : Int32)) rfl ?_
      exact zw_iret hm_104 dX8_fitFirst_72 h
    · intro hc
      rw [if_neg hc] at h
      refine zw_push hm_104 dX8_fitFirst_24 (v := .inr (.inr (some 79))) rfl ?_
      refine zw_push hm_104 dX8_fitFirst_25 (v := .inl l4) rfl ?_
      refine zw_cv hm_104 dX8_fitFirst_27 v_8_43_8 hm_106 [.inl l4] [] rfl (zT_rt hS s_79 rfl) ⟨by omega, by omega⟩ rfl (zw_mono h (zi_go ?_ ?_))
      · intro v2 S1 hv
        obtain ⟨hS1, h⟩ := hv
        refine zw_sto hm_104 dX8_fitFirst_30 [(6, .inl v2), (0, .inr (.inr (some 79))), (2, .inl l2), (3, .inl l3), (4, .inl l4), (5, .inl l5)] rfl rfl rfl ?_
        refine zw_push hm_104 dX8_fitFirst_32 (v := .inr (.inr (some 79))) rfl ?_
        refine zw_gf hm_104 dX8_fitFirst_33 (v := .inr (.inr (some 69))) (zT_is hS1 s_79) (zT_t hS1 s_79) rfl f_8_46_8 (zT_f hS1 r_79_0) ?_
        refine zw_stk hm_104 dX8_fitFirst_36 (st' := [.inr (.inr (some 69)), .inr (.inr (some 69))]) rfl rfl ?_
        refine zw_gf hm_104 dX8_fitFirst_37 (v := .inl (mI S1 69 12)) (zT_is hS1 s_69) (zT_t hS1 s_69) rfl f_8_67_7 rfl ?_
        refine zw_push hm_104 dX8_fitFirst_40 (v := .inl (1 : Int32)) rfl ?_
        refine zw_stk hm_104 dX8_fitFirst_41 (st' := [.inl ((mI S1 69 12) + (1 : Int32)), .inr (.inr (some 69))]) rfl rfl ?_
        refine zw_pf hm_104 dX8_fitFirst_42 (zT_is hS1 s_69) (zT_t hS1 s_69) p_8_67_7 zk_int ?_
        refine zw_push hm_104 dX8_fitFirst_45 (v := .inl v2) rfl ?_
        refine zw_push hm_104 dX8_fitFirst_47 (v := .inl l4) rfl ?_
        refine zw_stk hm_104 dX8_fitFirst_49 (st' := [.inl (v2 - l4)]) rfl rfl ?_
        refine zw_push hm_104 dX8_fitFirst_50 (v := .inl l3) rfl ?_
        refine zw_if2 hm_104 dX8_fitFirst_51 (t := 57) rfl zc2_lt ?_ ?_
        · intro hc
          rw [if_pos hc] at h
          refine zw_push hm_104 dX8_fitFirst_57 (v := .inr (.inr (some 79))) rfl ?_
          refine zw_push hm_104 dX8_fitFirst_58 (v := .inl v2) rfl ?_
          refine zw_cv hm_104 dX8_fitFirst_60 v_8_40_8 hm_105 [.inl v2] [] rfl (zT_rt (zT_pi hS1) s_79 rfl) ⟨by omega, by omega⟩ rfl (zw_mono h (zi_go ?_ ?_))
          · intro v4 S3 hv
            obtain ⟨hS3, h⟩ := hv
            refine zw_sto hm_104 dX8_fitFirst_63 [(4, .inl v4), (6, .inl v2), (0, .inr (.inr (some 79))), (2, .inl l2), (3, .inl l3), (5, .inl l5)] rfl rfl rfl ?_
            refine zw_sto hm_104 dX8_fitFirst_65 [(5, .inl (l5 + (1 : Int32))), (4, .inl v4), (6, .inl v2), (0, .inr (.inr (some 79))), (2, .inl l2), (3, .inl l3)] rfl rfl rfl ?_
            refine zw_goto hm_104 dX8_fitFirst_68 (t := 10) rfl ?_
            exact zw_sub (ma_nd_of (ks := [0, 2, 3, 4, 5]) rfl (by decide)) (ma_nd_of (ks := [5, 4, 6, 0, 2, 3]) rfl (by decide)) (ma_le_cons rfl (ma_le_cons rfl (ma_le_cons rfl (ma_le_cons rfl (ma_le_cons rfl (ma_le_nil _)))))) h
          · intro x S9 hx
            exact ⟨by decide, hx⟩
        · intro hc
          rw [if_neg hc] at h
          refine zw_push hm_104 dX8_fitFirst_54 (v := .inl l4) rfl ?_
          exact zw_iret hm_104 dX8_fitFirst_56 h
      · intro x S9 hx
        exact ⟨by decide, hx⟩
theorem lp_104_79_t_10 {X : Nat × (Nat → Int32)} {d w : Nat} {f : Nat → Nat → Int32} {r : Nat → Nat → Option Nat} {C Z N : Nat} {Q : Option ma_V ⊕ Nat → ma_S → Prop} (hd : 2 ≤ d) (hw : 45 ≤ w) (K : ∀ v S', zJ79 f r C Z N S' → (-1 ≤ v.toInt ∧ v.toInt ≤ 1500) → Q (.inl (some (.inl v))) S') : ∀ (n : Nat) (S : ma_S) (l2 : Int32) (l3 : Int32) (l4 : Int32) (l5 : Int32), (4500 - l5.toInt).toNat = n → zJ79 f r C Z N S → (0 ≤ l4.toInt) → (l4.toInt ≤ 1500) → (0 ≤ l5.toInt) → ma_wp X d w 104 10 [(0, .inr (.inr (some 79))), (2, .inl l2), (3, .inl l3), (4, .inl l4), (5, .inl l5)] [] S Q := by
  intro n
  induction n using Nat.strongRecOn with
  | _ n IH =>
    intro S l2 l3 l4 l5 hmu hI  hi0 hi1 hi2
    refine g_104_79_t_10 l2 l3 l4 l5 (by omega) (by omega) (zG_T hI) ?_
    have li1 : (4500 : Int32).toInt = 4500 := rfl
    have b2 := i_bd l5
    refine zd (fun h3 => ?_) (fun h3 => ?_)
    · skip
      have g4 := i_le h3
      have li5 : (-1 : Int32).toInt = -1 := rfl
      exact K ((-1 : Int32)) _ hI (by omega)
    · skip
      have g6 := i_nle h3
      have b7 := i_bd l2
      have b8 := i_bd l4
      refine zd (fun h9 => ?_) (fun h9 => ?_)
      · skip
        have g10 := i_le h9
        have li11 : (-1 : Int32).toInt = -1 := rfl
        exact K ((-1 : Int32)) _ hI (by omega)
      · skip
        have g12 := i_nle h9
        refine sp_106_79 (l4) (by omega) (by omega) hI (by omega) (by omega) (fun v2 S1 hI_S1 hp_v2 => zi_n ⟨zG_T hI_S1, ?_⟩)
        have b13 := i_bd v2
        first | have e14 : (v2 - l4).toInt = v2.toInt - l4.toInt := i_sub (by omega) (by omega) | have b15 := i_bd (v2 - l4)
        have b16 := i_bd l3
        refine zd (fun h17 => ?_) (fun h17 => ?_)
        · skip
          have g18 := i_lt h17
          have hI19 : zJ79 f r C Z N (ma_put S1 69 12 (.inl ((mI S1 69 12) + (1 : Int32)))) := zG_fr hI_S1 rfl (by decide) (by decide) (by decide) trivial
          refine sp_105_79 (v2) (by omega) (by omega) hI19 (by omega) (fun v4 S3 hI_S3 hp_v4 => zi_n ⟨zG_T hI_S3, ?_⟩)
          have b20 := i_bd v4
          first | have e21 : (l5 + (1 : Int32)).toInt = l5.toInt + (1) := i_addk rfl (by omega) (by omega) | have b22 := i_bd (l5 + (1 : Int32))
          exact IH _ (by omega) _ (l2) (l3) (v4) ((l5 + (1 : Int32))) rfl hI_S3 (by omega) (by omega) (by omega)
        · skip
          have g23 := i_nlt h17
          have hI24 : zJ79 f r C Z N (ma_put S1 69 12 (.inl ((mI S1 69 12) + (1 : Int32)))) := zG_fr hI_S1 rfl (by decide) (by decide) (by decide) trivial
          exact K (l4) _ hI24 (by omega)
theorem sp_104_79_t {X : Nat × (Nat → Int32)} {d w : Nat} {f : Nat → Nat → Int32} {r : Nat → Nat → Option Nat} {C Z N : Nat} {Q : Option ma_V ⊕ Nat → ma_S → Prop} {S : ma_S} (a : Int32) (b : Int32) (n : Int32) (hd : 2 ≤ d) (hw : 45 ≤ w) (hI : zJ79 f r C Z N S) (hpre0 : 0 ≤ a.toInt) (K : ∀ v S', zJ79 f r C Z N S' → (-1 ≤ v.toInt ∧ v.toInt ≤ 1500) → Q (.inl (some (.inl v))) S') : ma_wp X d w 104 0 [(0, .inr (.inr (some 79))), (1, .inl a), (2, .inl b), (3, .inl n)] [] S Q := by
  refine g_104_79_t_0 a b n (by omega) (by omega) (zG_T hI) ?_
  have b1 := i_bd a
  refine sp_105_79 (a) (by omega) (by omega) hI (by omega) (fun v2 S1 hI_S1 hp_v2 => zi_n ⟨zG_T hI_S1, ?_⟩)
  have b2 := i_bd b
  have b3 := i_bd n
  have b4 := i_bd v2
  have li5 : (0 : Int32).toInt = 0 := rfl
  exact lp_104_79_t_10 (by omega) (by omega) K _ _ (b) (n) (v2) ((0 : Int32)) rfl hI_S1 (by omega) (by omega) (by omega)
theorem g_107_79_t_0 {X : Nat × (Nat → Int32)} {d w : Nat} {S : ma_S} {Q : Option ma_V ⊕ Nat → ma_S → Prop} (n : Int32) (hd : 3 ≤ d) (hw : 71 ≤ w) (hS : zT S) (h : ma_wp X (d - 1) (w - 26) 104 0 [(0, .inr (.inr (some 79))), (1, .inl (mI S 79 4)), (2, .inl (mI S 79 2)), (3, .inl n)] [] S (zi (fun v2 S1 => zT S1 ∧ (if v2 = (-1 : Int32) then (ma_wp X (d - 1) (w - 26) 104 0 [(0, .inr (.inr (some 79))), (1, .inl (0 : Int32)), (2, .inl (mI S1 79 4)), (3, .inl n)] [] S1 (zi (fun v4 S3 => zT S3 ∧ (Q (.inl (some (.inl v4))) S3)) (fun x S9 => Q (.inr x) S9))) else (Q (.inl (some (.inl v2))) S1))) (fun x S9 => Q (.inr x) S9))) : ma_wp X d w 107 0 [(0, .inr (.inr (some 79))), (1, .inl n)] [] S Q := by
  refine zw_push hm_107 dX8_fitNext_0 (v := .inr (.inr (some 79))) rfl ?_
  refine zw_push hm_107 dX8_fitNext_1 (v := .inr (.inr (some 79))) rfl ?_
  refine zw_gf hm_107 dX8_fitNext_2 (v := .inl (mI S 79 4)) (zT_is hS s_79) (zT_t hS s_79) rfl f_8_18_8 rfl ?_
  refine zw_push hm_107 dX8_fitNext_5 (v := .inr (.inr (some 79))) rfl ?_
  refine zw_gf hm_107 dX8_fitNext_6 (v := .inl (mI S 79 2)) (zT_is hS s_79) (zT_t hS s_79) rfl f_8_9_8 rfl ?_
  refine zw_push hm_107 dX8_fitNext_9 (v := .inl n) rfl ?_
  refine zw_cv hm_107 dX8_fitNext_10 v_8_56_8 hm_104 [.inl n, .inl (mI S 79 2), .inl (mI S 79 4)] [] rfl (zT_rt hS s_79 rfl) ⟨by omega, by omega⟩ rfl (zw_mono h (zi_go ?_ ?_))
  · intro v2 S1 hv
    obtain ⟨hS1, h⟩ := hv
    refine zw_sto hm_107 dX8_fitNext_13 [(2, .inl v2), (0, .inr (.inr (some 79))), (1, .inl n)] rfl rfl rfl ?_
    refine zw_push hm_107 dX8_fitNext_14 (v := .inl v2) rfl ?_
    refine zw_push hm_107 dX8_fitNext_15 (v := .inl (-1 : Int32)) rfl ?_
    refine zw_if2 hm_107 dX8_fitNext_16 (t := 23) rfl zc2_eq ?_ ?_
    · intro hc
      rw [if_pos hc] at h
      refine zw_push hm_107 dX8_fitNext_23 (v := .inr (.inr (some 79))) rfl ?_
      refine zw_push hm_107 dX8_fitNext_24 (v := .inl (0 : Int32)) rfl ?_
      refine zw_push hm_107 dX8_fitNext_25 (v := .inr (.inr (some 79))) rfl ?_
      refine zw_gf hm_107 dX8_fitNext_26 (v := .inl (mI S1 79 4)) (zT_is hS1 s_79) (zT_t hS1 s_79) rfl f_8_18_8 rfl ?_
      refine zw_push hm_107 dX8_fitNext_29 (v := .inl n) rfl ?_
      refine zw_cv hm_107 dX8_fitNext_30 v_8_56_8 hm_104 [.inl n, .inl (mI S1 79 4), .inl (0 : Int32)] [] rfl (zT_rt hS1 s_79 rfl) ⟨by omega, by omega⟩ rfl (zw_mono h (zi_go ?_ ?_))
      · intro v4 S3 hv
        obtain ⟨hS3, h⟩ := hv
        exact zw_iret hm_107 dX8_fitNext_33 h
      · intro x S9 hx
        exact ⟨by decide, hx⟩
    · intro hc
      rw [if_neg hc] at h
      refine zw_push hm_107 dX8_fitNext_19 (v := .inl v2) rfl ?_
      refine zw_goto hm_107 dX8_fitNext_20 (t := 33) rfl ?_
      exact zw_iret hm_107 dX8_fitNext_33 h
  · intro x S9 hx
    exact ⟨by decide, hx⟩
theorem sp_107_79_t {X : Nat × (Nat → Int32)} {d w : Nat} {f : Nat → Nat → Int32} {r : Nat → Nat → Option Nat} {C Z N : Nat} {Q : Option ma_V ⊕ Nat → ma_S → Prop} {S : ma_S} (n : Int32) (hd : 3 ≤ d) (hw : 71 ≤ w) (hI : zJ79 f r C Z N S)  (K : ∀ v S', zJ79 f r C Z N S' → (-1 ≤ v.toInt ∧ v.toInt ≤ 1500) → Q (.inl (some (.inl v))) S') : ma_wp X d w 107 0 [(0, .inr (.inr (some 79))), (1, .inl n)] [] S Q := by
  refine g_107_79_t_0 n (by omega) (by omega) (zG_T hI) ?_
  have f1 := zG_s hI (0) (400000) (c := 79) (k := 4) (by decide)
  have f2 := zG_s hI (0) (1500) (c := 79) (k := 2) (by decide)
  have b3 := i_bd n
  refine sp_104_79_t ((mI S 79 4)) ((mI S 79 2)) (n) (by omega) (by omega) hI (by omega) (fun v2 S1 hI_S1 hp_v2 => zi_n ⟨zG_T hI_S1, ?_⟩)
  have b4 := i_bd v2
  have li5 : (-1 : Int32).toInt = -1 := rfl
  refine zd (fun h6 => ?_) (fun h6 => ?_)
  · skip
    have g7 := i_eq h6
    have li8 : (0 : Int32).toInt = 0 := rfl
    have f9 := zG_s hI_S1 (0) (400000) (c := 79) (k := 4) (by decide)
    refine sp_104_79_t ((0 : Int32)) ((mI S1 79 4)) (n) (by omega) (by omega) hI_S1 (by omega) (fun v4 S3 hI_S3 hp_v4 => zi_n ⟨zG_T hI_S3, ?_⟩)
    have b10 := i_bd v4
    exact K (v4) _ hI_S3 (by omega)
  · skip
    have g11 := i_ne h6
    exact K (v2) _ hI_S1 (by omega)
