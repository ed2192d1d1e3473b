/-! the class opens a heap (written by wip/tools/gen20h.py) -/
theorem g_127_64_sh_0 {X : Nat × (Nat → Int32)} {d w : Nat} {S : ma_S} {Q : Option ma_V ⊕ Nat → ma_S → Prop}  (hd : 9 ≤ d) (hw : 186 ≤ w) (hS : zT S) (h : ma_wp X (d - 1) (w - 23) 128 0 [(0, .inr (.inr (some 64)))] [] S (zi (fun v2 S1 => zT S1 ∧ (if v2 < 0 then (Q (.inl (some (.inl ((-1 : Int32) - (mI S1 64 2))))) (ma_put S1 64 1 (.inl (0 : Int32)))) else (if v2 < (7 : Int32) then (ma_wp X d w 127 30 [(0, .inr (.inr (some 64))), (1, .inl v2)] [] (ma_put S1 64 1 (.inl (0 : Int32))) Q) else (Q (.inl (some (.inl ((-1 : Int32) - (mI S1 64 2))))) (ma_put S1 64 1 (.inl (0 : Int32))))))) (fun x S9 => Q (.inr x) S9))) : ma_wp X d w 127 0 [(0, .inr (.inr (some 64)))] [] S Q := by
  refine zw_push hm_127 dX11_heap_0 (v := .inr (.inr (some 64))) rfl ?_
  refine zw_cv hm_127 dX11_heap_1 v_11_88_11 hm_128 [] [] rfl (zT_rt hS s_64 rfl) ⟨by omega, by omega⟩ rfl (zw_mono h (zi_go ?_ ?_))
  · intro v2 S1 hv
    obtain ⟨hS1, h⟩ := hv
    refine zw_sto hm_127 dX11_heap_4 [(1, .inl v2), (0, .inr (.inr (some 64)))] rfl rfl rfl ?_
    refine zw_push hm_127 dX11_heap_5 (v := .inr (.inr (some 64))) rfl ?_
    refine zw_push hm_127 dX11_heap_6 (v := .inl (0 : Int32)) rfl ?_
    refine zw_pf hm_127 dX11_heap_7 (zT_is hS1 s_64) (zT_t hS1 s_64) p_11_68_11 zk_int ?_
    refine zw_push hm_127 dX11_heap_10 (v := .inl v2) rfl ?_
    refine zw_if0 hm_127 dX11_heap_11 (t := 23) rfl zc0_lt ?_ ?_
    · intro hc
      rw [if_pos hc] at h
      refine zw_push hm_127 dX11_heap_23 (v := .inl (-1 : Int32)) rfl ?_
      refine zw_push hm_127 dX11_heap_24 (v := .inr (.inr (some 64))) rfl ?_
      refine zw_gf hm_127 dX11_heap_25 (v := .inl (mI S1 64 2)) (zT_is (zT_pi hS1) s_64) (zT_t (zT_pi hS1) s_64) rfl f_11_92_11 rfl ?_
      refine zw_stk hm_127 dX11_heap_28 (st' := [.inl ((-1 : Int32) - (mI S1 64 2))]) rfl rfl ?_
      exact zw_iret hm_127 dX11_heap_29 h
    · intro hc
      rw [if_neg hc] at h
      refine zw_push hm_127 dX11_heap_14 (v := .inl v2) rfl ?_
      refine zw_push hm_127 dX11_heap_15 (v := .inr (.inr (some 64))) rfl ?_
      refine zw_gf hm_127 dX11_heap_16 (v := .inr (.inr (some 78))) (zT_is (zT_pi hS1) s_64) (zT_t (zT_pi hS1) s_64) rfl f_11_64_11 (zT_f (zT_pi hS1) r_64_10) ?_
      refine zw_len hm_127 dX11_heap_19 (v := (7 : Int32)) (zT_is (zT_pi hS1) s_78) (zT_h (zT_pi hS1) s_78) rfl rfl ?_
      refine zw_if2 hm_127 dX11_heap_20 (t := 30) rfl zc2_lt ?_ ?_
      · intro hc
        rw [if_pos hc] at h
        exact zw_sub (ma_nd_of (ks := [0, 1]) rfl (by decide)) (ma_nd_of (ks := [1, 0]) rfl (by decide)) (ma_le_cons rfl (ma_le_cons rfl (ma_le_nil _))) h
      · intro hc
        rw [if_neg hc] at h
        refine zw_push hm_127 dX11_heap_23 (v := .inl (-1 : Int32)) rfl ?_
        refine zw_push hm_127 dX11_heap_24 (v := .inr (.inr (some 64))) rfl ?_
        refine zw_gf hm_127 dX11_heap_25 (v := .inl (mI S1 64 2)) (zT_is (zT_pi hS1) s_64) (zT_t (zT_pi hS1) s_64) rfl f_11_92_11 rfl ?_
        refine zw_stk hm_127 dX11_heap_28 (st' := [.inl ((-1 : Int32) - (mI S1 64 2))]) rfl rfl ?_
        exact zw_iret hm_127 dX11_heap_29 h
  · intro x S9 hx
    exact ⟨by decide, hx⟩
theorem g_127_64_sh_30 {X : Nat × (Nat → Int32)} {d w : Nat} {S : ma_S} {Q : Option ma_V ⊕ Nat → ma_S → Prop} (l1 : Int32) (hd : 9 ≤ d) (hw : 186 ≤ w) (hS : zT S) (h : ma_wp X (d - 1) (w - 21) 80 0 [(0, .inr (.inr (some 69)))] [] S (zv (fun S1 => zT S1 ∧ (if l1 = (0 : Int32) then (ma_wp X (d - 1) (w - 21) 100 0 [(0, .inr (.inr (some 79))), (1, .inr (.inr (some 66)))] [] (ma_put S1 64 11 (.inr (.inr (some 79)))) (zv (fun S3 => zT S3 ∧ (mR S3 64 11 = some 79 ∧ (ma_wp X (d - 1) (w - 20) 101 0 [(0, .inr (.inr (some 79)))] [] S3 (zi (fun v6 S5 => zT S5 ∧ (Q (.inl (some (.inl v6))) S5)) (fun _ _ => False))))) (fun _ _ => False))) else (if l1 = (1 : Int32) then (ma_wp X (d - 1) (w - 21) 59 0 [(0, .inr (.inr (some 80))), (1, .inr (.inr (some 66)))] [] (ma_put S1 64 11 (.inr (.inr (some 80)))) (zv (fun S7 => zT S7 ∧ (mR S7 64 11 = some 80 ∧ (ma_wp X (d - 1) (w - 20) 60 0 [(0, .inr (.inr (some 80)))] [] S7 (zi (fun v10 S9 => zT S9 ∧ (Q (.inl (some (.inl v10))) S9)) (fun _ _ => False))))) (fun _ _ => False))) else (if l1 = (2 : Int32) then (ma_wp X (d - 1) (w - 21) 29 0 [(0, .inr (.inr (some 81))), (1, .inr (.inr (some 66)))] [] (ma_put S1 64 11 (.inr (.inr (some 81)))) (zv (fun S11 => zT S11 ∧ (mR S11 64 11 = some 81 ∧ (ma_wp X (d - 1) (w - 20) 30 0 [(0, .inr (.inr (some 81)))] [] S11 (zi (fun v14 S13 => zT S13 ∧ (Q (.inl (some (.inl v14))) S13)) (fun _ _ => False))))) (fun _ _ => False))) else (if l1 = (3 : Int32) then (ma_wp X (d - 1) (w - 21) 1 0 [(0, .inr (.inr (some 82))), (1, .inr (.inr (some 66)))] [] (ma_put S1 64 11 (.inr (.inr (some 82)))) (zv (fun S15 => zT S15 ∧ (mR S15 64 11 = some 82 ∧ (ma_wp X (d - 1) (w - 20) 2 0 [(0, .inr (.inr (some 82)))] [] S15 (zi (fun v18 S17 => zT S17 ∧ (Q (.inl (some (.inl v18))) S17)) (fun _ _ => False))))) (fun _ _ => False))) else (if l1 = (4 : Int32) then (ma_wp X (d - 1) (w - 21) 100 0 [(0, .inr (.inr (some 84))), (1, .inr (.inr (some 66)))] [] (ma_put S1 64 11 (.inr (.inr (some 84)))) (zv (fun S19 => zT S19 ∧ (mR S19 64 11 = some 84 ∧ (ma_wp X (d - 1) (w - 20) 101 0 [(0, .inr (.inr (some 84)))] [] S19 (zi (fun v22 S21 => zT S21 ∧ (Q (.inl (some (.inl v22))) S21)) (fun _ _ => False))))) (fun _ _ => False))) else (if l1 = (5 : Int32) then (ma_wp X (d - 1) (w - 21) 66 0 [(0, .inr (.inr (some 87))), (1, .inr (.inr (some 66)))] [] (ma_put S1 64 11 (.inr (.inr (some 87)))) (zv (fun S23 => zT S23 ∧ (mR S23 64 11 = some 87 ∧ (ma_wp X (d - 1) (w - 20) 101 0 [(0, .inr (.inr (some 87)))] [] S23 (zi (fun v26 S25 => zT S25 ∧ (Q (.inl (some (.inl v26))) S25)) (fun _ _ => False))))) (fun _ _ => False))) else (if l1 = (6 : Int32) then (ma_wp X (d - 1) (w - 21) 38 0 [(0, .inr (.inr (some 91))), (1, .inr (.inr (some 66)))] [] (ma_put S1 64 11 (.inr (.inr (some 91)))) (zv (fun S27 => zT S27 ∧ (mR S27 64 11 = some 91 ∧ (ma_wp X (d - 1) (w - 20) 39 0 [(0, .inr (.inr (some 91)))] [] S27 (zi (fun v30 S29 => zT S29 ∧ (Q (.inl (some (.inl v30))) S29)) (fun _ _ => False))))) (fun _ _ => False))) else (False))))))))) (fun x S9 => Q (.inr x) S9))) : ma_wp X d w 127 30 [(0, .inr (.inr (some 64))), (1, .inl l1)] [] S Q := by
  refine zw_push hm_127 dX11_heap_30 (v := .inr (.inr (some 64))) rfl ?_
  refine zw_gf hm_127 dX11_heap_31 (v := .inr (.inr (some 69))) (zT_is hS s_64) (zT_t hS s_64) rfl f_11_26_11 (zT_f hS r_64_8) ?_
  refine zw_cv hm_127 dX11_heap_34 v_11_95_7 hm_80 [] [] rfl (zT_rt hS s_69 rfl) ⟨by omega, by omega⟩ rfl (zw_mono h (zv_go ?_ ?_))
  · intro S1 hv
    obtain ⟨hS1, h⟩ := hv
    refine zw_push hm_127 dX11_heap_37 (v := .inr (.inr (some 64))) rfl ?_
    refine zw_push hm_127 dX11_heap_38 (v := .inr (.inr (some 64))) rfl ?_
    refine zw_gf hm_127 dX11_heap_39 (v := .inr (.inr (some 78))) (zT_is hS1 s_64) (zT_t hS1 s_64) rfl f_11_64_11 (zT_f hS1 r_64_10) ?_
    refine zw_push hm_127 dX11_heap_42 (v := .inl l1) rfl ?_
    by_cases hc0 : l1 = (0 : Int32)
    · rw [if_pos hc0] at h
      have h9 := h
      subst hc0
      have h := h9
      refine zw_aa hm_127 dX11_heap_43 (zT_is hS1 s_78) (zT_h hS1 s_78) rfl rfl ⟨by decide, by decide⟩ (zT_r hS1 r_78_0) ?_
      show ma_wp X d w 127 44 [(0, .inr (.inr (some 64))), (1, .inl (0 : Int32))] [.inr (.inr (some 79)), .inr (.inr (some 64))] S1 _
      refine zw_pf hm_127 dX11_heap_44 (zT_is hS1 s_64) (zT_t hS1 s_64) p_11_98_11 rfl ?_
      refine zw_push hm_127 dX11_heap_47 (v := .inr (.inr (some 64))) rfl ?_
      refine zw_gf hm_127 dX11_heap_48 (v := .inr (.inr (some 79))) (zT_is (zT_pr hS1 rfl) s_64) (zT_t (zT_pr hS1 rfl) s_64) rfl f_11_98_11 rfl ?_
      refine zw_push hm_127 dX11_heap_51 (v := .inr (.inr (some 64))) rfl ?_
      refine zw_gf hm_127 dX11_heap_52 (v := .inr (.inr (some 66))) (zT_is (zT_pr hS1 rfl) s_64) (zT_t (zT_pr hS1 rfl) s_64) rfl f_11_13_11 (zT_f (zT_pr hS1 rfl) r_64_4) ?_
      refine zw_cv hm_127 dX11_heap_55 v_11_102_8 hm_100 [.inr (.inr (some 66))] [] rfl (zT_rt (zT_pr hS1 rfl) s_79 rfl) ⟨by omega, by omega⟩ rfl (zw_mono h (zv_go ?_ ?_))
      · intro S3 hv
        obtain ⟨hS3, h⟩ := hv
        refine zw_push hm_127 dX11_heap_58 (v := .inr (.inr (some 64))) rfl ?_
        obtain ⟨hg, h⟩ := h
        refine zw_gf hm_127 dX11_heap_59 (v := .inr (.inr (some 79))) (zT_is hS3 s_64) (zT_t hS3 s_64) rfl f_11_98_11 (congrArg (fun z => Sum.inr (Sum.inr z)) hg) ?_
        refine zw_cv hm_127 dX11_heap_62 v_11_106_8 hm_101 [] [] rfl (zT_rt hS3 s_79 rfl) ⟨by omega, by omega⟩ rfl (zw_mono h (zi_go ?_ ?_))
        · intro v6 S5 hv
          obtain ⟨hS5, h⟩ := hv
          exact zw_iret hm_127 dX11_heap_65 h
        · intro x S9 hx
          exact hx.elim
      · intro x S9 hx
        exact hx.elim
    rw [if_neg hc0] at h
    by_cases hc1 : l1 = (1 : Int32)
    · rw [if_pos hc1] at h
      have h9 := h
      subst hc1
      have h := h9
      refine zw_aa hm_127 dX11_heap_43 (zT_is hS1 s_78) (zT_h hS1 s_78) rfl rfl ⟨by decide, by decide⟩ (zT_r hS1 r_78_1) ?_
      show ma_wp X d w 127 44 [(0, .inr (.inr (some 64))), (1, .inl (1 : Int32))] [.inr (.inr (some 80)), .inr (.inr (some 64))] S1 _
      refine zw_pf hm_127 dX11_heap_44 (zT_is hS1 s_64) (zT_t hS1 s_64) p_11_98_11 rfl ?_
      refine zw_push hm_127 dX11_heap_47 (v := .inr (.inr (some 64))) rfl ?_
      refine zw_gf hm_127 dX11_heap_48 (v := .inr (.inr (some 80))) (zT_is (zT_pr hS1 rfl) s_64) (zT_t (zT_pr hS1 rfl) s_64) rfl f_11_98_11 rfl ?_
      refine zw_push hm_127 dX11_heap_51 (v := .inr (.inr (some 64))) rfl ?_
      refine zw_gf hm_127 dX11_heap_52 (v := .inr (.inr (some 66))) (zT_is (zT_pr hS1 rfl) s_64) (zT_t (zT_pr hS1 rfl) s_64) rfl f_11_13_11 (zT_f (zT_pr hS1 rfl) r_64_4) ?_
      refine zw_cv hm_127 dX11_heap_55 v_11_102_5 hm_59 [.inr (.inr (some 66))] [] rfl (zT_rt (zT_pr hS1 rfl) s_80 rfl) ⟨by omega, by omega⟩ rfl (zw_mono h (zv_go ?_ ?_))
      · intro S7 hv
        obtain ⟨hS7, h⟩ := hv
        refine zw_push hm_127 dX11_heap_58 (v := .inr (.inr (some 64))) rfl ?_
        obtain ⟨hg, h⟩ := h
        refine zw_gf hm_127 dX11_heap_59 (v := .inr (.inr (some 80))) (zT_is hS7 s_64) (zT_t hS7 s_64) rfl f_11_98_11 (congrArg (fun z => Sum.inr (Sum.inr z)) hg) ?_
        refine zw_cv hm_127 dX11_heap_62 v_11_106_5 hm_60 [] [] rfl (zT_rt hS7 s_80 rfl) ⟨by omega, by omega⟩ rfl (zw_mono h (zi_go ?_ ?_))
        · intro v10 S9 hv
          obtain ⟨hS9, h⟩ := hv
          exact zw_iret hm_127 dX11_heap_65 h
        · intro x S9 hx
          exact hx.elim
      · intro x S9 hx
        exact hx.elim
    rw [if_neg hc1] at h
    by_cases hc2 : l1 = (2 : Int32)
    · rw [if_pos hc2] at h
      have h9 := h
      subst hc2
      have h := h9
      refine zw_aa hm_127 dX11_heap_43 (zT_is hS1 s_78) (zT_h hS1 s_78) rfl rfl ⟨by decide, by decide⟩ (zT_r hS1 r_78_2) ?_
      show ma_wp X d w 127 44 [(0, .inr (.inr (some 64))), (1, .inl (2 : Int32))] [.inr (.inr (some 81)), .inr (.inr (some 64))] S1 _
      refine zw_pf hm_127 dX11_heap_44 (zT_is hS1 s_64) (zT_t hS1 s_64) p_11_98_11 rfl ?_
      refine zw_push hm_127 dX11_heap_47 (v := .inr (.inr (some 64))) rfl ?_
      refine zw_gf hm_127 dX11_heap_48 (v := .inr (.inr (some 81))) (zT_is (zT_pr hS1 rfl) s_64) (zT_t (zT_pr hS1 rfl) s_64) rfl f_11_98_11 rfl ?_
      refine zw_push hm_127 dX11_heap_51 (v := .inr (.inr (some 64))) rfl ?_
      refine zw_gf hm_127 dX11_heap_52 (v := .inr (.inr (some 66))) (zT_is (zT_pr hS1 rfl) s_64) (zT_t (zT_pr hS1 rfl) s_64) rfl f_11_13_11 (zT_f (zT_pr hS1 rfl) r_64_4) ?_
      refine zw_cv hm_127 dX11_heap_55 v_11_102_3 hm_29 [.inr (.inr (some 66))] [] rfl (zT_rt (zT_pr hS1 rfl) s_81 rfl) ⟨by omega, by omega⟩ rfl (zw_mono h (zv_go ?_ ?_))
      · intro S11 hv
        obtain ⟨hS11, h⟩ := hv
        refine zw_push hm_127 dX11_heap_58 (v := .inr (.inr (some 64))) rfl ?_
        obtain ⟨hg, h⟩ := h
        refine zw_gf hm_127 dX11_heap_59 (v := .inr (.inr (some 81))) (zT_is hS11 s_64) (zT_t hS11 s_64) rfl f_11_98_11 (congrArg (fun z => Sum.inr (Sum.inr z)) hg) ?_
        refine zw_cv hm_127 dX11_heap_62 v_11_106_3 hm_30 [] [] rfl (zT_rt hS11 s_81 rfl) ⟨by omega, by omega⟩ rfl (zw_mono h (zi_go ?_ ?_))
        · intro v14 S13 hv
          obtain ⟨hS13, h⟩ := hv
          exact zw_iret hm_127 dX11_heap_65 h
        · intro x S9 hx
          exact hx.elim
      · intro x S9 hx
        exact hx.elim
    rw [if_neg hc2] at h
    by_cases hc3 : l1 = (3 : Int32)
    · rw [if_pos hc3] at h
      have h9 := h
      subst hc3
      have h := h9
      refine zw_aa hm_127 dX11_heap_43 (zT_is hS1 s_78) (zT_h hS1 s_78) rfl rfl ⟨by decide, by decide⟩ (zT_r hS1 r_78_3) ?_
      show ma_wp X d w 127 44 [(0, .inr (.inr (some 64))), (1, .inl (3 : Int32))] [.inr (.inr (some 82)), .inr (.inr (some 64))] S1 _
      refine zw_pf hm_127 dX11_heap_44 (zT_is hS1 s_64) (zT_t hS1 s_64) p_11_98_11 rfl ?_
      refine zw_push hm_127 dX11_heap_47 (v := .inr (.inr (some 64))) rfl ?_
      refine zw_gf hm_127 dX11_heap_48 (v := .inr (.inr (some 82))) (zT_is (zT_pr hS1 rfl) s_64) (zT_t (zT_pr hS1 rfl) s_64) rfl f_11_98_11 rfl ?_
      refine zw_push hm_127 dX11_heap_51 (v := .inr (.inr (some 64))) rfl ?_
      refine zw_gf hm_127 dX11_heap_52 (v := .inr (.inr (some 66))) (zT_is (zT_pr hS1 rfl) s_64) (zT_t (zT_pr hS1 rfl) s_64) rfl f_11_13_11 (zT_f (zT_pr hS1 rfl) r_64_4) ?_
      refine zw_cv hm_127 dX11_heap_55 v_11_102_1 hm_1 [.inr (.inr (some 66))] [] rfl (zT_rt (zT_pr hS1 rfl) s_82 rfl) ⟨by omega, by omega⟩ rfl (zw_mono h (zv_go ?_ ?_))
      · intro S15 hv
        obtain ⟨hS15, h⟩ := hv
        refine zw_push hm_127 dX11_heap_58 (v := .inr (.inr (some 64))) rfl ?_
        obtain ⟨hg, h⟩ := h
        refine zw_gf hm_127 dX11_heap_59 (v := .inr (.inr (some 82))) (zT_is hS15 s_64) (zT_t hS15 s_64) rfl f_11_98_11 (congrArg (fun z => Sum.inr (Sum.inr z)) hg) ?_
        refine zw_cv hm_127 dX11_heap_62 v_11_106_1 hm_2 [] [] rfl (zT_rt hS15 s_82 rfl) ⟨by omega, by omega⟩ rfl (zw_mono h (zi_go ?_ ?_))
        · intro v18 S17 hv
          obtain ⟨hS17, h⟩ := hv
          exact zw_iret hm_127 dX11_heap_65 h
        · intro x S9 hx
          exact hx.elim
      · intro x S9 hx
        exact hx.elim
    rw [if_neg hc3] at h
    by_cases hc4 : l1 = (4 : Int32)
    · rw [if_pos hc4] at h
      have h9 := h
      subst hc4
      have h := h9
      refine zw_aa hm_127 dX11_heap_43 (zT_is hS1 s_78) (zT_h hS1 s_78) rfl rfl ⟨by decide, by decide⟩ (zT_r hS1 r_78_4) ?_
      show ma_wp X d w 127 44 [(0, .inr (.inr (some 64))), (1, .inl (4 : Int32))] [.inr (.inr (some 84)), .inr (.inr (some 64))] S1 _
      refine zw_pf hm_127 dX11_heap_44 (zT_is hS1 s_64) (zT_t hS1 s_64) p_11_98_11 rfl ?_
      refine zw_push hm_127 dX11_heap_47 (v := .inr (.inr (some 64))) rfl ?_
      refine zw_gf hm_127 dX11_heap_48 (v := .inr (.inr (some 84))) (zT_is (zT_pr hS1 rfl) s_64) (zT_t (zT_pr hS1 rfl) s_64) rfl f_11_98_11 rfl ?_
      refine zw_push hm_127 dX11_heap_51 (v := .inr (.inr (some 64))) rfl ?_
      refine zw_gf hm_127 dX11_heap_52 (v := .inr (.inr (some 66))) (zT_is (zT_pr hS1 rfl) s_64) (zT_t (zT_pr hS1 rfl) s_64) rfl f_11_13_11 (zT_f (zT_pr hS1 rfl) r_64_4) ?_
      refine zw_cv hm_127 dX11_heap_55 v_11_102_2 hm_100 [.inr (.inr (some 66))] [] rfl (zT_rt (zT_pr hS1 rfl) s_84 rfl) ⟨by omega, by omega⟩ rfl (zw_mono h (zv_go ?_ ?_))
      · intro S19 hv
        obtain ⟨hS19, h⟩ := hv
        refine zw_push hm_127 dX11_heap_58 (v := .inr (.inr (some 64))) rfl ?_
        obtain ⟨hg, h⟩ := h
        refine zw_gf hm_127 dX11_heap_59 (v := .inr (.inr (some 84))) (zT_is hS19 s_64) (zT_t hS19 s_64) rfl f_11_98_11 (congrArg (fun z => Sum.inr (Sum.inr z)) hg) ?_
        refine zw_cv hm_127 dX11_heap_62 v_11_106_2 hm_101 [] [] rfl (zT_rt hS19 s_84 rfl) ⟨by omega, by omega⟩ rfl (zw_mono h (zi_go ?_ ?_))
        · intro v22 S21 hv
          obtain ⟨hS21, h⟩ := hv
          exact zw_iret hm_127 dX11_heap_65 h
        · intro x S9 hx
          exact hx.elim
      · intro x S9 hx
        exact hx.elim
    rw [if_neg hc4] at h
    by_cases hc5 : l1 = (5 : Int32)
    · rw [if_pos hc5] at h
      have h9 := h
      subst hc5
      have h := h9
      refine zw_aa hm_127 dX11_heap_43 (zT_is hS1 s_78) (zT_h hS1 s_78) rfl rfl ⟨by decide, by decide⟩ (zT_r hS1 r_78_5) ?_
      show ma_wp X d w 127 44 [(0, .inr (.inr (some 64))), (1, .inl (5 : Int32))] [.inr (.inr (some 87)), .inr (.inr (some 64))] S1 _
      refine zw_pf hm_127 dX11_heap_44 (zT_is hS1 s_64) (zT_t hS1 s_64) p_11_98_11 rfl ?_
      refine zw_push hm_127 dX11_heap_47 (v := .inr (.inr (some 64))) rfl ?_
      refine zw_gf hm_127 dX11_heap_48 (v := .inr (.inr (some 87))) (zT_is (zT_pr hS1 rfl) s_64) (zT_t (zT_pr hS1 rfl) s_64) rfl f_11_98_11 rfl ?_
      refine zw_push hm_127 dX11_heap_51 (v := .inr (.inr (some 64))) rfl ?_
      refine zw_gf hm_127 dX11_heap_52 (v := .inr (.inr (some 66))) (zT_is (zT_pr hS1 rfl) s_64) (zT_t (zT_pr hS1 rfl) s_64) rfl f_11_13_11 (zT_f (zT_pr hS1 rfl) r_64_4) ?_
      refine zw_cv hm_127 dX11_heap_55 v_11_102_6 hm_66 [.inr (.inr (some 66))] [] rfl (zT_rt (zT_pr hS1 rfl) s_87 rfl) ⟨by omega, by omega⟩ rfl (zw_mono h (zv_go ?_ ?_))
      · intro S23 hv
        obtain ⟨hS23, h⟩ := hv
        refine zw_push hm_127 dX11_heap_58 (v := .inr (.inr (some 64))) rfl ?_
        obtain ⟨hg, h⟩ := h
        refine zw_gf hm_127 dX11_heap_59 (v := .inr (.inr (some 87))) (zT_is hS23 s_64) (zT_t hS23 s_64) rfl f_11_98_11 (congrArg (fun z => Sum.inr (Sum.inr z)) hg) ?_
        refine zw_cv hm_127 dX11_heap_62 v_11_106_6 hm_101 [] [] rfl (zT_rt hS23 s_87 rfl) ⟨by omega, by omega⟩ rfl (zw_mono h (zi_go ?_ ?_))
        · intro v26 S25 hv
          obtain ⟨hS25, h⟩ := hv
          exact zw_iret hm_127 dX11_heap_65 h
        · intro x S9 hx
          exact hx.elim
      · intro x S9 hx
        exact hx.elim
    rw [if_neg hc5] at h
    by_cases hc6 : l1 = (6 : Int32)
    · rw [if_pos hc6] at h
      have h9 := h
      subst hc6
      have h := h9
      refine zw_aa hm_127 dX11_heap_43 (zT_is hS1 s_78) (zT_h hS1 s_78) rfl rfl ⟨by decide, by decide⟩ (zT_r hS1 r_78_6) ?_
      show ma_wp X d w 127 44 [(0, .inr (.inr (some 64))), (1, .inl (6 : Int32))] [.inr (.inr (some 91)), .inr (.inr (some 64))] S1 _
      refine zw_pf hm_127 dX11_heap_44 (zT_is hS1 s_64) (zT_t hS1 s_64) p_11_98_11 rfl ?_
      refine zw_push hm_127 dX11_heap_47 (v := .inr (.inr (some 64))) rfl ?_
      refine zw_gf hm_127 dX11_heap_48 (v := .inr (.inr (some 91))) (zT_is (zT_pr hS1 rfl) s_64) (zT_t (zT_pr hS1 rfl) s_64) rfl f_11_98_11 rfl ?_
      refine zw_push hm_127 dX11_heap_51 (v := .inr (.inr (some 64))) rfl ?_
      refine zw_gf hm_127 dX11_heap_52 (v := .inr (.inr (some 66))) (zT_is (zT_pr hS1 rfl) s_64) (zT_t (zT_pr hS1 rfl) s_64) rfl f_11_13_11 (zT_f (zT_pr hS1 rfl) r_64_4) ?_
      refine zw_cv hm_127 dX11_heap_55 v_11_102_4 hm_38 [.inr (.inr (some 66))] [] rfl (zT_rt (zT_pr hS1 rfl) s_91 rfl) ⟨by omega, by omega⟩ rfl (zw_mono h (zv_go ?_ ?_))
      · intro S27 hv
        obtain ⟨hS27, h⟩ := hv
        refine zw_push hm_127 dX11_heap_58 (v := .inr (.inr (some 64))) rfl ?_
        obtain ⟨hg, h⟩ := h
        refine zw_gf hm_127 dX11_heap_59 (v := .inr (.inr (some 91))) (zT_is hS27 s_64) (zT_t hS27 s_64) rfl f_11_98_11 (congrArg (fun z => Sum.inr (Sum.inr z)) hg) ?_
        refine zw_cv hm_127 dX11_heap_62 v_11_106_4 hm_39 [] [] rfl (zT_rt hS27 s_91 rfl) ⟨by omega, by omega⟩ rfl (zw_mono h (zi_go ?_ ?_))
        · intro v30 S29 hv
          obtain ⟨hS29, h⟩ := hv
          exact zw_iret hm_127 dX11_heap_65 h
        · intro x S9 hx
          exact hx.elim
      · intro x S9 hx
        exact hx.elim
    rw [if_neg hc6] at h
    exact h.elim
  · intro x S9 hx
    exact ⟨by decide, hx⟩
theorem lp_127_64_sh_30 {X : Nat × (Nat → Int32)} {d w : Nat} {f : Nat → Nat → Int32} {r : Nat → Nat → Option Nat} {C Z N : Nat} {Q : Option ma_V ⊕ Nat → ma_S → Prop} {zt : Nat→Int32} {zn : Int} {a8 : Nat→Nat→Int32} {J0 : Nat→Nat→Int32} {JL : Nat→Nat→Int64} {JR : zRT} {k67 : Nat→Int32} {k68 : Nat→Int32} (hd : 9 ≤ d) (hw : 186 ≤ w) (K : ∀ v S' r', (r' = r ∨ ∃ p, p ∈ zcl7 ∧ r' = zrp r p) → zA f r' C Z N S' → ((mI S' 64 1).toInt = 0) → ((zAns zt zn < 0 ∧ r' 64 11 = r 64 11 ∧ zFm J0 JL JR S') ∨ (0 ≤ zAns zt zn ∧ ((qPo zt zn = 0 ∧ r' 64 11 = some 79 ∧ xB S' (mR S' 70) ∧ aS 88 S' = aFg a8 ∧ zfP 79 (mI S') 2 = 0 ∧ (zfP 79 (mI S') 0).toInt = zVal zt zn 0 1 ∧ (zfP 79 (mI S') 1).toInt = zVal zt zn 6 2) ∨ (qPo zt zn = 4 ∧ r' 64 11 = some 84 ∧ xB S' (mR S' 70) ∧ aS 88 S' = aFg a8 ∧ zfP 84 (mI S') 2 = 0 ∧ (zfP 84 (mI S') 0).toInt = zVal zt zn 0 1 ∧ (zfP 84 (mI S') 1).toInt = zVal zt zn 6 2) ∨ (qPo zt zn = 5 ∧ r' 64 11 = some 87 ∧ xB S' (mR S' 70) ∧ ∃ t : Nat → Int32, aS 88 S' = aO2 (aFg a8) t ∧ (t 0).toInt = zVal zt zn 0 1 ∧ (t 1).toInt = zVal zt zn 6 2 ∧ (t 2).toInt = zVal zt zn 3 3 ∧ (t 3).toInt = zVal zt zn 7 4) ∨ ((qPo zt zn ≠ 0 ∧ qPo zt zn ≠ 4 ∧ qPo zt zn ≠ 5) ∧ r' 64 11 ≠ some 79 ∧ r' 64 11 ≠ some 84 ∧ r' 64 11 ≠ some 87 ∧ r' 64 11 ≠ none)))) → ((mI S' 67) = k67 ∧ (mI S' 68) = k68) → Q (.inl (some (.inl v))) S') : ∀ (n : Nat) (S : ma_S) (l1 : Int32), ((0 : Int)).toNat = n → zA f r C Z N S → (0 ≤ l1.toInt) → (l1.toInt ≤ 6) → (0 ≤ (mI S 66 0).toInt ∧ (l1.toInt = 3 → 0 ≤ (mI S 66 1).toInt) ∧ (l1.toInt = 6 → 16 ≤ (mI S 66 1).toInt)) → ((mI S 64 1).toInt = 0) → (aS 88 S = a8) → (0 ≤ zAns zt zn ∧ l1.toInt = qPo zt zn ∧ (l1.toInt = 5 → ((mI S 66) 0).toInt = zVal zt zn 0 1 ∧ ((mI S 66) 1).toInt = zVal zt zn 6 2 ∧ ((mI S 66) 2).toInt = zVal zt zn 3 3 ∧ ((mI S 66) 3).toInt = zVal zt zn 7 4)) → ((l1.toInt = 0 ∨ l1.toInt = 4) → ((mI S 66) 0).toInt = zVal zt zn 0 1 ∧ ((mI S 66) 1).toInt = zVal zt zn 6 2) → ((mI S 67) = k67 ∧ (mI S 68) = k68) → ma_wp X d w 127 30 [(0, .inr (.inr (some 64))), (1, .inl l1)] [] S Q := by
  intro n
  induction n using Nat.strongRecOn with
  | _ n IH =>
    intro S l1 hmu hI  hi0 hi1 hi2 hi3 hi4 hi5 hi6 hi7
    refine g_127_64_sh_30 l1 (by omega) (by omega) (zG_T hI) ?_
    refine sp_80_69_sq (ab := (aS 88 S)) (by omega) (by omega) (zA_dn_zS hI) (show aS 88 S = (aS 88 S) from by first | (exact rfl)) (fun S1 hL_S1 rp0_S1 rp1_S1 => zv_n ⟨zG_T hL_S1, ?_⟩)
    have hI_S1 := zA_up_zS hI hL_S1
    have rp0_S1 : xB S1 (mR S1 70) := by
      have z := rp0_S1
      (try rw [show mI S 65 = f 65 from funext (fun k => zG_z hI rfl)] at z)
      (try rw [show mI S 64 1 = f 64 1 from zG_z hI rfl] at z)
      exact z
    have rp1_S1 : aS 88 S1 = aFg (aS 88 S) := by
      have z := rp1_S1
      (try rw [show mI S 65 = f 65 from funext (fun k => zG_z hI rfl)] at z)
      (try rw [show mI S 64 1 = f 64 1 from zG_z hI rfl] at z)
      exact z
    have b1 := i_bd l1
    have li2 : (0 : Int32).toInt = 0 := rfl
    refine zd (fun h3 => ?_) (fun h3 => ?_)
    · skip
      have g4 := i_eq h3
      have hI5 : zA f (zrp r 79) C Z N (ma_put S1 64 11 (.inr (.inr (some 79)))) := zG_pres hI_S1 (by decide)
      have f6 := zG_a hI 4 (-1) (1500) (c := 66) (k := 0) (by decide) (by decide)
      have q7 : (mI S1 66 0).toInt = (mI S 66 0).toInt := zG_zi (f := mI S) hL_S1 rfl
      have f8 := zG_a hI_S1 4 (-1) (1500) (c := 66) (k := 0) (by decide) (by decide)
      refine sp_100_79_66_sh (ab := (aS 88 (ma_put S1 64 11 (.inr (.inr (some 79)))))) (by omega) (by omega) (zA_dn_zJ79 hI5) (show 0 ≤ (mI S1 66 0).toInt ∧ (mI S1 66 0).toInt ≤ 1500 from by omega) (show xB (ma_put S1 64 11 (.inr (.inr (some 79)))) (mR (ma_put S1 64 11 (.inr (.inr (some 79)))) 70) from by first | (exact xB_64 rp0_S1)) (show aS 88 (ma_put S1 64 11 (.inr (.inr (some 79)))) = (aS 88 (ma_put S1 64 11 (.inr (.inr (some 79))))) from by first | (exact rfl)) (fun S3 hL_S3 rp0_S3 rp1_S3 rp2_S3 => zv_n ⟨zG_T hL_S3, ?_⟩)
      have hI_S3 := zA_up_zJ79 hI5 hL_S3
      have rp0_S3 : xB S3 (mR S3 70) := by
        have z := rp0_S3
        (try rw [show mI (ma_put S1 64 11 (.inr (.inr (some 79)))) 65 = f 65 from funext (fun k => zG_z hI5 rfl)] at z)
        (try rw [show mI (ma_put S1 64 11 (.inr (.inr (some 79)))) 64 1 = f 64 1 from zG_z hI5 rfl] at z)
        exact z
      have rp1_S3 : aS 88 S3 = (aS 88 (ma_put S1 64 11 (.inr (.inr (some 79))))) := by
        have z := rp1_S3
        (try rw [show mI (ma_put S1 64 11 (.inr (.inr (some 79)))) 65 = f 65 from funext (fun k => zG_z hI5 rfl)] at z)
        (try rw [show mI (ma_put S1 64 11 (.inr (.inr (some 79)))) 64 1 = f 64 1 from zG_z hI5 rfl] at z)
        exact z
      have rp2_S3 : zfP 79 (mI S3) 0 = (mI (ma_put S1 64 11 (.inr (.inr (some 79)))) 66) 0 ∧ zfP 79 (mI S3) 1 = (mI (ma_put S1 64 11 (.inr (.inr (some 79)))) 66) 1 ∧ zfP 79 (mI S3) 2 = 0 := by
        have z := rp2_S3
        (try rw [show mI (ma_put S1 64 11 (.inr (.inr (some 79)))) 65 = f 65 from funext (fun k => zG_z hI5 rfl)] at z)
        (try rw [show mI (ma_put S1 64 11 (.inr (.inr (some 79)))) 64 1 = f 64 1 from zG_z hI5 rfl] at z)
        exact z
      refine ⟨((zG_r hI_S3 (by decide)).trans rfl), ?_⟩
      refine sp_101_79_sh  (by omega) (by omega) (zA_dn_zJ79 hI_S3)  (fun v6 S5 eS_S5 hp_v6 => zi_n ⟨(by rw [eS_S5]; exact zG_T hI_S3), ?_⟩)
      replace eS_S5 := eS_S5.symm; subst eS_S5
      have b9 := i_bd v6
      have f10 := zG_s hI (0) (100) (c := 64) (k := 1) (by decide)
      have q11 : (mI S1 64 1).toInt = (mI S 64 1).toInt := zG_zi (f := mI S) hL_S1 rfl
      have f12 := zG_s hI_S1 (0) (100) (c := 64) (k := 1) (by decide)
      have q13 : (mI S3 64 1).toInt = (mI S1 64 1).toInt := zG_zi (f := mI (ma_put S1 64 11 (.inr (.inr (some 79))))) hL_S3 rfl
      have f14 := zG_s hI_S3 (0) (100) (c := 64) (k := 1) (by decide)
      exact K (v6) _ (zrp r 79) (Or.inr ⟨79, by decide, rfl⟩) hI_S3 (show (mI S3 64 1).toInt = 0 from by omega) (show (zAns zt zn < 0 ∧ (zrp r 79) 64 11 = r 64 11 ∧ zFm J0 JL JR S3) ∨ (0 ≤ zAns zt zn ∧ ((qPo zt zn = 0 ∧ (zrp r 79) 64 11 = some 79 ∧ xB S3 (mR S3 70) ∧ aS 88 S3 = aFg a8 ∧ zfP 79 (mI S3) 2 = 0 ∧ (zfP 79 (mI S3) 0).toInt = zVal zt zn 0 1 ∧ (zfP 79 (mI S3) 1).toInt = zVal zt zn 6 2) ∨ (qPo zt zn = 4 ∧ (zrp r 79) 64 11 = some 84 ∧ xB S3 (mR S3 70) ∧ aS 88 S3 = aFg a8 ∧ zfP 84 (mI S3) 2 = 0 ∧ (zfP 84 (mI S3) 0).toInt = zVal zt zn 0 1 ∧ (zfP 84 (mI S3) 1).toInt = zVal zt zn 6 2) ∨ (qPo zt zn = 5 ∧ (zrp r 79) 64 11 = some 87 ∧ xB S3 (mR S3 70) ∧ ∃ t : Nat → Int32, aS 88 S3 = aO2 (aFg a8) t ∧ (t 0).toInt = zVal zt zn 0 1 ∧ (t 1).toInt = zVal zt zn 6 2 ∧ (t 2).toInt = zVal zt zn 3 3 ∧ (t 3).toInt = zVal zt zn 7 4) ∨ ((qPo zt zn ≠ 0 ∧ qPo zt zn ≠ 4 ∧ qPo zt zn ≠ 5) ∧ (zrp r 79) 64 11 ≠ some 79 ∧ (zrp r 79) 64 11 ≠ some 84 ∧ (zrp r 79) 64 11 ≠ some 87 ∧ (zrp r 79) 64 11 ≠ none))) from by first | (have hk := hi6 (by omega); have o := rp2_S3; exact Or.inr ⟨hi5.1, Or.inl ⟨by have h := hi5.2.1; omega, rfl, rp0_S3, rp1_S3.trans (by rw [aS_64, rp1_S1, hi4]), o.2.2, (by rw [o.1.trans (congrFun (show mI S1 66 = mI S 66 from funext (fun _ => zG_z hL_S1 rfl)) 0)]; exact hk.1), (by rw [o.2.1.trans (congrFun (show mI S1 66 = mI S 66 from funext (fun _ => zG_z hL_S1 rfl)) 1)]; exact hk.2)⟩⟩)) (show (mI S3 67) = k67 ∧ (mI S3 68) = k68 from by first | (exact ⟨((show mI S3 67 = mI (ma_put S1 64 11 (.inr (.inr (some 79)))) 67 from funext (fun _ => zG_z hL_S3 rfl)).trans ((show mI S1 67 = mI S 67 from funext (fun _ => zG_z hL_S1 rfl)).trans hi7.1)), ((show mI S3 68 = mI (ma_put S1 64 11 (.inr (.inr (some 79)))) 68 from funext (fun _ => zG_z hL_S3 rfl)).trans ((show mI S1 68 = mI S 68 from funext (fun _ => zG_z hL_S1 rfl)).trans hi7.2))⟩))
    · skip
      have g15 := i_ne h3
      have li16 : (1 : Int32).toInt = 1 := rfl
      refine zd (fun h17 => ?_) (fun h17 => ?_)
      · skip
        have g18 := i_eq h17
        have hI19 : zA f (zrp r 80) C Z N (ma_put S1 64 11 (.inr (.inr (some 80)))) := zG_pres hI_S1 (by decide)
        have f20 := zG_a hI 4 (-1) (1500) (c := 66) (k := 0) (by decide) (by decide)
        have q21 : (mI S1 66 0).toInt = (mI S 66 0).toInt := zG_zi (f := mI S) hL_S1 rfl
        have f22 := zG_a hI_S1 4 (-1) (1500) (c := 66) (k := 0) (by decide) (by decide)
        refine sp_59_80_66  (by omega) (by omega) (zA_dn_zJ80 hI19) (show 0 ≤ (mI S1 66 0).toInt ∧ (mI S1 66 0).toInt ≤ 1500 from by omega) (fun S7 hL_S7 => zv_n ⟨zG_T hL_S7, ?_⟩)
        have hI_S7 := zA_up_zJ80 hI19 hL_S7
        refine ⟨((zG_r hI_S7 (by decide)).trans rfl), ?_⟩
        refine sp_60_80  (by omega) (by omega) (zA_dn_zJ80 hI_S7)  (fun v10 S9 hL_S9 hp_v10 => zi_n ⟨zG_T hL_S9, ?_⟩)
        have hI_S9 := zA_up_zJ80 hI_S7 hL_S9
        have b23 := i_bd v10
        have f24 := zG_s hI (0) (100) (c := 64) (k := 1) (by decide)
        have q25 : (mI S1 64 1).toInt = (mI S 64 1).toInt := zG_zi (f := mI S) hL_S1 rfl
        have f26 := zG_s hI_S1 (0) (100) (c := 64) (k := 1) (by decide)
        have q27 : (mI S7 64 1).toInt = (mI S1 64 1).toInt := zG_zi (f := mI (ma_put S1 64 11 (.inr (.inr (some 80))))) hL_S7 rfl
        have f28 := zG_s hI_S7 (0) (100) (c := 64) (k := 1) (by decide)
        have q29 : (mI S9 64 1).toInt = (mI S7 64 1).toInt := zG_zi (f := mI S7) hL_S9 rfl
        have f30 := zG_s hI_S9 (0) (100) (c := 64) (k := 1) (by decide)
        exact K (v10) _ (zrp r 80) (Or.inr ⟨80, by decide, rfl⟩) hI_S9 (show (mI S9 64 1).toInt = 0 from by omega) (show (zAns zt zn < 0 ∧ (zrp r 80) 64 11 = r 64 11 ∧ zFm J0 JL JR S9) ∨ (0 ≤ zAns zt zn ∧ ((qPo zt zn = 0 ∧ (zrp r 80) 64 11 = some 79 ∧ xB S9 (mR S9 70) ∧ aS 88 S9 = aFg a8 ∧ zfP 79 (mI S9) 2 = 0 ∧ (zfP 79 (mI S9) 0).toInt = zVal zt zn 0 1 ∧ (zfP 79 (mI S9) 1).toInt = zVal zt zn 6 2) ∨ (qPo zt zn = 4 ∧ (zrp r 80) 64 11 = some 84 ∧ xB S9 (mR S9 70) ∧ aS 88 S9 = aFg a8 ∧ zfP 84 (mI S9) 2 = 0 ∧ (zfP 84 (mI S9) 0).toInt = zVal zt zn 0 1 ∧ (zfP 84 (mI S9) 1).toInt = zVal zt zn 6 2) ∨ (qPo zt zn = 5 ∧ (zrp r 80) 64 11 = some 87 ∧ xB S9 (mR S9 70) ∧ ∃ t : Nat → Int32, aS 88 S9 = aO2 (aFg a8) t ∧ (t 0).toInt = zVal zt zn 0 1 ∧ (t 1).toInt = zVal zt zn 6 2 ∧ (t 2).toInt = zVal zt zn 3 3 ∧ (t 3).toInt = zVal zt zn 7 4) ∨ ((qPo zt zn ≠ 0 ∧ qPo zt zn ≠ 4 ∧ qPo zt zn ≠ 5) ∧ (zrp r 80) 64 11 ≠ some 79 ∧ (zrp r 80) 64 11 ≠ some 84 ∧ (zrp r 80) 64 11 ≠ some 87 ∧ (zrp r 80) 64 11 ≠ none))) from by first | (exact Or.inr ⟨hi5.1, Or.inr (Or.inr (Or.inr ⟨⟨by have h := hi5.2.1; omega, by have h := hi5.2.1; omega, by have h := hi5.2.1; omega⟩, fun w => absurd (show some 80 = some 79 from w) (by decide), fun w => absurd (show some 80 = some 84 from w) (by decide), fun w => absurd (show some 80 = some 87 from w) (by decide), fun w => absurd (show some 80 = none from w) (by decide)⟩))⟩)) (show (mI S9 67) = k67 ∧ (mI S9 68) = k68 from by first | (exact ⟨((show mI S9 67 = mI S7 67 from funext (fun _ => zG_z hL_S9 rfl)).trans ((show mI S7 67 = mI (ma_put S1 64 11 (.inr (.inr (some 80)))) 67 from funext (fun _ => zG_z hL_S7 rfl)).trans ((show mI S1 67 = mI S 67 from funext (fun _ => zG_z hL_S1 rfl)).trans hi7.1))), ((show mI S9 68 = mI S7 68 from funext (fun _ => zG_z hL_S9 rfl)).trans ((show mI S7 68 = mI (ma_put S1 64 11 (.inr (.inr (some 80)))) 68 from funext (fun _ => zG_z hL_S7 rfl)).trans ((show mI S1 68 = mI S 68 from funext (fun _ => zG_z hL_S1 rfl)).trans hi7.2)))⟩))
      · skip
        have g31 := i_ne h17
        have li32 : (2 : Int32).toInt = 2 := rfl
        refine zd (fun h33 => ?_) (fun h33 => ?_)
        · skip
          have g34 := i_eq h33
          have hI35 : zA f (zrp r 81) C Z N (ma_put S1 64 11 (.inr (.inr (some 81)))) := zG_pres hI_S1 (by decide)
          have f36 := zG_a hI 4 (-1) (1500) (c := 66) (k := 0) (by decide) (by decide)
          have q37 : (mI S1 66 0).toInt = (mI S 66 0).toInt := zG_zi (f := mI S) hL_S1 rfl
          have f38 := zG_a hI_S1 4 (-1) (1500) (c := 66) (k := 0) (by decide) (by decide)
          refine sp_29_81_66_zK81  (by omega) (by omega) (zA_dn_zK81 hI35) (show 0 ≤ (mI S1 66 0).toInt ∧ (mI S1 66 0).toInt ≤ 1500 from by omega) (fun S11 hL_S11 hp_S11 => zv_n ⟨zG_T hL_S11, ?_⟩)
          have hI_S11 := zA_up_zK81 hI35 hL_S11 hp_S11
          refine ⟨((zG_r hI_S11 (by decide)).trans rfl), ?_⟩
          refine sp_30_81  (by omega) (by omega) (zA_dn_zJ81 hI_S11)  (fun v14 S13 hL_S13 hp_v14 => zi_n ⟨zG_T hL_S13, ?_⟩)
          have hI_S13 := zA_up_zJ81 hI_S11 hL_S13
          have b39 := i_bd v14
          have f40 := zG_s hI (0) (100) (c := 64) (k := 1) (by decide)
          have q41 : (mI S1 64 1).toInt = (mI S 64 1).toInt := zG_zi (f := mI S) hL_S1 rfl
          have f42 := zG_s hI_S1 (0) (100) (c := 64) (k := 1) (by decide)
          have q43 : (mI S11 64 1).toInt = (mI S1 64 1).toInt := zG_zi (f := mI (ma_put S1 64 11 (.inr (.inr (some 81))))) hL_S11 rfl
          have f44 := zG_s hI_S11 (0) (100) (c := 64) (k := 1) (by decide)
          have q45 : (mI S13 64 1).toInt = (mI S11 64 1).toInt := zG_zi (f := mI S11) hL_S13 rfl
          have f46 := zG_s hI_S13 (0) (100) (c := 64) (k := 1) (by decide)
          exact K (v14) _ (zrp r 81) (Or.inr ⟨81, by decide, rfl⟩) hI_S13 (show (mI S13 64 1).toInt = 0 from by omega) (show (zAns zt zn < 0 ∧ (zrp r 81) 64 11 = r 64 11 ∧ zFm J0 JL JR S13) ∨ (0 ≤ zAns zt zn ∧ ((qPo zt zn = 0 ∧ (zrp r 81) 64 11 = some 79 ∧ xB S13 (mR S13 70) ∧ aS 88 S13 = aFg a8 ∧ zfP 79 (mI S13) 2 = 0 ∧ (zfP 79 (mI S13) 0).toInt = zVal zt zn 0 1 ∧ (zfP 79 (mI S13) 1).toInt = zVal zt zn 6 2) ∨ (qPo zt zn = 4 ∧ (zrp r 81) 64 11 = some 84 ∧ xB S13 (mR S13 70) ∧ aS 88 S13 = aFg a8 ∧ zfP 84 (mI S13) 2 = 0 ∧ (zfP 84 (mI S13) 0).toInt = zVal zt zn 0 1 ∧ (zfP 84 (mI S13) 1).toInt = zVal zt zn 6 2) ∨ (qPo zt zn = 5 ∧ (zrp r 81) 64 11 = some 87 ∧ xB S13 (mR S13 70) ∧ ∃ t : Nat → Int32, aS 88 S13 = aO2 (aFg a8) t ∧ (t 0).toInt = zVal zt zn 0 1 ∧ (t 1).toInt = zVal zt zn 6 2 ∧ (t 2).toInt = zVal zt zn 3 3 ∧ (t 3).toInt = zVal zt zn 7 4) ∨ ((qPo zt zn ≠ 0 ∧ qPo zt zn ≠ 4 ∧ qPo zt zn ≠ 5) ∧ (zrp r 81) 64 11 ≠ some 79 ∧ (zrp r 81) 64 11 ≠ some 84 ∧ (zrp r 81) 64 11 ≠ some 87 ∧ (zrp r 81) 64 11 ≠ none))) from by first | (exact Or.inr ⟨hi5.1, Or.inr (Or.inr (Or.inr ⟨⟨by have h := hi5.2.1; omega, by have h := hi5.2.1; omega, by have h := hi5.2.1; omega⟩, fun w => absurd (show some 81 = some 79 from w) (by decide), fun w => absurd (show some 81 = some 84 from w) (by decide), fun w => absurd (show some 81 = some 87 from w) (by decide), fun w => absurd (show some 81 = none from w) (by decide)⟩))⟩)) (show (mI S13 67) = k67 ∧ (mI S13 68) = k68 from by first | (exact ⟨((show mI S13 67 = mI S11 67 from funext (fun _ => zG_z hL_S13 rfl)).trans ((show mI S11 67 = mI (ma_put S1 64 11 (.inr (.inr (some 81)))) 67 from funext (fun _ => zG_z hL_S11 rfl)).trans ((show mI S1 67 = mI S 67 from funext (fun _ => zG_z hL_S1 rfl)).trans hi7.1))), ((show mI S13 68 = mI S11 68 from funext (fun _ => zG_z hL_S13 rfl)).trans ((show mI S11 68 = mI (ma_put S1 64 11 (.inr (.inr (some 81)))) 68 from funext (fun _ => zG_z hL_S11 rfl)).trans ((show mI S1 68 = mI S 68 from funext (fun _ => zG_z hL_S1 rfl)).trans hi7.2)))⟩))
        · skip
          have g47 := i_ne h33
          have li48 : (3 : Int32).toInt = 3 := rfl
          refine zd (fun h49 => ?_) (fun h49 => ?_)
          · skip
            have g50 := i_eq h49
            have hI51 : zA f (zrp r 82) C Z N (ma_put S1 64 11 (.inr (.inr (some 82)))) := zG_pres hI_S1 (by decide)
            have f52 := zG_a hI 4 (-1) (1500) (c := 66) (k := 0) (by decide) (by decide)
            have q53 : (mI S1 66 0).toInt = (mI S 66 0).toInt := zG_zi (f := mI S) hL_S1 rfl
            have f54 := zG_a hI_S1 4 (-1) (1500) (c := 66) (k := 0) (by decide) (by decide)
            have f55 := zG_a hI 4 (-1) (1500) (c := 66) (k := 1) (by decide) (by decide)
            have q56 : (mI S1 66 1).toInt = (mI S 66 1).toInt := zG_zi (f := mI S) hL_S1 rfl
            have f57 := zG_a hI_S1 4 (-1) (1500) (c := 66) (k := 1) (by decide) (by decide)
            refine sp_1_82_66_zK82  (by omega) (by omega) (zA_dn_zK82 hI51) (show 0 ≤ (mI S1 66 0).toInt ∧ (mI S1 66 0).toInt ≤ 1500 ∧ 0 ≤ (mI S1 66 1).toInt ∧ (mI S1 66 1).toInt ≤ 1500 from by omega) (fun S15 hL_S15 hp_S15 => zv_n ⟨zG_T hL_S15, ?_⟩)
            have hI_S15 := zA_up_zK82 hI51 hL_S15 hp_S15
            refine ⟨((zG_r hI_S15 (by decide)).trans rfl), ?_⟩
            refine sp_2_82  (by omega) (by omega) (zA_dn_zJ82 hI_S15)  (fun v18 S17 hL_S17 hp_v18 => zi_n ⟨zG_T hL_S17, ?_⟩)
            have hI_S17 := zA_up_zJ82 hI_S15 hL_S17
            have b58 := i_bd v18
            have f59 := zG_s hI (0) (100) (c := 64) (k := 1) (by decide)
            have q60 : (mI S1 64 1).toInt = (mI S 64 1).toInt := zG_zi (f := mI S) hL_S1 rfl
            have f61 := zG_s hI_S1 (0) (100) (c := 64) (k := 1) (by decide)
            have q62 : (mI S15 64 1).toInt = (mI S1 64 1).toInt := zG_zi (f := mI (ma_put S1 64 11 (.inr (.inr (some 82))))) hL_S15 rfl
            have f63 := zG_s hI_S15 (0) (100) (c := 64) (k := 1) (by decide)
            have q64 : (mI S17 64 1).toInt = (mI S15 64 1).toInt := zG_zi (f := mI S15) hL_S17 rfl
            have f65 := zG_s hI_S17 (0) (100) (c := 64) (k := 1) (by decide)
            exact K (v18) _ (zrp r 82) (Or.inr ⟨82, by decide, rfl⟩) hI_S17 (show (mI S17 64 1).toInt = 0 from by omega) (show (zAns zt zn < 0 ∧ (zrp r 82) 64 11 = r 64 11 ∧ zFm J0 JL JR S17) ∨ (0 ≤ zAns zt zn ∧ ((qPo zt zn = 0 ∧ (zrp r 82) 64 11 = some 79 ∧ xB S17 (mR S17 70) ∧ aS 88 S17 = aFg a8 ∧ zfP 79 (mI S17) 2 = 0 ∧ (zfP 79 (mI S17) 0).toInt = zVal zt zn 0 1 ∧ (zfP 79 (mI S17) 1).toInt = zVal zt zn 6 2) ∨ (qPo zt zn = 4 ∧ (zrp r 82) 64 11 = some 84 ∧ xB S17 (mR S17 70) ∧ aS 88 S17 = aFg a8 ∧ zfP 84 (mI S17) 2 = 0 ∧ (zfP 84 (mI S17) 0).toInt = zVal zt zn 0 1 ∧ (zfP 84 (mI S17) 1).toInt = zVal zt zn 6 2) ∨ (qPo zt zn = 5 ∧ (zrp r 82) 64 11 = some 87 ∧ xB S17 (mR S17 70) ∧ ∃ t : Nat → Int32, aS 88 S17 = aO2 (aFg a8) t ∧ (t 0).toInt = zVal zt zn 0 1 ∧ (t 1).toInt = zVal zt zn 6 2 ∧ (t 2).toInt = zVal zt zn 3 3 ∧ (t 3).toInt = zVal zt zn 7 4) ∨ ((qPo zt zn ≠ 0 ∧ qPo zt zn ≠ 4 ∧ qPo zt zn ≠ 5) ∧ (zrp r 82) 64 11 ≠ some 79 ∧ (zrp r 82) 64 11 ≠ some 84 ∧ (zrp r 82) 64 11 ≠ some 87 ∧ (zrp r 82) 64 11 ≠ none))) from by first | (exact Or.inr ⟨hi5.1, Or.inr (Or.inr (Or.inr ⟨⟨by have h := hi5.2.1; omega, by have h := hi5.2.1; omega, by have h := hi5.2.1; omega⟩, fun w => absurd (show some 82 = some 79 from w) (by decide), fun w => absurd (show some 82 = some 84 from w) (by decide), fun w => absurd (show some 82 = some 87 from w) (by decide), fun w => absurd (show some 82 = none from w) (by decide)⟩))⟩)) (show (mI S17 67) = k67 ∧ (mI S17 68) = k68 from by first | (exact ⟨((show mI S17 67 = mI S15 67 from funext (fun _ => zG_z hL_S17 rfl)).trans ((show mI S15 67 = mI (ma_put S1 64 11 (.inr (.inr (some 82)))) 67 from funext (fun _ => zG_z hL_S15 rfl)).trans ((show mI S1 67 = mI S 67 from funext (fun _ => zG_z hL_S1 rfl)).trans hi7.1))), ((show mI S17 68 = mI S15 68 from funext (fun _ => zG_z hL_S17 rfl)).trans ((show mI S15 68 = mI (ma_put S1 64 11 (.inr (.inr (some 82)))) 68 from funext (fun _ => zG_z hL_S15 rfl)).trans ((show mI S1 68 = mI S 68 from funext (fun _ => zG_z hL_S1 rfl)).trans hi7.2)))⟩))
          · skip
            have g66 := i_ne h49
            have li67 : (4 : Int32).toInt = 4 := rfl
            refine zd (fun h68 => ?_) (fun h68 => ?_)
            · skip
              have g69 := i_eq h68
              have hI70 : zA f (zrp r 84) C Z N (ma_put S1 64 11 (.inr (.inr (some 84)))) := zG_pres hI_S1 (by decide)
              have f71 := zG_a hI 4 (-1) (1500) (c := 66) (k := 0) (by decide) (by decide)
              have q72 : (mI S1 66 0).toInt = (mI S 66 0).toInt := zG_zi (f := mI S) hL_S1 rfl
              have f73 := zG_a hI_S1 4 (-1) (1500) (c := 66) (k := 0) (by decide) (by decide)
              refine sp_100_84_66_sh (ab := (aS 88 (ma_put S1 64 11 (.inr (.inr (some 84)))))) (by omega) (by omega) (zA_dn_zJ84 hI70) (show 0 ≤ (mI S1 66 0).toInt ∧ (mI S1 66 0).toInt ≤ 1500 from by omega) (show xB (ma_put S1 64 11 (.inr (.inr (some 84)))) (mR (ma_put S1 64 11 (.inr (.inr (some 84)))) 70) from by first | (exact xB_64 rp0_S1)) (show aS 88 (ma_put S1 64 11 (.inr (.inr (some 84)))) = (aS 88 (ma_put S1 64 11 (.inr (.inr (some 84))))) from by first | (exact rfl)) (fun S19 hL_S19 rp0_S19 rp1_S19 rp2_S19 => zv_n ⟨zG_T hL_S19, ?_⟩)
              have hI_S19 := zA_up_zJ84 hI70 hL_S19
              have rp0_S19 : xB S19 (mR S19 70) := by
                have z := rp0_S19
                (try rw [show mI (ma_put S1 64 11 (.inr (.inr (some 84)))) 65 = f 65 from funext (fun k => zG_z hI70 rfl)] at z)
                (try rw [show mI (ma_put S1 64 11 (.inr (.inr (some 84)))) 64 1 = f 64 1 from zG_z hI70 rfl] at z)
                exact z
              have rp1_S19 : aS 88 S19 = (aS 88 (ma_put S1 64 11 (.inr (.inr (some 84))))) := by
                have z := rp1_S19
                (try rw [show mI (ma_put S1 64 11 (.inr (.inr (some 84)))) 65 = f 65 from funext (fun k => zG_z hI70 rfl)] at z)
                (try rw [show mI (ma_put S1 64 11 (.inr (.inr (some 84)))) 64 1 = f 64 1 from zG_z hI70 rfl] at z)
                exact z
              have rp2_S19 : zfP 84 (mI S19) 0 = (mI (ma_put S1 64 11 (.inr (.inr (some 84)))) 66) 0 ∧ zfP 84 (mI S19) 1 = (mI (ma_put S1 64 11 (.inr (.inr (some 84)))) 66) 1 ∧ zfP 84 (mI S19) 2 = 0 := by
                have z := rp2_S19
                (try rw [show mI (ma_put S1 64 11 (.inr (.inr (some 84)))) 65 = f 65 from funext (fun k => zG_z hI70 rfl)] at z)
                (try rw [show mI (ma_put S1 64 11 (.inr (.inr (some 84)))) 64 1 = f 64 1 from zG_z hI70 rfl] at z)
                exact z
              refine ⟨((zG_r hI_S19 (by decide)).trans rfl), ?_⟩
              refine sp_101_84_sh  (by omega) (by omega) (zA_dn_zJ84 hI_S19)  (fun v22 S21 eS_S21 hp_v22 => zi_n ⟨(by rw [eS_S21]; exact zG_T hI_S19), ?_⟩)
              replace eS_S21 := eS_S21.symm; subst eS_S21
              have b74 := i_bd v22
              have f75 := zG_s hI (0) (100) (c := 64) (k := 1) (by decide)
              have q76 : (mI S1 64 1).toInt = (mI S 64 1).toInt := zG_zi (f := mI S) hL_S1 rfl
              have f77 := zG_s hI_S1 (0) (100) (c := 64) (k := 1) (by decide)
              have q78 : (mI S19 64 1).toInt = (mI S1 64 1).toInt := zG_zi (f := mI (ma_put S1 64 11 (.inr (.inr (some 84))))) hL_S19 rfl
              have f79 := zG_s hI_S19 (0) (100) (c := 64) (k := 1) (by decide)
              exact K (v22) _ (zrp r 84) (Or.inr ⟨84, by decide, rfl⟩) hI_S19 (show (mI S19 64 1).toInt = 0 from by omega) (show (zAns zt zn < 0 ∧ (zrp r 84) 64 11 = r 64 11 ∧ zFm J0 JL JR S19) ∨ (0 ≤ zAns zt zn ∧ ((qPo zt zn = 0 ∧ (zrp r 84) 64 11 = some 79 ∧ xB S19 (mR S19 70) ∧ aS 88 S19 = aFg a8 ∧ zfP 79 (mI S19) 2 = 0 ∧ (zfP 79 (mI S19) 0).toInt = zVal zt zn 0 1 ∧ (zfP 79 (mI S19) 1).toInt = zVal zt zn 6 2) ∨ (qPo zt zn = 4 ∧ (zrp r 84) 64 11 = some 84 ∧ xB S19 (mR S19 70) ∧ aS 88 S19 = aFg a8 ∧ zfP 84 (mI S19) 2 = 0 ∧ (zfP 84 (mI S19) 0).toInt = zVal zt zn 0 1 ∧ (zfP 84 (mI S19) 1).toInt = zVal zt zn 6 2) ∨ (qPo zt zn = 5 ∧ (zrp r 84) 64 11 = some 87 ∧ xB S19 (mR S19 70) ∧ ∃ t : Nat → Int32, aS 88 S19 = aO2 (aFg a8) t ∧ (t 0).toInt = zVal zt zn 0 1 ∧ (t 1).toInt = zVal zt zn 6 2 ∧ (t 2).toInt = zVal zt zn 3 3 ∧ (t 3).toInt = zVal zt zn 7 4) ∨ ((qPo zt zn ≠ 0 ∧ qPo zt zn ≠ 4 ∧ qPo zt zn ≠ 5) ∧ (zrp r 84) 64 11 ≠ some 79 ∧ (zrp r 84) 64 11 ≠ some 84 ∧ (zrp r 84) 64 11 ≠ some 87 ∧ (zrp r 84) 64 11 ≠ none))) from by first | (have hk := hi6 (by omega); have o := rp2_S19; exact Or.inr ⟨hi5.1, Or.inr (Or.inl ⟨by have h := hi5.2.1; omega, rfl, rp0_S19, rp1_S19.trans (by rw [aS_64, rp1_S1, hi4]), o.2.2, (by rw [o.1.trans (congrFun (show mI S1 66 = mI S 66 from funext (fun _ => zG_z hL_S1 rfl)) 0)]; exact hk.1), (by rw [o.2.1.trans (congrFun (show mI S1 66 = mI S 66 from funext (fun _ => zG_z hL_S1 rfl)) 1)]; exact hk.2)⟩)⟩)) (show (mI S19 67) = k67 ∧ (mI S19 68) = k68 from by first | (exact ⟨((show mI S19 67 = mI (ma_put S1 64 11 (.inr (.inr (some 84)))) 67 from funext (fun _ => zG_z hL_S19 rfl)).trans ((show mI S1 67 = mI S 67 from funext (fun _ => zG_z hL_S1 rfl)).trans hi7.1)), ((show mI S19 68 = mI (ma_put S1 64 11 (.inr (.inr (some 84)))) 68 from funext (fun _ => zG_z hL_S19 rfl)).trans ((show mI S1 68 = mI S 68 from funext (fun _ => zG_z hL_S1 rfl)).trans hi7.2))⟩))
            · skip
              have g80 := i_ne h68
              have li81 : (5 : Int32).toInt = 5 := rfl
              refine zd (fun h82 => ?_) (fun h82 => ?_)
              · skip
                have g83 := i_eq h82
                have hI84 : zA f (zrp r 87) C Z N (ma_put S1 64 11 (.inr (.inr (some 87)))) := zG_pres hI_S1 (by decide)
                have f85 := zG_a hI 4 (-1) (1500) (c := 66) (k := 0) (by decide) (by decide)
                have q86 : (mI S1 66 0).toInt = (mI S 66 0).toInt := zG_zi (f := mI S) hL_S1 rfl
                have f87 := zG_a hI_S1 4 (-1) (1500) (c := 66) (k := 0) (by decide) (by decide)
                have f88 := zG_a hI 4 (-1) (1500) (c := 66) (k := 2) (by decide) (by decide)
                have q89 : (mI S1 66 2).toInt = (mI S 66 2).toInt := zG_zi (f := mI S) hL_S1 rfl
                have f90 := zG_a hI_S1 4 (-1) (1500) (c := 66) (k := 2) (by decide) (by decide)
                refine sp_66_87_66_s (ab := (aS 88 (ma_put S1 64 11 (.inr (.inr (some 87)))))) (by omega) (by omega) (zA_dn_zJ87 hI84) (show 0 ≤ (mI S1 66 0).toInt ∧ (mI S1 66 0).toInt ≤ 1500 ∧ -1 ≤ (mI S1 66 2).toInt ∧ (mI S1 66 2).toInt ≤ 1500 from by omega) (show xB (ma_put S1 64 11 (.inr (.inr (some 87)))) (mR (ma_put S1 64 11 (.inr (.inr (some 87)))) 70) from by first | (exact xB_64 rp0_S1)) (show aS 88 (ma_put S1 64 11 (.inr (.inr (some 87)))) = (aS 88 (ma_put S1 64 11 (.inr (.inr (some 87))))) from by first | (exact rfl)) (fun S23 hL_S23 rp0_S23 rp1_S23 => zv_n ⟨zG_T hL_S23, ?_⟩)
                have hI_S23 := zA_up_zJ87 hI84 hL_S23
                have rp0_S23 : xB S23 (mR S23 70) := by
                  have z := rp0_S23
                  (try rw [show mI (ma_put S1 64 11 (.inr (.inr (some 87)))) 65 = f 65 from funext (fun k => zG_z hI84 rfl)] at z)
                  (try rw [show mI (ma_put S1 64 11 (.inr (.inr (some 87)))) 64 1 = f 64 1 from zG_z hI84 rfl] at z)
                  exact z
                have rp1_S23 : aS 88 S23 = aO2 (aS 88 (ma_put S1 64 11 (.inr (.inr (some 87))))) (mI (ma_put S1 64 11 (.inr (.inr (some 87)))) 66) := by
                  have z := rp1_S23
                  (try rw [show mI (ma_put S1 64 11 (.inr (.inr (some 87)))) 65 = f 65 from funext (fun k => zG_z hI84 rfl)] at z)
                  (try rw [show mI (ma_put S1 64 11 (.inr (.inr (some 87)))) 64 1 = f 64 1 from zG_z hI84 rfl] at z)
                  exact z
                refine ⟨((zG_r hI_S23 (by decide)).trans rfl), ?_⟩
                refine sp_101_87_sq  (by omega) (by omega) (zA_dn_zJ87 hI_S23)  (fun v26 S25 eS_S25 hp_v26 => zi_n ⟨(by rw [eS_S25]; exact zG_T hI_S23), ?_⟩)
                replace eS_S25 := eS_S25.symm; subst eS_S25
                have b91 := i_bd v26
                have f92 := zG_s hI (0) (100) (c := 64) (k := 1) (by decide)
                have q93 : (mI S1 64 1).toInt = (mI S 64 1).toInt := zG_zi (f := mI S) hL_S1 rfl
                have f94 := zG_s hI_S1 (0) (100) (c := 64) (k := 1) (by decide)
                have q95 : (mI S23 64 1).toInt = (mI S1 64 1).toInt := zG_zi (f := mI (ma_put S1 64 11 (.inr (.inr (some 87))))) hL_S23 rfl
                have f96 := zG_s hI_S23 (0) (100) (c := 64) (k := 1) (by decide)
                exact K (v26) _ (zrp r 87) (Or.inr ⟨87, by decide, rfl⟩) hI_S23 (show (mI S23 64 1).toInt = 0 from by omega) (show (zAns zt zn < 0 ∧ (zrp r 87) 64 11 = r 64 11 ∧ zFm J0 JL JR S23) ∨ (0 ≤ zAns zt zn ∧ ((qPo zt zn = 0 ∧ (zrp r 87) 64 11 = some 79 ∧ xB S23 (mR S23 70) ∧ aS 88 S23 = aFg a8 ∧ zfP 79 (mI S23) 2 = 0 ∧ (zfP 79 (mI S23) 0).toInt = zVal zt zn 0 1 ∧ (zfP 79 (mI S23) 1).toInt = zVal zt zn 6 2) ∨ (qPo zt zn = 4 ∧ (zrp r 87) 64 11 = some 84 ∧ xB S23 (mR S23 70) ∧ aS 88 S23 = aFg a8 ∧ zfP 84 (mI S23) 2 = 0 ∧ (zfP 84 (mI S23) 0).toInt = zVal zt zn 0 1 ∧ (zfP 84 (mI S23) 1).toInt = zVal zt zn 6 2) ∨ (qPo zt zn = 5 ∧ (zrp r 87) 64 11 = some 87 ∧ xB S23 (mR S23 70) ∧ ∃ t : Nat → Int32, aS 88 S23 = aO2 (aFg a8) t ∧ (t 0).toInt = zVal zt zn 0 1 ∧ (t 1).toInt = zVal zt zn 6 2 ∧ (t 2).toInt = zVal zt zn 3 3 ∧ (t 3).toInt = zVal zt zn 7 4) ∨ ((qPo zt zn ≠ 0 ∧ qPo zt zn ≠ 4 ∧ qPo zt zn ≠ 5) ∧ (zrp r 87) 64 11 ≠ some 79 ∧ (zrp r 87) 64 11 ≠ some 84 ∧ (zrp r 87) 64 11 ≠ some 87 ∧ (zrp r 87) 64 11 ≠ none))) from by first | (exact Or.inr ⟨hi5.1, Or.inr (Or.inr (Or.inl ⟨by have h := hi5.2.1; omega, rfl, rp0_S23, (mI S 66), rp1_S23.trans (by rw [aS_64, rp1_S1, hi4]; exact congrArg (aO2 (aFg a8)) (show mI S1 66 = mI S 66 from funext (fun _ => zG_z hL_S1 rfl))), hi5.2.2 (by omega)⟩))⟩)) (show (mI S23 67) = k67 ∧ (mI S23 68) = k68 from by first | (exact ⟨((show mI S23 67 = mI (ma_put S1 64 11 (.inr (.inr (some 87)))) 67 from funext (fun _ => zG_z hL_S23 rfl)).trans ((show mI S1 67 = mI S 67 from funext (fun _ => zG_z hL_S1 rfl)).trans hi7.1)), ((show mI S23 68 = mI (ma_put S1 64 11 (.inr (.inr (some 87)))) 68 from funext (fun _ => zG_z hL_S23 rfl)).trans ((show mI S1 68 = mI S 68 from funext (fun _ => zG_z hL_S1 rfl)).trans hi7.2))⟩))
              · skip
                have g97 := i_ne h82
                have li98 : (6 : Int32).toInt = 6 := rfl
                refine zd (fun h99 => ?_) (fun h99 => ?_)
                · skip
                  have g100 := i_eq h99
                  have hI101 : zA f (zrp r 91) C Z N (ma_put S1 64 11 (.inr (.inr (some 91)))) := zG_pres hI_S1 (by decide)
                  have f102 := zG_a hI 4 (-1) (1500) (c := 66) (k := 0) (by decide) (by decide)
                  have q103 : (mI S1 66 0).toInt = (mI S 66 0).toInt := zG_zi (f := mI S) hL_S1 rfl
                  have f104 := zG_a hI_S1 4 (-1) (1500) (c := 66) (k := 0) (by decide) (by decide)
                  have f105 := zG_a hI 4 (-1) (1500) (c := 66) (k := 1) (by decide) (by decide)
                  have q106 : (mI S1 66 1).toInt = (mI S 66 1).toInt := zG_zi (f := mI S) hL_S1 rfl
                  have f107 := zG_a hI_S1 4 (-1) (1500) (c := 66) (k := 1) (by decide) (by decide)
                  refine sp_38_91_66  (by omega) (by omega) (zA_dn_zL91 hI101) (show 0 ≤ (mI S1 66 0).toInt ∧ (mI S1 66 0).toInt ≤ 1500 ∧ 0 ≤ (mI S1 66 1).toInt ∧ (mI S1 66 1).toInt ≤ 1500 from by omega) (fun S27 hL_S27 => zv_n ⟨zG_T hL_S27, ?_⟩)
                  have hI_S27 := zA_up_zL91 hI101 hL_S27
                  refine ⟨((zG_r hI_S27 (by decide)).trans rfl), ?_⟩
                  refine sp_39_91  (by omega) (by omega) (zA_dn_zL91 hI_S27)  (fun v30 S29 hL_S29 hp_v30 => zi_n ⟨zG_T hL_S29, ?_⟩)
                  have hI_S29 := zA_up_zL91 hI_S27 hL_S29
                  have b108 := i_bd v30
                  have f109 := zG_s hI (0) (100) (c := 64) (k := 1) (by decide)
                  have q110 : (mI S1 64 1).toInt = (mI S 64 1).toInt := zG_zi (f := mI S) hL_S1 rfl
                  have f111 := zG_s hI_S1 (0) (100) (c := 64) (k := 1) (by decide)
                  have q112 : (mI S27 64 1).toInt = (mI S1 64 1).toInt := zG_zi (f := mI (ma_put S1 64 11 (.inr (.inr (some 91))))) hL_S27 rfl
                  have f113 := zG_s hI_S27 (0) (100) (c := 64) (k := 1) (by decide)
                  have q114 : (mI S29 64 1).toInt = (mI S27 64 1).toInt := zG_zi (f := mI S27) hL_S29 rfl
                  have f115 := zG_s hI_S29 (0) (100) (c := 64) (k := 1) (by decide)
                  exact K (v30) _ (zrp r 91) (Or.inr ⟨91, by decide, rfl⟩) hI_S29 (show (mI S29 64 1).toInt = 0 from by omega) (show (zAns zt zn < 0 ∧ (zrp r 91) 64 11 = r 64 11 ∧ zFm J0 JL JR S29) ∨ (0 ≤ zAns zt zn ∧ ((qPo zt zn = 0 ∧ (zrp r 91) 64 11 = some 79 ∧ xB S29 (mR S29 70) ∧ aS 88 S29 = aFg a8 ∧ zfP 79 (mI S29) 2 = 0 ∧ (zfP 79 (mI S29) 0).toInt = zVal zt zn 0 1 ∧ (zfP 79 (mI S29) 1).toInt = zVal zt zn 6 2) ∨ (qPo zt zn = 4 ∧ (zrp r 91) 64 11 = some 84 ∧ xB S29 (mR S29 70) ∧ aS 88 S29 = aFg a8 ∧ zfP 84 (mI S29) 2 = 0 ∧ (zfP 84 (mI S29) 0).toInt = zVal zt zn 0 1 ∧ (zfP 84 (mI S29) 1).toInt = zVal zt zn 6 2) ∨ (qPo zt zn = 5 ∧ (zrp r 91) 64 11 = some 87 ∧ xB S29 (mR S29 70) ∧ ∃ t : Nat → Int32, aS 88 S29 = aO2 (aFg a8) t ∧ (t 0).toInt = zVal zt zn 0 1 ∧ (t 1).toInt = zVal zt zn 6 2 ∧ (t 2).toInt = zVal zt zn 3 3 ∧ (t 3).toInt = zVal zt zn 7 4) ∨ ((qPo zt zn ≠ 0 ∧ qPo zt zn ≠ 4 ∧ qPo zt zn ≠ 5) ∧ (zrp r 91) 64 11 ≠ some 79 ∧ (zrp r 91) 64 11 ≠ some 84 ∧ (zrp r 91) 64 11 ≠ some 87 ∧ (zrp r 91) 64 11 ≠ none))) from by first | (exact Or.inr ⟨hi5.1, Or.inr (Or.inr (Or.inr ⟨⟨by have h := hi5.2.1; omega, by have h := hi5.2.1; omega, by have h := hi5.2.1; omega⟩, fun w => absurd (show some 91 = some 79 from w) (by decide), fun w => absurd (show some 91 = some 84 from w) (by decide), fun w => absurd (show some 91 = some 87 from w) (by decide), fun w => absurd (show some 91 = none from w) (by decide)⟩))⟩)) (show (mI S29 67) = k67 ∧ (mI S29 68) = k68 from by first | (exact ⟨((show mI S29 67 = mI S27 67 from funext (fun _ => zG_z hL_S29 rfl)).trans ((show mI S27 67 = mI (ma_put S1 64 11 (.inr (.inr (some 91)))) 67 from funext (fun _ => zG_z hL_S27 rfl)).trans ((show mI S1 67 = mI S 67 from funext (fun _ => zG_z hL_S1 rfl)).trans hi7.1))), ((show mI S29 68 = mI S27 68 from funext (fun _ => zG_z hL_S29 rfl)).trans ((show mI S27 68 = mI (ma_put S1 64 11 (.inr (.inr (some 91)))) 68 from funext (fun _ => zG_z hL_S27 rfl)).trans ((show mI S1 68 = mI S 68 from funext (fun _ => zG_z hL_S1 rfl)).trans hi7.2)))⟩))
                · skip
                  have g116 := i_ne h99
                  exact (by omega : False)
theorem sp_127_64_sh {X : Nat × (Nat → Int32)} {d w : Nat} {f : Nat → Nat → Int32} {r : Nat → Nat → Option Nat} {C Z N : Nat} {Q : Option ma_V ⊕ Nat → ma_S → Prop} {zt : Nat→Int32} {zn : Int} {a8 : Nat→Nat→Int32} {J0 : Nat→Nat→Int32} {JL : Nat→Nat→Int64} {JR : zRT} {k67 : Nat→Int32} {k68 : Nat→Int32} {S : ma_S}  (hd : 9 ≤ d) (hw : 186 ≤ w) (hI : zA f r C Z N S) (hpre0 : (mI S 65) = zt) (hpre1 : (mI S 64 1).toInt = zn) (hpre2 : aS 88 S = a8) (hpre3 : zFm J0 JL JR S) (hpre4 : (mI S 67) = k67 ∧ (mI S 68) = k68) (K : ∀ v S' r', (r' = r ∨ ∃ p, p ∈ zcl7 ∧ r' = zrp r p) → zA f r' C Z N S' → ((mI S' 64 1).toInt = 0) → ((zAns zt zn < 0 ∧ r' 64 11 = r 64 11 ∧ zFm J0 JL JR S') ∨ (0 ≤ zAns zt zn ∧ ((qPo zt zn = 0 ∧ r' 64 11 = some 79 ∧ xB S' (mR S' 70) ∧ aS 88 S' = aFg a8 ∧ zfP 79 (mI S') 2 = 0 ∧ (zfP 79 (mI S') 0).toInt = zVal zt zn 0 1 ∧ (zfP 79 (mI S') 1).toInt = zVal zt zn 6 2) ∨ (qPo zt zn = 4 ∧ r' 64 11 = some 84 ∧ xB S' (mR S' 70) ∧ aS 88 S' = aFg a8 ∧ zfP 84 (mI S') 2 = 0 ∧ (zfP 84 (mI S') 0).toInt = zVal zt zn 0 1 ∧ (zfP 84 (mI S') 1).toInt = zVal zt zn 6 2) ∨ (qPo zt zn = 5 ∧ r' 64 11 = some 87 ∧ xB S' (mR S' 70) ∧ ∃ t : Nat → Int32, aS 88 S' = aO2 (aFg a8) t ∧ (t 0).toInt = zVal zt zn 0 1 ∧ (t 1).toInt = zVal zt zn 6 2 ∧ (t 2).toInt = zVal zt zn 3 3 ∧ (t 3).toInt = zVal zt zn 7 4) ∨ ((qPo zt zn ≠ 0 ∧ qPo zt zn ≠ 4 ∧ qPo zt zn ≠ 5) ∧ r' 64 11 ≠ some 79 ∧ r' 64 11 ≠ some 84 ∧ r' 64 11 ≠ some 87 ∧ r' 64 11 ≠ none)))) → ((mI S' 67) = k67 ∧ (mI S' 68) = k68) → Q (.inl (some (.inl v))) S') : ma_wp X d w 127 0 [(0, .inr (.inr (some 64)))] [] S Q := by
  refine g_127_64_sh_0  (by omega) (by omega) (zG_T hI) ?_
  refine sp_128_64_sh (I0 := (mI S)) (L0 := (mL S)) (R0 := (mR S 70)) (by omega) (by omega) (zA_dn_zR hI) (show zFm (mI S) (mL S) (mR S 70) S from by first | (exact fn9_0)) (fun v2 S1 hL_S1 hp_v2 rp0_S1 rp1_S1 rp2_S1 rp3_S1 rp4_S1 => zi_n ⟨zG_T hL_S1, ?_⟩)
  have hI_S1 := zA_up_zR hI hL_S1
  have f1 := zG_s hI_S1 (0) (100) (c := 64) (k := 2) (by decide)
  have f2 := zG_s hI (0) (100) (c := 64) (k := 1) (by decide)
  have f3 := zG_a hI_S1 4 (-1) (1500) (c := 66) (k := 0) (by decide) (by decide)
  have f4 := zG_a hI_S1 4 (-1) (1500) (c := 66) (k := 1) (by decide) (by decide)
  have rp0_S1 : (v2.toInt = -1 ∧ -1 - (mI S1 64 2).toInt = zAns (mI S 65) (mI S 64 1).toInt) ∨ (v2.toInt ≠ -1 ∧ zFin v2.toInt (mI S1 66 0).toInt (mI S1 66 1).toInt = zAns (mI S 65) (mI S 64 1).toInt) := by
    have z := rp0_S1
    (try rw [show mI S 65 = f 65 from funext (fun k => zG_z hI rfl)] at z)
    (try rw [show mI S 64 1 = f 64 1 from zG_z hI rfl] at z)
    exact z
  have f5 := zG_a hI_S1 4 (-1) (1500) (c := 66) (k := 2) (by decide) (by decide)
  have f6 := zG_a hI_S1 4 (-1) (1500) (c := 66) (k := 3) (by decide) (by decide)
  have rp1_S1 : v2.toInt = 5 → ((mI S1 66 0).toInt = zVal (mI S 65) (mI S 64 1).toInt 0 1 ∧ (mI S1 66 1).toInt = zVal (mI S 65) (mI S 64 1).toInt 6 2 ∧ (mI S1 66 2).toInt = zVal (mI S 65) (mI S 64 1).toInt 3 3 ∧ (mI S1 66 3).toInt = zVal (mI S 65) (mI S 64 1).toInt 7 4) := by
    have z := rp1_S1
    (try rw [show mI S 65 = f 65 from funext (fun k => zG_z hI rfl)] at z)
    (try rw [show mI S 64 1 = f 64 1 from zG_z hI rfl] at z)
    exact z
  have rp2_S1 : (v2.toInt = 0 ∨ v2.toInt = 4) → ((mI S1 66 0).toInt = zVal (mI S 65) (mI S 64 1).toInt 0 1 ∧ (mI S1 66 1).toInt = zVal (mI S 65) (mI S 64 1).toInt 6 2) := by
    have z := rp2_S1
    (try rw [show mI S 65 = f 65 from funext (fun k => zG_z hI rfl)] at z)
    (try rw [show mI S 64 1 = f 64 1 from zG_z hI rfl] at z)
    exact z
  have rp3_S1 : v2.toInt = -1 ∨ v2.toInt = zPol (mI S 65) (Int32.ofInt (zts (mI S 65) (mI S 64 1).toInt 0)) (zte (mI S 65) (mI S 64 1).toInt 0 - zts (mI S 65) (mI S 64 1).toInt 0) := by
    have z := rp3_S1
    (try rw [show mI S 65 = f 65 from funext (fun k => zG_z hI rfl)] at z)
    (try rw [show mI S 64 1 = f 64 1 from zG_z hI rfl] at z)
    exact z
  have rp4_S1 : zFm (mI S) (mL S) (mR S 70) S1 := by
    have z := rp4_S1
    (try rw [show mI S 65 = f 65 from funext (fun k => zG_z hI rfl)] at z)
    (try rw [show mI S 64 1 = f 64 1 from zG_z hI rfl] at z)
    exact z
  have b7 := i_bd v2
  have li8 : (0 : Int32).toInt = 0 := rfl
  refine zd (fun h9 => ?_) (fun h9 => ?_)
  · skip
    have g10 := i_lt h9
    have hI11 : zA f r C Z N (ma_put S1 64 1 (.inl (0 : Int32))) := zG_sp hI_S1 (0) (100) rfl (by decide) (by decide) (by decide) (show zA_x (mI S1) from zG_x hI_S1) (by omega) (by omega)
    have li12 : (-1 : Int32).toInt = -1 := rfl
    first | have e13 : ((-1 : Int32) - (mI S1 64 2)).toInt = (-1 : Int32).toInt - (mI S1 64 2).toInt := i_sub (by omega) (by omega) | have b14 := i_bd ((-1 : Int32) - (mI S1 64 2))
    exact K (((-1 : Int32) - (mI S1 64 2))) _ r (Or.inl rfl) hI11 (show (0 : Int32).toInt = 0 from by omega) (show (zAns zt zn < 0 ∧ r 64 11 = r 64 11 ∧ zFm J0 JL JR (ma_put S1 64 1 (.inl (0 : Int32)))) ∨ (0 ≤ zAns zt zn ∧ ((qPo zt zn = 0 ∧ r 64 11 = some 79 ∧ xB (ma_put S1 64 1 (.inl (0 : Int32))) (mR (ma_put S1 64 1 (.inl (0 : Int32))) 70) ∧ aS 88 (ma_put S1 64 1 (.inl (0 : Int32))) = aFg a8 ∧ zfP 79 (mI (ma_put S1 64 1 (.inl (0 : Int32)))) 2 = 0 ∧ (zfP 79 (mI (ma_put S1 64 1 (.inl (0 : Int32)))) 0).toInt = zVal zt zn 0 1 ∧ (zfP 79 (mI (ma_put S1 64 1 (.inl (0 : Int32)))) 1).toInt = zVal zt zn 6 2) ∨ (qPo zt zn = 4 ∧ r 64 11 = some 84 ∧ xB (ma_put S1 64 1 (.inl (0 : Int32))) (mR (ma_put S1 64 1 (.inl (0 : Int32))) 70) ∧ aS 88 (ma_put S1 64 1 (.inl (0 : Int32))) = aFg a8 ∧ zfP 84 (mI (ma_put S1 64 1 (.inl (0 : Int32)))) 2 = 0 ∧ (zfP 84 (mI (ma_put S1 64 1 (.inl (0 : Int32)))) 0).toInt = zVal zt zn 0 1 ∧ (zfP 84 (mI (ma_put S1 64 1 (.inl (0 : Int32)))) 1).toInt = zVal zt zn 6 2) ∨ (qPo zt zn = 5 ∧ r 64 11 = some 87 ∧ xB (ma_put S1 64 1 (.inl (0 : Int32))) (mR (ma_put S1 64 1 (.inl (0 : Int32))) 70) ∧ ∃ t : Nat → Int32, aS 88 (ma_put S1 64 1 (.inl (0 : Int32))) = aO2 (aFg a8) t ∧ (t 0).toInt = zVal zt zn 0 1 ∧ (t 1).toInt = zVal zt zn 6 2 ∧ (t 2).toInt = zVal zt zn 3 3 ∧ (t 3).toInt = zVal zt zn 7 4) ∨ ((qPo zt zn ≠ 0 ∧ qPo zt zn ≠ 4 ∧ qPo zt zn ≠ 5) ∧ r 64 11 ≠ some 79 ∧ r 64 11 ≠ some 84 ∧ r 64 11 ≠ some 87 ∧ r 64 11 ≠ none))) from by first | (exact Or.inl ⟨hp_ng (by have z := rp0_S1; rw [hpre0, hpre1] at z; exact z) (hp_neg hp_v2 (by first | exact Or.inl (by assumption) | omega)) (zG_s hI_S1 (0) (100) (c := 64) (k := 2) (by decide)).1, rfl, fn9_t hpre3 (fn9_p rp4_S1 (by decide))⟩)) (show (mI (ma_put S1 64 1 (.inl (0 : Int32))) 67) = k67 ∧ (mI (ma_put S1 64 1 (.inl (0 : Int32))) 68) = k68 from by first | (exact ⟨((show mI S1 67 = mI S 67 from funext (fun _ => zG_z hL_S1 rfl)).trans hpre4.1), ((show mI S1 68 = mI S 68 from funext (fun _ => zG_z hL_S1 rfl)).trans hpre4.2)⟩))
  · skip
    have g15 := i_nlt h9
    have li16 : (7 : Int32).toInt = 7 := rfl
    refine zd (fun h17 => ?_) (fun h17 => ?_)
    · skip
      have g18 := i_lt h17
      have hI19 : zA f r C Z N (ma_put S1 64 1 (.inl (0 : Int32))) := zG_sp hI_S1 (0) (100) rfl (by decide) (by decide) (by decide) (show zA_x (mI S1) from zG_x hI_S1) (by omega) (by omega)
      exact lp_127_64_sh_30 (by omega) (by omega) K _ _ (v2) rfl hI19 (by omega) (by omega) (show 0 ≤ (mI S1 66 0).toInt ∧ ((v2).toInt = 3 → 0 ≤ (mI S1 66 1).toInt) ∧ ((v2).toInt = 6 → 16 ≤ (mI S1 66 1).toInt) from by omega) (show (0 : Int32).toInt = 0 from by omega) (show aS 88 (ma_put S1 64 1 (.inl (0 : Int32))) = a8 from by first | (exact (fn9_aS (fn9_p rp4_S1 (by decide)) (fun _ _ z => (zG_70 hI (c := 70) (by decide) z).1)).trans hpre2)) (show 0 ≤ zAns zt zn ∧ (v2).toInt = qPo zt zn ∧ ((v2).toInt = 5 → ((mI (ma_put S1 64 1 (.inl (0 : Int32))) 66) 0).toInt = zVal zt zn 0 1 ∧ ((mI (ma_put S1 64 1 (.inl (0 : Int32))) 66) 1).toInt = zVal zt zn 6 2 ∧ ((mI (ma_put S1 64 1 (.inl (0 : Int32))) 66) 2).toInt = zVal zt zn 3 3 ∧ ((mI (ma_put S1 64 1 (.inl (0 : Int32))) 66) 3).toInt = zVal zt zn 7 4) from by first | (have z := rp0_S1; have z5 := rp1_S1; have zp := rp3_S1; rw [hpre0, hpre1] at z z5 zp; exact ⟨by have q := hp_good z (by omega); rw [← q]; exact Fin_nn (by omega) (fun w => by omega) (fun w => by omega), zp.elim (fun w => by omega) id, z5⟩)) (show ((v2).toInt = 0 ∨ (v2).toInt = 4) → ((mI (ma_put S1 64 1 (.inl (0 : Int32))) 66) 0).toInt = zVal zt zn 0 1 ∧ ((mI (ma_put S1 64 1 (.inl (0 : Int32))) 66) 1).toInt = zVal zt zn 6 2 from by first | (have z := rp2_S1; rw [hpre0, hpre1] at z; exact z)) (show (mI (ma_put S1 64 1 (.inl (0 : Int32))) 67) = k67 ∧ (mI (ma_put S1 64 1 (.inl (0 : Int32))) 68) = k68 from by first | (exact ⟨((show mI S1 67 = mI S 67 from funext (fun _ => zG_z hL_S1 rfl)).trans hpre4.1), ((show mI S1 68 = mI S 68 from funext (fun _ => zG_z hL_S1 rfl)).trans hpre4.2)⟩))
    · skip
      have g20 := i_nlt h17
      have hI21 : zA f r C Z N (ma_put S1 64 1 (.inl (0 : Int32))) := zG_sp hI_S1 (0) (100) rfl (by decide) (by decide) (by decide) (show zA_x (mI S1) from zG_x hI_S1) (by omega) (by omega)
      have li22 : (-1 : Int32).toInt = -1 := rfl
      first | have e23 : ((-1 : Int32) - (mI S1 64 2)).toInt = (-1 : Int32).toInt - (mI S1 64 2).toInt := i_sub (by omega) (by omega) | have b24 := i_bd ((-1 : Int32) - (mI S1 64 2))
      exact K (((-1 : Int32) - (mI S1 64 2))) _ r (Or.inl rfl) hI21 (show (0 : Int32).toInt = 0 from by omega) (show (zAns zt zn < 0 ∧ r 64 11 = r 64 11 ∧ zFm J0 JL JR (ma_put S1 64 1 (.inl (0 : Int32)))) ∨ (0 ≤ zAns zt zn ∧ ((qPo zt zn = 0 ∧ r 64 11 = some 79 ∧ xB (ma_put S1 64 1 (.inl (0 : Int32))) (mR (ma_put S1 64 1 (.inl (0 : Int32))) 70) ∧ aS 88 (ma_put S1 64 1 (.inl (0 : Int32))) = aFg a8 ∧ zfP 79 (mI (ma_put S1 64 1 (.inl (0 : Int32)))) 2 = 0 ∧ (zfP 79 (mI (ma_put S1 64 1 (.inl (0 : Int32)))) 0).toInt = zVal zt zn 0 1 ∧ (zfP 79 (mI (ma_put S1 64 1 (.inl (0 : Int32)))) 1).toInt = zVal zt zn 6 2) ∨ (qPo zt zn = 4 ∧ r 64 11 = some 84 ∧ xB (ma_put S1 64 1 (.inl (0 : Int32))) (mR (ma_put S1 64 1 (.inl (0 : Int32))) 70) ∧ aS 88 (ma_put S1 64 1 (.inl (0 : Int32))) = aFg a8 ∧ zfP 84 (mI (ma_put S1 64 1 (.inl (0 : Int32)))) 2 = 0 ∧ (zfP 84 (mI (ma_put S1 64 1 (.inl (0 : Int32)))) 0).toInt = zVal zt zn 0 1 ∧ (zfP 84 (mI (ma_put S1 64 1 (.inl (0 : Int32)))) 1).toInt = zVal zt zn 6 2) ∨ (qPo zt zn = 5 ∧ r 64 11 = some 87 ∧ xB (ma_put S1 64 1 (.inl (0 : Int32))) (mR (ma_put S1 64 1 (.inl (0 : Int32))) 70) ∧ ∃ t : Nat → Int32, aS 88 (ma_put S1 64 1 (.inl (0 : Int32))) = aO2 (aFg a8) t ∧ (t 0).toInt = zVal zt zn 0 1 ∧ (t 1).toInt = zVal zt zn 6 2 ∧ (t 2).toInt = zVal zt zn 3 3 ∧ (t 3).toInt = zVal zt zn 7 4) ∨ ((qPo zt zn ≠ 0 ∧ qPo zt zn ≠ 4 ∧ qPo zt zn ≠ 5) ∧ r 64 11 ≠ some 79 ∧ r 64 11 ≠ some 84 ∧ r 64 11 ≠ some 87 ∧ r 64 11 ≠ none))) from by first | (exact Or.inl ⟨hp_ng (by have z := rp0_S1; rw [hpre0, hpre1] at z; exact z) (hp_neg hp_v2 (by first | exact Or.inl (by assumption) | omega)) (zG_s hI_S1 (0) (100) (c := 64) (k := 2) (by decide)).1, rfl, fn9_t hpre3 (fn9_p rp4_S1 (by decide))⟩)) (show (mI (ma_put S1 64 1 (.inl (0 : Int32))) 67) = k67 ∧ (mI (ma_put S1 64 1 (.inl (0 : Int32))) 68) = k68 from by first | (exact ⟨((show mI S1 67 = mI S 67 from funext (fun _ => zG_z hL_S1 rfl)).trans hpre4.1), ((show mI S1 68 = mI S 68 from funext (fun _ => zG_z hL_S1 rfl)).trans hpre4.2)⟩))
