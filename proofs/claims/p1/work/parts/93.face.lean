/-! BACKWARD ROWS: what is left to show of each piece of the bytecode (written by wip/tools/gen92.py) -/
theorem g_137_0 {X : Nat × (Nat → Int32)} {d w : Nat} {S : ma_S} {Q : Option ma_V ⊕ Nat → ma_S → Prop} (a1 : Int32) (a2 : Int32) (a3 : Int32) (a4 : Int32) (a5 : Int32) (hd : 6 ≤ d) (hw : 89 ≤ w) (hS : zO S) (h : if ((mI S 64 1) + (20 : Int32)) ≤ (100 : Int32) then (ma_wp X (d - 1) (w - 22) 138 0 [(0, .inr (.inr (some 64))), (1, .inl a1)] [] S (zv (fun S1 => zO S1 ∧ (ma_wp X (d - 1) (w - 22) 138 0 [(0, .inr (.inr (some 64))), (1, .inl a2)] [] S1 (zv (fun S3 => zO S3 ∧ (ma_wp X (d - 1) (w - 22) 138 0 [(0, .inr (.inr (some 64))), (1, .inl a3)] [] S3 (zv (fun S5 => zO S5 ∧ (ma_wp X (d - 1) (w - 22) 138 0 [(0, .inr (.inr (some 64))), (1, .inl a4)] [] S5 (zv (fun S7 => zO S7 ∧ (ma_wp X (d - 1) (w - 22) 138 0 [(0, .inr (.inr (some 64))), (1, .inl a5)] [] S7 (zv (fun S9 => zO S9 ∧ (Q (.inl (some (.inl (mI S9 64 1)))) S9)) (fun x S9 => Q (.inr x) S9)))) (fun x S9 => Q (.inr x) S9)))) (fun x S9 => Q (.inr x) S9)))) (fun x S9 => Q (.inr x) S9)))) (fun x S9 => Q (.inr x) S9))) else (Q (.inr 1) (ma_bump S))) : ma_wp X d w 137 0 [(0, .inr (.inr (some 64))), (1, .inl a1), (2, .inl a2), (3, .inl a3), (4, .inl a4), (5, .inl a5)] [] S Q := by
  refine zw_push hm_137 dX11_feed_0 (v := .inr (.inr (some 64))) rfl ?_
  refine zw_gf hm_137 dX11_feed_1 (v := .inl (mI S 64 1)) (zO_is hS s_64) (zO_t hS s_64) rfl f_11_68_11 rfl ?_
  refine zw_push hm_137 dX11_feed_4 (v := .inl (20 : Int32)) rfl ?_
  refine zw_stk hm_137 dX11_feed_6 (st' := [.inl ((mI S 64 1) + (20 : Int32))]) rfl rfl ?_
  refine zw_push hm_137 dX11_feed_7 (v := .inl (100 : Int32)) rfl ?_
  refine zw_if2 hm_137 dX11_feed_9 (t := 20) rfl zc2_le ?_ ?_
  · intro hc
    rw [if_pos hc] at h
    refine zw_push hm_137 dX11_feed_20 (v := .inr (.inr (some 64))) rfl ?_
    refine zw_push hm_137 dX11_feed_21 (v := .inl a1) rfl ?_
    refine zw_cv hm_137 dX11_feed_22 v_11_75_11 hm_138 [.inl a1] [] rfl (zO_rt hS s_64 rfl) ⟨by omega, by omega⟩ rfl (zw_mono h (zv_go ?_ ?_))
    · intro S1 hv
      obtain ⟨hS1, h⟩ := hv
      refine zw_push hm_137 dX11_feed_25 (v := .inr (.inr (some 64))) rfl ?_
      refine zw_push hm_137 dX11_feed_26 (v := .inl a2) rfl ?_
      refine zw_cv hm_137 dX11_feed_27 v_11_75_11 hm_138 [.inl a2] [] rfl (zO_rt hS1 s_64 rfl) ⟨by omega, by omega⟩ rfl (zw_mono h (zv_go ?_ ?_))
      · intro S3 hv
        obtain ⟨hS3, h⟩ := hv
        refine zw_push hm_137 dX11_feed_30 (v := .inr (.inr (some 64))) rfl ?_
        refine zw_push hm_137 dX11_feed_31 (v := .inl a3) rfl ?_
        refine zw_cv hm_137 dX11_feed_32 v_11_75_11 hm_138 [.inl a3] [] rfl (zO_rt hS3 s_64 rfl) ⟨by omega, by omega⟩ rfl (zw_mono h (zv_go ?_ ?_))
        · intro S5 hv
          obtain ⟨hS5, h⟩ := hv
          refine zw_push hm_137 dX11_feed_35 (v := .inr (.inr (some 64))) rfl ?_
          refine zw_push hm_137 dX11_feed_36 (v := .inl a4) rfl ?_
          refine zw_cv hm_137 dX11_feed_38 v_11_75_11 hm_138 [.inl a4] [] rfl (zO_rt hS5 s_64 rfl) ⟨by omega, by omega⟩ rfl (zw_mono h (zv_go ?_ ?_))
          · intro S7 hv
            obtain ⟨hS7, h⟩ := hv
            refine zw_push hm_137 dX11_feed_41 (v := .inr (.inr (some 64))) rfl ?_
            refine zw_push hm_137 dX11_feed_42 (v := .inl a5) rfl ?_
            refine zw_cv hm_137 dX11_feed_44 v_11_75_11 hm_138 [.inl a5] [] rfl (zO_rt hS7 s_64 rfl) ⟨by omega, by omega⟩ rfl (zw_mono h (zv_go ?_ ?_))
            · intro S9 hv
              obtain ⟨hS9, h⟩ := hv
              refine zw_push hm_137 dX11_feed_47 (v := .inr (.inr (some 64))) rfl ?_
              refine zw_gf hm_137 dX11_feed_48 (v := .inl (mI S9 64 1)) (zO_is hS9 s_64) (zO_t hS9 s_64) rfl f_11_68_11 rfl ?_
              exact zw_iret hm_137 dX11_feed_51 h
            · intro x S9 hx
              exact ⟨by decide, hx⟩
          · intro x S9 hx
            exact ⟨by decide, hx⟩
        · intro x S9 hx
          exact ⟨by decide, hx⟩
      · intro x S9 hx
        exact ⟨by decide, hx⟩
    · intro x S9 hx
      exact ⟨by decide, hx⟩
  · intro hc
    rw [if_neg hc] at h
    exact zw_thr hm_137 dX11_feed_12 dX11_feed_15 dX11_feed_16 dX11_feed_19 x_11_72_74 n_11_72 (by omega) (by show 0 + 81 ≤ w; omega) h
theorem g_166_0 {X : Nat × (Nat → Int32)} {d w : Nat} {S : ma_S} {Q : Option ma_V ⊕ Nat → ma_S → Prop} (a1 : Int32) (a2 : Int32) (a3 : Int32) (a4 : Int32) (a5 : Int32) (hd : 1 ≤ d) (hw : 22 ≤ w) (hS : zO S) (h : if ((mI S 94 3) + (20 : Int32)) ≤ (100 : Int32) then (ma_wp X (d - 1) (w - 22) 168 0 [(0, .inr (.inr (some 94))), (1, .inl a1)] [] (ma_put S 94 0 (.inl (0 : Int32))) (zv (fun S1 => zO S1 ∧ (ma_wp X (d - 1) (w - 22) 168 0 [(0, .inr (.inr (some 94))), (1, .inl a2)] [] S1 (zv (fun S3 => zO S3 ∧ (ma_wp X (d - 1) (w - 22) 168 0 [(0, .inr (.inr (some 94))), (1, .inl a3)] [] S3 (zv (fun S5 => zO S5 ∧ (ma_wp X (d - 1) (w - 22) 168 0 [(0, .inr (.inr (some 94))), (1, .inl a4)] [] S5 (zv (fun S7 => zO S7 ∧ (ma_wp X (d - 1) (w - 22) 168 0 [(0, .inr (.inr (some 94))), (1, .inl a5)] [] S7 (zv (fun S9 => zO S9 ∧ (Q (.inl (some (.inl (mI S9 94 3)))) S9)) (fun x S9 => Q (.inr x) S9)))) (fun x S9 => Q (.inr x) S9)))) (fun x S9 => Q (.inr x) S9)))) (fun x S9 => Q (.inr x) S9)))) (fun x S9 => Q (.inr x) S9))) else (Q (.inl (some (.inl (0 : Int32)))) (ma_put S 94 0 (.inl (1 : Int32))))) : ma_wp X d w 166 0 [(0, .inr (.inr (some 94))), (1, .inl a1), (2, .inl a2), (3, .inl a3), (4, .inl a4), (5, .inl a5)] [] S Q := by
  refine zw_push hm_166 dX12_feed_0 (v := .inr (.inr (some 94))) rfl ?_
  refine zw_push hm_166 dX12_feed_1 (v := .inr (.inr (some 94))) rfl ?_
  refine zw_gf hm_166 dX12_feed_2 (v := .inl (mI S 94 3)) (zO_is hS s_94) (zO_t hS s_94) rfl f_12_107_12 rfl ?_
  refine zw_push hm_166 dX12_feed_5 (v := .inl (20 : Int32)) rfl ?_
  refine zw_stk hm_166 dX12_feed_7 (st' := [.inl ((mI S 94 3) + (20 : Int32)), .inr (.inr (some 94))]) rfl rfl ?_
  refine zw_push hm_166 dX12_feed_8 (v := .inl (100 : Int32)) rfl ?_
  refine zw_if2 hm_166 dX12_feed_10 (t := 17) rfl zc2_le ?_ ?_
  · intro hc
    rw [if_pos hc] at h
    refine zw_push hm_166 dX12_feed_17 (v := .inl (0 : Int32)) rfl ?_
    refine zw_cv hm_166 dX12_feed_18 v_12_110_12 hm_167 [.inl (0 : Int32)] [] rfl (zO_rt hS s_94 rfl) ⟨by omega, by omega⟩ rfl ?_
    show ma_wp X (d - 1) (w - 21) 167 0 [(0, .inr (.inr (some 94))), (1, .inl (0 : Int32))] [] S _
    refine zw_push hm_167 dX12_fails_0 (v := .inr (.inr (some 94))) rfl ?_
    refine zw_push hm_167 dX12_fails_1 (v := .inl (0 : Int32)) rfl ?_
    refine zw_pf hm_167 dX12_fails_2 (zO_is hS s_94) (zO_t hS s_94) p_12_1_12 zk_int ?_
    refine zw_push hm_167 dX12_fails_5 (v := .inl (0 : Int32)) rfl ?_
    refine zw_if0 hm_167 dX12_fails_6 (t := 13) rfl zc0_eq (fun _ => ?_) (fun hc => absurd (by decide) hc)
    refine zw_push hm_167 dX12_fails_13 (v := .inl (0 : Int32)) rfl ?_
    refine zw_bret hm_167 dX12_fails_14 (by decide) ?_
    show ma_wp X d w 166 21 [(0, .inr (.inr (some 94))), (1, .inl a1), (2, .inl a2), (3, .inl a3), (4, .inl a4), (5, .inl a5)] [.inl (0 : Int32)] (ma_put S 94 0 (.inl (0 : Int32))) Q
    refine zw_if0 hm_166 dX12_feed_21 (t := 26) rfl zc0_eq (fun _ => ?_) (fun hc => absurd (by decide) hc)
    refine zw_push hm_166 dX12_feed_26 (v := .inr (.inr (some 94))) rfl ?_
    refine zw_push hm_166 dX12_feed_27 (v := .inl a1) rfl ?_
    refine zw_cv hm_166 dX12_feed_28 v_12_114_12 hm_168 [.inl a1] [] rfl (zO_rt (zO_pi hS) s_94 rfl) ⟨by omega, by omega⟩ rfl (zw_mono h (zv_go ?_ ?_))
    · intro S1 hv
      obtain ⟨hS1, h⟩ := hv
      refine zw_push hm_166 dX12_feed_31 (v := .inr (.inr (some 94))) rfl ?_
      refine zw_push hm_166 dX12_feed_32 (v := .inl a2) rfl ?_
      refine zw_cv hm_166 dX12_feed_33 v_12_114_12 hm_168 [.inl a2] [] rfl (zO_rt hS1 s_94 rfl) ⟨by omega, by omega⟩ rfl (zw_mono h (zv_go ?_ ?_))
      · intro S3 hv
        obtain ⟨hS3, h⟩ := hv
        refine zw_push hm_166 dX12_feed_36 (v := .inr (.inr (some 94))) rfl ?_
        refine zw_push hm_166 dX12_feed_37 (v := .inl a3) rfl ?_
        refine zw_cv hm_166 dX12_feed_38 v_12_114_12 hm_168 [.inl a3] [] rfl (zO_rt hS3 s_94 rfl) ⟨by omega, by omega⟩ rfl (zw_mono h (zv_go ?_ ?_))
        · intro S5 hv
          obtain ⟨hS5, h⟩ := hv
          refine zw_push hm_166 dX12_feed_41 (v := .inr (.inr (some 94))) rfl ?_
          refine zw_push hm_166 dX12_feed_42 (v := .inl a4) rfl ?_
          refine zw_cv hm_166 dX12_feed_44 v_12_114_12 hm_168 [.inl a4] [] rfl (zO_rt hS5 s_94 rfl) ⟨by omega, by omega⟩ rfl (zw_mono h (zv_go ?_ ?_))
          · intro S7 hv
            obtain ⟨hS7, h⟩ := hv
            refine zw_push hm_166 dX12_feed_47 (v := .inr (.inr (some 94))) rfl ?_
            refine zw_push hm_166 dX12_feed_48 (v := .inl a5) rfl ?_
            refine zw_cv hm_166 dX12_feed_50 v_12_114_12 hm_168 [.inl a5] [] rfl (zO_rt hS7 s_94 rfl) ⟨by omega, by omega⟩ rfl (zw_mono h (zv_go ?_ ?_))
            · intro S9 hv
              obtain ⟨hS9, h⟩ := hv
              refine zw_push hm_166 dX12_feed_53 (v := .inr (.inr (some 94))) rfl ?_
              refine zw_gf hm_166 dX12_feed_54 (v := .inl (mI S9 94 3)) (zO_is hS9 s_94) (zO_t hS9 s_94) rfl f_12_107_12 rfl ?_
              exact zw_iret hm_166 dX12_feed_57 h
            · intro x S9 hx
              exact ⟨by decide, hx⟩
          · intro x S9 hx
            exact ⟨by decide, hx⟩
        · intro x S9 hx
          exact ⟨by decide, hx⟩
      · intro x S9 hx
        exact ⟨by decide, hx⟩
    · intro x S9 hx
      exact ⟨by decide, hx⟩
  · intro hc
    rw [if_neg hc] at h
    refine zw_push hm_166 dX12_feed_13 (v := .inl (1 : Int32)) rfl ?_
    refine zw_goto hm_166 dX12_feed_14 (t := 18) rfl ?_
    refine zw_cv hm_166 dX12_feed_18 v_12_110_12 hm_167 [.inl (1 : Int32)] [] rfl (zO_rt hS s_94 rfl) ⟨by omega, by omega⟩ rfl ?_
    show ma_wp X (d - 1) (w - 21) 167 0 [(0, .inr (.inr (some 94))), (1, .inl (1 : Int32))] [] S _
    refine zw_push hm_167 dX12_fails_0 (v := .inr (.inr (some 94))) rfl ?_
    refine zw_push hm_167 dX12_fails_1 (v := .inl (1 : Int32)) rfl ?_
    refine zw_pf hm_167 dX12_fails_2 (zO_is hS s_94) (zO_t hS s_94) p_12_1_12 zk_int ?_
    refine zw_push hm_167 dX12_fails_5 (v := .inl (1 : Int32)) rfl ?_
    refine zw_if0 hm_167 dX12_fails_6 (t := 13) rfl zc0_eq (fun hc => absurd hc (by decide)) (fun _ => ?_)
    refine zw_push hm_167 dX12_fails_9 (v := .inl (1 : Int32)) rfl ?_
    refine zw_goto hm_167 dX12_fails_10 (t := 14) rfl ?_
    refine zw_bret hm_167 dX12_fails_14 (by decide) ?_
    show ma_wp X d w 166 21 [(0, .inr (.inr (some 94))), (1, .inl a1), (2, .inl a2), (3, .inl a3), (4, .inl a4), (5, .inl a5)] [.inl (1 : Int32)] (ma_put S 94 0 (.inl (1 : Int32))) Q
    refine zw_if0 hm_166 dX12_feed_21 (t := 26) rfl zc0_eq (fun hc => absurd hc (by decide)) (fun _ => ?_)
    refine zw_push hm_166 dX12_feed_24 (v := .inl (0 : Int32)) rfl ?_
    exact zw_iret hm_166 dX12_feed_25 h
theorem g_139_0 {X : Nat × (Nat → Int32)} {d w : Nat} {S : ma_S} {Q : Option ma_V ⊕ Nat → ma_S → Prop} (a1 : Int32) (hd : 6 ≤ d) (hw : 89 ≤ w) (hS : zO S) (h : if a1 < 0 then (Q (.inr 2) (ma_bump S)) else (if a1 ≤ (mI S 64 1) then (Q (.inl (some (.inl a1))) (ma_put S 64 1 (.inl a1))) else (Q (.inr 2) (ma_bump S)))) : ma_wp X d w 139 0 [(0, .inr (.inr (some 64))), (1, .inl a1)] [] S Q := by
  refine zw_push hm_139 dX11_end_0 (v := .inl a1) rfl ?_
  refine zw_if0 hm_139 dX11_end_1 (t := 12) rfl zc0_lt ?_ ?_
  · intro hc
    rw [if_pos hc] at h
    exact zw_thr hm_139 dX11_end_12 dX11_end_15 dX11_end_16 dX11_end_19 x_11_79_81 n_11_79 (by omega) (by show 0 + 81 ≤ w; omega) h
  · intro hc
    rw [if_neg hc] at h
    refine zw_push hm_139 dX11_end_4 (v := .inl a1) rfl ?_
    refine zw_push hm_139 dX11_end_5 (v := .inr (.inr (some 64))) rfl ?_
    refine zw_gf hm_139 dX11_end_6 (v := .inl (mI S 64 1)) (zO_is hS s_64) (zO_t hS s_64) rfl f_11_68_11 rfl ?_
    refine zw_if2 hm_139 dX11_end_9 (t := 20) rfl zc2_le ?_ ?_
    · intro hc
      rw [if_pos hc] at h
      refine zw_push hm_139 dX11_end_20 (v := .inr (.inr (some 64))) rfl ?_
      refine zw_push hm_139 dX11_end_21 (v := .inl a1) rfl ?_
      refine zw_pf hm_139 dX11_end_22 (zO_is hS s_64) (zO_t hS s_64) p_11_68_11 zk_int ?_
      refine zw_push hm_139 dX11_end_25 (v := .inl a1) rfl ?_
      exact zw_iret hm_139 dX11_end_26 h
    · intro hc
      rw [if_neg hc] at h
      exact zw_thr hm_139 dX11_end_12 dX11_end_15 dX11_end_16 dX11_end_19 x_11_79_81 n_11_79 (by omega) (by show 0 + 81 ≤ w; omega) h
theorem g_169_0 {X : Nat × (Nat → Int32)} {d w : Nat} {S : ma_S} {Q : Option ma_V ⊕ Nat → ma_S → Prop} (a1 : Int32) (hd : 1 ≤ d) (hw : 21 ≤ w) (hS : zO S) (h : if a1 < 0 then (Q (.inl (some (.inl (0 : Int32)))) (ma_put S 94 0 (.inl (1 : Int32)))) else (if a1 ≤ (mI S 94 3) then (Q (.inl (some (.inl a1))) (ma_put (ma_put S 94 0 (.inl (0 : Int32))) 94 3 (.inl a1))) else (Q (.inl (some (.inl (0 : Int32)))) (ma_put S 94 0 (.inl (1 : Int32)))))) : ma_wp X d w 169 0 [(0, .inr (.inr (some 94))), (1, .inl a1)] [] S Q := by
  refine zw_push hm_169 dX12_end_0 (v := .inr (.inr (some 94))) rfl ?_
  refine zw_push hm_169 dX12_end_1 (v := .inl a1) rfl ?_
  refine zw_if0 hm_169 dX12_end_2 (t := 13) rfl zc0_lt ?_ ?_
  · intro hc
    rw [if_pos hc] at h
    refine zw_push hm_169 dX12_end_13 (v := .inl (1 : Int32)) rfl ?_
    refine zw_goto hm_169 dX12_end_14 (t := 18) rfl ?_
    refine zw_cv hm_169 dX12_end_18 v_12_110_12 hm_167 [.inl (1 : Int32)] [] rfl (zO_rt hS s_94 rfl) ⟨by omega, by omega⟩ rfl ?_
    show ma_wp X (d - 1) (w - 21) 167 0 [(0, .inr (.inr (some 94))), (1, .inl (1 : Int32))] [] S _
    refine zw_push hm_167 dX12_fails_0 (v := .inr (.inr (some 94))) rfl ?_
    refine zw_push hm_167 dX12_fails_1 (v := .inl (1 : Int32)) rfl ?_
    refine zw_pf hm_167 dX12_fails_2 (zO_is hS s_94) (zO_t hS s_94) p_12_1_12 zk_int ?_
    refine zw_push hm_167 dX12_fails_5 (v := .inl (1 : Int32)) rfl ?_
    refine zw_if0 hm_167 dX12_fails_6 (t := 13) rfl zc0_eq (fun hc => absurd hc (by decide)) (fun _ => ?_)
    refine zw_push hm_167 dX12_fails_9 (v := .inl (1 : Int32)) rfl ?_
    refine zw_goto hm_167 dX12_fails_10 (t := 14) rfl ?_
    refine zw_bret hm_167 dX12_fails_14 (by decide) ?_
    show ma_wp X d w 169 21 [(0, .inr (.inr (some 94))), (1, .inl a1)] [.inl (1 : Int32)] (ma_put S 94 0 (.inl (1 : Int32))) Q
    refine zw_if0 hm_169 dX12_end_21 (t := 26) rfl zc0_eq (fun hc => absurd hc (by decide)) (fun _ => ?_)
    refine zw_push hm_169 dX12_end_24 (v := .inl (0 : Int32)) rfl ?_
    exact zw_iret hm_169 dX12_end_25 h
  · intro hc
    rw [if_neg hc] at h
    refine zw_push hm_169 dX12_end_5 (v := .inl a1) rfl ?_
    refine zw_push hm_169 dX12_end_6 (v := .inr (.inr (some 94))) rfl ?_
    refine zw_gf hm_169 dX12_end_7 (v := .inl (mI S 94 3)) (zO_is hS s_94) (zO_t hS s_94) rfl f_12_107_12 rfl ?_
    refine zw_if2 hm_169 dX12_end_10 (t := 17) rfl zc2_le ?_ ?_
    · intro hc
      rw [if_pos hc] at h
      refine zw_push hm_169 dX12_end_17 (v := .inl (0 : Int32)) rfl ?_
      refine zw_cv hm_169 dX12_end_18 v_12_110_12 hm_167 [.inl (0 : Int32)] [] rfl (zO_rt hS s_94 rfl) ⟨by omega, by omega⟩ rfl ?_
      show ma_wp X (d - 1) (w - 21) 167 0 [(0, .inr (.inr (some 94))), (1, .inl (0 : Int32))] [] S _
      refine zw_push hm_167 dX12_fails_0 (v := .inr (.inr (some 94))) rfl ?_
      refine zw_push hm_167 dX12_fails_1 (v := .inl (0 : Int32)) rfl ?_
      refine zw_pf hm_167 dX12_fails_2 (zO_is hS s_94) (zO_t hS s_94) p_12_1_12 zk_int ?_
      refine zw_push hm_167 dX12_fails_5 (v := .inl (0 : Int32)) rfl ?_
      refine zw_if0 hm_167 dX12_fails_6 (t := 13) rfl zc0_eq (fun _ => ?_) (fun hc => absurd (by decide) hc)
      refine zw_push hm_167 dX12_fails_13 (v := .inl (0 : Int32)) rfl ?_
      refine zw_bret hm_167 dX12_fails_14 (by decide) ?_
      show ma_wp X d w 169 21 [(0, .inr (.inr (some 94))), (1, .inl a1)] [.inl (0 : Int32)] (ma_put S 94 0 (.inl (0 : Int32))) Q
      refine zw_if0 hm_169 dX12_end_21 (t := 26) rfl zc0_eq (fun _ => ?_) (fun hc => absurd (by decide) hc)
      refine zw_push hm_169 dX12_end_26 (v := .inr (.inr (some 94))) rfl ?_
      refine zw_push hm_169 dX12_end_27 (v := .inl a1) rfl ?_
      refine zw_pf hm_169 dX12_end_28 (zO_is (zO_pi hS) s_94) (zO_t (zO_pi hS) s_94) p_12_107_12 zk_int ?_
      refine zw_push hm_169 dX12_end_31 (v := .inl a1) rfl ?_
      exact zw_iret hm_169 dX12_end_32 h
    · intro hc
      rw [if_neg hc] at h
      refine zw_push hm_169 dX12_end_13 (v := .inl (1 : Int32)) rfl ?_
      refine zw_goto hm_169 dX12_end_14 (t := 18) rfl ?_
      refine zw_cv hm_169 dX12_end_18 v_12_110_12 hm_167 [.inl (1 : Int32)] [] rfl (zO_rt hS s_94 rfl) ⟨by omega, by omega⟩ rfl ?_
      show ma_wp X (d - 1) (w - 21) 167 0 [(0, .inr (.inr (some 94))), (1, .inl (1 : Int32))] [] S _
      refine zw_push hm_167 dX12_fails_0 (v := .inr (.inr (some 94))) rfl ?_
      refine zw_push hm_167 dX12_fails_1 (v := .inl (1 : Int32)) rfl ?_
      refine zw_pf hm_167 dX12_fails_2 (zO_is hS s_94) (zO_t hS s_94) p_12_1_12 zk_int ?_
      refine zw_push hm_167 dX12_fails_5 (v := .inl (1 : Int32)) rfl ?_
      refine zw_if0 hm_167 dX12_fails_6 (t := 13) rfl zc0_eq (fun hc => absurd hc (by decide)) (fun _ => ?_)
      refine zw_push hm_167 dX12_fails_9 (v := .inl (1 : Int32)) rfl ?_
      refine zw_goto hm_167 dX12_fails_10 (t := 14) rfl ?_
      refine zw_bret hm_167 dX12_fails_14 (by decide) ?_
      show ma_wp X d w 169 21 [(0, .inr (.inr (some 94))), (1, .inl a1)] [.inl (1 : Int32)] (ma_put S 94 0 (.inl (1 : Int32))) Q
      refine zw_if0 hm_169 dX12_end_21 (t := 26) rfl zc0_eq (fun hc => absurd hc (by decide)) (fun _ => ?_)
      refine zw_push hm_169 dX12_end_24 (v := .inl (0 : Int32)) rfl ?_
      exact zw_iret hm_169 dX12_end_25 h
theorem g_140_0 {X : Nat × (Nat → Int32)} {d w : Nat} {S : ma_S} {Q : Option ma_V ⊕ Nat → ma_S → Prop} (a1 : Int32) (a2 : Int32) (hd : 6 ≤ d) (hw : 89 ≤ w) (hS : zO S) (h : if a1 < 0 then (Q (.inr 2) (ma_bump S)) else (if (8 : Int32) < a1 then (Q (.inr 2) (ma_bump S)) else (if a2 < 0 then (Q (.inr 2) (ma_bump S)) else (if a2 < ((1 : Int32) <<< (a1 &&& 31)) then (if (mI S 64 7) < (16 : Int32) then ((0 ≤ (mI S 64 7) ∧ (mI S 64 7).toNatClampNeg < 16) ∧ ((0 ≤ (mI S 64 7) ∧ (mI S 64 7).toNatClampNeg < 16) ∧ (Q (.inl (some (.inl (((mI S 64 7) + (1 : Int32)) - (1 : Int32))))) (ma_put (ma_put (ma_put S 67 (mI S 64 7).toNatClampNeg (.inl a1)) 68 (mI S 64 7).toNatClampNeg (.inl a2)) 64 7 (.inl ((mI S 64 7) + (1 : Int32))))))) else (Q (.inr 3) (ma_bump S))) else (Q (.inr 2) (ma_bump S)))))) : ma_wp X d w 140 0 [(0, .inr (.inr (some 64))), (1, .inl a1), (2, .inl a2)] [] S Q := by
  refine zw_push hm_140 dX11_kind_0 (v := .inl a1) rfl ?_
  refine zw_if0 hm_140 dX11_kind_1 (t := 21) rfl zc0_lt ?_ ?_
  · intro hc
    rw [if_pos hc] at h
    exact zw_thr hm_140 dX11_kind_21 dX11_kind_24 dX11_kind_25 dX11_kind_28 x_11_79_81 n_11_79 (by omega) (by show 0 + 81 ≤ w; omega) h
  · intro hc
    rw [if_neg hc] at h
    refine zw_push hm_140 dX11_kind_4 (v := .inl a1) rfl ?_
    refine zw_push hm_140 dX11_kind_5 (v := .inl (8 : Int32)) rfl ?_
    refine zw_if2 hm_140 dX11_kind_7 (t := 21) rfl zc2_gt ?_ ?_
    · intro hc
      rw [if_pos hc] at h
      exact zw_thr hm_140 dX11_kind_21 dX11_kind_24 dX11_kind_25 dX11_kind_28 x_11_79_81 n_11_79 (by omega) (by show 0 + 81 ≤ w; omega) h
    · intro hc
      rw [if_neg hc] at h
      refine zw_push hm_140 dX11_kind_10 (v := .inl a2) rfl ?_
      refine zw_if0 hm_140 dX11_kind_11 (t := 21) rfl zc0_lt ?_ ?_
      · intro hc
        rw [if_pos hc] at h
        exact zw_thr hm_140 dX11_kind_21 dX11_kind_24 dX11_kind_25 dX11_kind_28 x_11_79_81 n_11_79 (by omega) (by show 0 + 81 ≤ w; omega) h
      · intro hc
        rw [if_neg hc] at h
        refine zw_push hm_140 dX11_kind_14 (v := .inl a2) rfl ?_
        refine zw_push hm_140 dX11_kind_15 (v := .inl (1 : Int32)) rfl ?_
        refine zw_push hm_140 dX11_kind_16 (v := .inl a1) rfl ?_
        refine zw_stk hm_140 dX11_kind_17 (st' := [.inl ((1 : Int32) <<< (a1 &&& 31)), .inl a2]) rfl rfl ?_
        refine zw_if2 hm_140 dX11_kind_18 (t := 29) rfl zc2_lt ?_ ?_
        · intro hc
          rw [if_pos hc] at h
          refine zw_push hm_140 dX11_kind_29 (v := .inr (.inr (some 64))) rfl ?_
          refine zw_gf hm_140 dX11_kind_30 (v := .inl (mI S 64 7)) (zO_is hS s_64) (zO_t hS s_64) rfl f_11_82_11 rfl ?_
          refine zw_push hm_140 dX11_kind_33 (v := .inl (16 : Int32)) rfl ?_
          refine zw_if2 hm_140 dX11_kind_35 (t := 46) rfl zc2_lt ?_ ?_
          · intro hc
            rw [if_pos hc] at h
            refine zw_push hm_140 dX11_kind_46 (v := .inr (.inr (some 64))) rfl ?_
            refine zw_gf hm_140 dX11_kind_47 (v := .inr (.inr (some 67))) (zO_is hS s_64) (zO_t hS s_64) rfl f_11_17_11 (zO_f hS r_64_5) ?_
            refine zw_push hm_140 dX11_kind_50 (v := .inr (.inr (some 64))) rfl ?_
            refine zw_gf hm_140 dX11_kind_51 (v := .inl (mI S 64 7)) (zO_is hS s_64) (zO_t hS s_64) rfl f_11_82_11 rfl ?_
            refine zw_push hm_140 dX11_kind_54 (v := .inl a1) rfl ?_
            obtain ⟨hg, h⟩ := h
            refine zw_ias hm_140 dX11_kind_55 (zO_is hS s_67) (zO_h hS s_67) rfl hg ?_
            refine zw_push hm_140 dX11_kind_56 (v := .inr (.inr (some 64))) rfl ?_
            refine zw_gf hm_140 dX11_kind_57 (v := .inr (.inr (some 68))) (zO_is (zO_pi hS) s_64) (zO_t (zO_pi hS) s_64) rfl f_11_20_11 (zO_f (zO_pi hS) r_64_6) ?_
            refine zw_push hm_140 dX11_kind_60 (v := .inr (.inr (some 64))) rfl ?_
            refine zw_gf hm_140 dX11_kind_61 (v := .inl (mI S 64 7)) (zO_is (zO_pi hS) s_64) (zO_t (zO_pi hS) s_64) rfl f_11_82_11 rfl ?_
            refine zw_push hm_140 dX11_kind_64 (v := .inl a2) rfl ?_
            obtain ⟨hg, h⟩ := h
            refine zw_ias hm_140 dX11_kind_65 (zO_is (zO_pi hS) s_68) (zO_h (zO_pi hS) s_68) rfl hg ?_
            refine zw_push hm_140 dX11_kind_66 (v := .inr (.inr (some 64))) rfl ?_
            refine zw_stk hm_140 dX11_kind_67 (st' := [.inr (.inr (some 64)), .inr (.inr (some 64))]) rfl rfl ?_
            refine zw_gf hm_140 dX11_kind_68 (v := .inl (mI S 64 7)) (zO_is (zO_pi (zO_pi hS)) s_64) (zO_t (zO_pi (zO_pi hS)) s_64) rfl f_11_82_11 rfl ?_
            refine zw_push hm_140 dX11_kind_71 (v := .inl (1 : Int32)) rfl ?_
            refine zw_stk hm_140 dX11_kind_72 (st' := [.inl ((mI S 64 7) + (1 : Int32)), .inr (.inr (some 64))]) rfl rfl ?_
            refine zw_pf hm_140 dX11_kind_73 (zO_is (zO_pi (zO_pi hS)) s_64) (zO_t (zO_pi (zO_pi hS)) s_64) p_11_82_11 zk_int ?_
            refine zw_push hm_140 dX11_kind_76 (v := .inr (.inr (some 64))) rfl ?_
            refine zw_gf hm_140 dX11_kind_77 (v := .inl ((mI S 64 7) + (1 : Int32))) (zO_is (zO_pi (zO_pi (zO_pi hS))) s_64) (zO_t (zO_pi (zO_pi (zO_pi hS))) s_64) rfl f_11_82_11 rfl ?_
            refine zw_push hm_140 dX11_kind_80 (v := .inl (1 : Int32)) rfl ?_
            refine zw_stk hm_140 dX11_kind_81 (st' := [.inl (((mI S 64 7) + (1 : Int32)) - (1 : Int32))]) rfl rfl ?_
            exact zw_iret hm_140 dX11_kind_82 h
          · intro hc
            rw [if_neg hc] at h
            exact zw_thr hm_140 dX11_kind_38 dX11_kind_41 dX11_kind_42 dX11_kind_45 x_11_85_87 n_11_85 (by omega) (by show 0 + 81 ≤ w; omega) h
        · intro hc
          rw [if_neg hc] at h
          exact zw_thr hm_140 dX11_kind_21 dX11_kind_24 dX11_kind_25 dX11_kind_28 x_11_79_81 n_11_79 (by omega) (by show 0 + 81 ≤ w; omega) h
theorem g_170_0 {X : Nat × (Nat → Int32)} {d w : Nat} {S : ma_S} {Q : Option ma_V ⊕ Nat → ma_S → Prop} (a1 : Int32) (a2 : Int32) (hd : 1 ≤ d) (hw : 21 ≤ w) (hS : zO S) (h : if a1 < 0 then (Q (.inl (some (.inl (0 : Int32)))) (ma_put S 94 0 (.inl (1 : Int32)))) else (if a1 ≤ (8 : Int32) then (if a2 < 0 then (Q (.inl (some (.inl (0 : Int32)))) (ma_put S 94 0 (.inl (1 : Int32)))) else (if a2 < ((1 : Int32) <<< (a1 &&& 31)) then (if (mI S 94 7) = (16 : Int32) then (Q (.inl (some (.inl (0 : Int32)))) (ma_put S 94 0 (.inl (2 : Int32)))) else ((0 ≤ (mI S 94 7) ∧ (mI S 94 7).toNatClampNeg < 16) ∧ ((0 ≤ (mI S 94 7) ∧ (mI S 94 7).toNatClampNeg < 16) ∧ (Q (.inl (some (.inl (((mI S 94 7) + (1 : Int32)) - (1 : Int32))))) (ma_put (ma_put (ma_put (ma_put S 94 0 (.inl (0 : Int32))) 97 (mI S 94 7).toNatClampNeg (.inl a1)) 98 (mI S 94 7).toNatClampNeg (.inl a2)) 94 7 (.inl ((mI S 94 7) + (1 : Int32)))))))) else (Q (.inl (some (.inl (0 : Int32)))) (ma_put S 94 0 (.inl (1 : Int32)))))) else (Q (.inl (some (.inl (0 : Int32)))) (ma_put S 94 0 (.inl (1 : Int32)))))) : ma_wp X d w 170 0 [(0, .inr (.inr (some 94))), (1, .inl a1), (2, .inl a2)] [] S Q := by
  refine zw_push hm_170 dX12_kind_0 (v := .inl a1) rfl ?_
  refine zw_if0 hm_170 dX12_kind_1 (t := 10) rfl zc0_lt ?_ ?_
  · intro hc
    rw [if_pos hc] at h
    refine zw_push hm_170 dX12_kind_10 (v := .inl (1 : Int32)) rfl ?_
    refine zw_goto hm_170 dX12_kind_11 (t := 15) rfl ?_
    refine zw_sto hm_170 dX12_kind_15 [(3, .inl (1 : Int32)), (0, .inr (.inr (some 94))), (1, .inl a1), (2, .inl a2)] rfl rfl rfl ?_
    refine zw_push hm_170 dX12_kind_16 (v := .inr (.inr (some 94))) rfl ?_
    refine zw_push hm_170 dX12_kind_17 (v := .inl (1 : Int32)) rfl ?_
    refine zw_if0 hm_170 dX12_kind_18 (t := 32) rfl zc0_ne (fun _ => ?_) (fun hc => absurd (by decide) hc)
    refine zw_push hm_170 dX12_kind_32 (v := .inl (1 : Int32)) rfl ?_
    refine zw_goto hm_170 dX12_kind_33 (t := 50) rfl ?_
    refine zw_cv hm_170 dX12_kind_50 v_12_110_12 hm_167 [.inl (1 : Int32)] [] rfl (zO_rt hS s_94 rfl) ⟨by omega, by omega⟩ rfl ?_
    show ma_wp X (d - 1) (w - 21) 167 0 [(0, .inr (.inr (some 94))), (1, .inl (1 : Int32))] [] S _
    refine zw_push hm_167 dX12_fails_0 (v := .inr (.inr (some 94))) rfl ?_
    refine zw_push hm_167 dX12_fails_1 (v := .inl (1 : Int32)) rfl ?_
    refine zw_pf hm_167 dX12_fails_2 (zO_is hS s_94) (zO_t hS s_94) p_12_1_12 zk_int ?_
    refine zw_push hm_167 dX12_fails_5 (v := .inl (1 : Int32)) rfl ?_
    refine zw_if0 hm_167 dX12_fails_6 (t := 13) rfl zc0_eq (fun hc => absurd hc (by decide)) (fun _ => ?_)
    refine zw_push hm_167 dX12_fails_9 (v := .inl (1 : Int32)) rfl ?_
    refine zw_goto hm_167 dX12_fails_10 (t := 14) rfl ?_
    refine zw_bret hm_167 dX12_fails_14 (by decide) ?_
    show ma_wp X d w 170 53 [(3, .inl (1 : Int32)), (0, .inr (.inr (some 94))), (1, .inl a1), (2, .inl a2)] [.inl (1 : Int32)] (ma_put S 94 0 (.inl (1 : Int32))) Q
    refine zw_if0 hm_170 dX12_kind_53 (t := 58) rfl zc0_eq (fun hc => absurd hc (by decide)) (fun _ => ?_)
    refine zw_push hm_170 dX12_kind_56 (v := .inl (0 : Int32)) rfl ?_
    exact zw_iret hm_170 dX12_kind_57 h
  · intro hc
    rw [if_neg hc] at h
    refine zw_push hm_170 dX12_kind_4 (v := .inl a1) rfl ?_
    refine zw_push hm_170 dX12_kind_5 (v := .inl (8 : Int32)) rfl ?_
    refine zw_if2 hm_170 dX12_kind_7 (t := 14) rfl zc2_le ?_ ?_
    · intro hc
      rw [if_pos hc] at h
      refine zw_push hm_170 dX12_kind_14 (v := .inl (0 : Int32)) rfl ?_
      refine zw_sto hm_170 dX12_kind_15 [(3, .inl (0 : Int32)), (0, .inr (.inr (some 94))), (1, .inl a1), (2, .inl a2)] rfl rfl rfl ?_
      refine zw_push hm_170 dX12_kind_16 (v := .inr (.inr (some 94))) rfl ?_
      refine zw_push hm_170 dX12_kind_17 (v := .inl (0 : Int32)) rfl ?_
      refine zw_if0 hm_170 dX12_kind_18 (t := 32) rfl zc0_ne (fun hc => absurd hc (by decide)) (fun _ => ?_)
      refine zw_push hm_170 dX12_kind_21 (v := .inl a2) rfl ?_
      refine zw_if0 hm_170 dX12_kind_22 (t := 32) rfl zc0_lt ?_ ?_
      · intro hc
        rw [if_pos hc] at h
        refine zw_push hm_170 dX12_kind_32 (v := .inl (1 : Int32)) rfl ?_
        refine zw_goto hm_170 dX12_kind_33 (t := 50) rfl ?_
        refine zw_cv hm_170 dX12_kind_50 v_12_110_12 hm_167 [.inl (1 : Int32)] [] rfl (zO_rt hS s_94 rfl) ⟨by omega, by omega⟩ rfl ?_
        show ma_wp X (d - 1) (w - 21) 167 0 [(0, .inr (.inr (some 94))), (1, .inl (1 : Int32))] [] S _
        refine zw_push hm_167 dX12_fails_0 (v := .inr (.inr (some 94))) rfl ?_
        refine zw_push hm_167 dX12_fails_1 (v := .inl (1 : Int32)) rfl ?_
        refine zw_pf hm_167 dX12_fails_2 (zO_is hS s_94) (zO_t hS s_94) p_12_1_12 zk_int ?_
        refine zw_push hm_167 dX12_fails_5 (v := .inl (1 : Int32)) rfl ?_
        refine zw_if0 hm_167 dX12_fails_6 (t := 13) rfl zc0_eq (fun hc => absurd hc (by decide)) (fun _ => ?_)
        refine zw_push hm_167 dX12_fails_9 (v := .inl (1 : Int32)) rfl ?_
        refine zw_goto hm_167 dX12_fails_10 (t := 14) rfl ?_
        refine zw_bret hm_167 dX12_fails_14 (by decide) ?_
        show ma_wp X d w 170 53 [(3, .inl (0 : Int32)), (0, .inr (.inr (some 94))), (1, .inl a1), (2, .inl a2)] [.inl (1 : Int32)] (ma_put S 94 0 (.inl (1 : Int32))) Q
        refine zw_if0 hm_170 dX12_kind_53 (t := 58) rfl zc0_eq (fun hc => absurd hc (by decide)) (fun _ => ?_)
        refine zw_push hm_170 dX12_kind_56 (v := .inl (0 : Int32)) rfl ?_
        exact zw_iret hm_170 dX12_kind_57 h
      · intro hc
        rw [if_neg hc] at h
        refine zw_push hm_170 dX12_kind_25 (v := .inl a2) rfl ?_
        refine zw_push hm_170 dX12_kind_26 (v := .inl (1 : Int32)) rfl ?_
        refine zw_push hm_170 dX12_kind_27 (v := .inl a1) rfl ?_
        refine zw_stk hm_170 dX12_kind_28 (st' := [.inl ((1 : Int32) <<< (a1 &&& 31)), .inl a2, .inr (.inr (some 94))]) rfl rfl ?_
        refine zw_if2 hm_170 dX12_kind_29 (t := 36) rfl zc2_lt ?_ ?_
        · intro hc
          rw [if_pos hc] at h
          refine zw_push hm_170 dX12_kind_36 (v := .inr (.inr (some 94))) rfl ?_
          refine zw_gf hm_170 dX12_kind_37 (v := .inl (mI S 94 7)) (zO_is hS s_94) (zO_t hS s_94) rfl f_12_118_12 rfl ?_
          refine zw_push hm_170 dX12_kind_40 (v := .inl (16 : Int32)) rfl ?_
          refine zw_if2 hm_170 dX12_kind_42 (t := 49) rfl zc2_ne ?_ ?_
          · intro hc
            rw [if_neg hc] at h
            refine zw_push hm_170 dX12_kind_49 (v := .inl (0 : Int32)) rfl ?_
            refine zw_cv hm_170 dX12_kind_50 v_12_110_12 hm_167 [.inl (0 : Int32)] [] rfl (zO_rt hS s_94 rfl) ⟨by omega, by omega⟩ rfl ?_
            show ma_wp X (d - 1) (w - 21) 167 0 [(0, .inr (.inr (some 94))), (1, .inl (0 : Int32))] [] S _
            refine zw_push hm_167 dX12_fails_0 (v := .inr (.inr (some 94))) rfl ?_
            refine zw_push hm_167 dX12_fails_1 (v := .inl (0 : Int32)) rfl ?_
            refine zw_pf hm_167 dX12_fails_2 (zO_is hS s_94) (zO_t hS s_94) p_12_1_12 zk_int ?_
            refine zw_push hm_167 dX12_fails_5 (v := .inl (0 : Int32)) rfl ?_
            refine zw_if0 hm_167 dX12_fails_6 (t := 13) rfl zc0_eq (fun _ => ?_) (fun hc => absurd (by decide) hc)
            refine zw_push hm_167 dX12_fails_13 (v := .inl (0 : Int32)) rfl ?_
            refine zw_bret hm_167 dX12_fails_14 (by decide) ?_
            show ma_wp X d w 170 53 [(3, .inl (0 : Int32)), (0, .inr (.inr (some 94))), (1, .inl a1), (2, .inl a2)] [.inl (0 : Int32)] (ma_put S 94 0 (.inl (0 : Int32))) Q
            refine zw_if0 hm_170 dX12_kind_53 (t := 58) rfl zc0_eq (fun _ => ?_) (fun hc => absurd (by decide) hc)
            refine zw_push hm_170 dX12_kind_58 (v := .inr (.inr (some 94))) rfl ?_
            refine zw_gf hm_170 dX12_kind_59 (v := .inr (.inr (some 97))) (zO_is (zO_pi hS) s_94) (zO_t (zO_pi hS) s_94) rfl f_12_20_12 (zO_f (zO_pi hS) r_94_5) ?_
            refine zw_push hm_170 dX12_kind_62 (v := .inr (.inr (some 94))) rfl ?_
            refine zw_gf hm_170 dX12_kind_63 (v := .inl (mI S 94 7)) (zO_is (zO_pi hS) s_94) (zO_t (zO_pi hS) s_94) rfl f_12_118_12 rfl ?_
            refine zw_push hm_170 dX12_kind_66 (v := .inl a1) rfl ?_
            obtain ⟨hg, h⟩ := h
            refine zw_ias hm_170 dX12_kind_67 (zO_is (zO_pi hS) s_97) (zO_h (zO_pi hS) s_97) rfl hg ?_
            refine zw_push hm_170 dX12_kind_68 (v := .inr (.inr (some 94))) rfl ?_
            refine zw_gf hm_170 dX12_kind_69 (v := .inr (.inr (some 98))) (zO_is (zO_pi (zO_pi hS)) s_94) (zO_t (zO_pi (zO_pi hS)) s_94) rfl f_12_24_12 (zO_f (zO_pi (zO_pi hS)) r_94_6) ?_
            refine zw_push hm_170 dX12_kind_72 (v := .inr (.inr (some 94))) rfl ?_
            refine zw_gf hm_170 dX12_kind_73 (v := .inl (mI S 94 7)) (zO_is (zO_pi (zO_pi hS)) s_94) (zO_t (zO_pi (zO_pi hS)) s_94) rfl f_12_118_12 rfl ?_
            refine zw_push hm_170 dX12_kind_76 (v := .inl a2) rfl ?_
            obtain ⟨hg, h⟩ := h
            refine zw_ias hm_170 dX12_kind_77 (zO_is (zO_pi (zO_pi hS)) s_98) (zO_h (zO_pi (zO_pi hS)) s_98) rfl hg ?_
            refine zw_push hm_170 dX12_kind_78 (v := .inr (.inr (some 94))) rfl ?_
            refine zw_stk hm_170 dX12_kind_79 (st' := [.inr (.inr (some 94)), .inr (.inr (some 94))]) rfl rfl ?_
            refine zw_gf hm_170 dX12_kind_80 (v := .inl (mI S 94 7)) (zO_is (zO_pi (zO_pi (zO_pi hS))) s_94) (zO_t (zO_pi (zO_pi (zO_pi hS))) s_94) rfl f_12_118_12 rfl ?_
            refine zw_push hm_170 dX12_kind_83 (v := .inl (1 : Int32)) rfl ?_
            refine zw_stk hm_170 dX12_kind_84 (st' := [.inl ((mI S 94 7) + (1 : Int32)), .inr (.inr (some 94))]) rfl rfl ?_
            refine zw_pf hm_170 dX12_kind_85 (zO_is (zO_pi (zO_pi (zO_pi hS))) s_94) (zO_t (zO_pi (zO_pi (zO_pi hS))) s_94) p_12_118_12 zk_int ?_
            refine zw_push hm_170 dX12_kind_88 (v := .inr (.inr (some 94))) rfl ?_
            refine zw_gf hm_170 dX12_kind_89 (v := .inl ((mI S 94 7) + (1 : Int32))) (zO_is (zO_pi (zO_pi (zO_pi (zO_pi hS)))) s_94) (zO_t (zO_pi (zO_pi (zO_pi (zO_pi hS)))) s_94) rfl f_12_118_12 rfl ?_
            refine zw_push hm_170 dX12_kind_92 (v := .inl (1 : Int32)) rfl ?_
            refine zw_stk hm_170 dX12_kind_93 (st' := [.inl (((mI S 94 7) + (1 : Int32)) - (1 : Int32))]) rfl rfl ?_
            exact zw_iret hm_170 dX12_kind_94 h
          · intro hc
            rw [if_pos (Classical.not_not.mp hc)] at h
            refine zw_push hm_170 dX12_kind_45 (v := .inl (2 : Int32)) rfl ?_
            refine zw_goto hm_170 dX12_kind_46 (t := 50) rfl ?_
            refine zw_cv hm_170 dX12_kind_50 v_12_110_12 hm_167 [.inl (2 : Int32)] [] rfl (zO_rt hS s_94 rfl) ⟨by omega, by omega⟩ rfl ?_
            show ma_wp X (d - 1) (w - 21) 167 0 [(0, .inr (.inr (some 94))), (1, .inl (2 : Int32))] [] S _
            refine zw_push hm_167 dX12_fails_0 (v := .inr (.inr (some 94))) rfl ?_
            refine zw_push hm_167 dX12_fails_1 (v := .inl (2 : Int32)) rfl ?_
            refine zw_pf hm_167 dX12_fails_2 (zO_is hS s_94) (zO_t hS s_94) p_12_1_12 zk_int ?_
            refine zw_push hm_167 dX12_fails_5 (v := .inl (2 : Int32)) rfl ?_
            refine zw_if0 hm_167 dX12_fails_6 (t := 13) rfl zc0_eq (fun hc => absurd hc (by decide)) (fun _ => ?_)
            refine zw_push hm_167 dX12_fails_9 (v := .inl (1 : Int32)) rfl ?_
            refine zw_goto hm_167 dX12_fails_10 (t := 14) rfl ?_
            refine zw_bret hm_167 dX12_fails_14 (by decide) ?_
            show ma_wp X d w 170 53 [(3, .inl (0 : Int32)), (0, .inr (.inr (some 94))), (1, .inl a1), (2, .inl a2)] [.inl (1 : Int32)] (ma_put S 94 0 (.inl (2 : Int32))) Q
            refine zw_if0 hm_170 dX12_kind_53 (t := 58) rfl zc0_eq (fun hc => absurd hc (by decide)) (fun _ => ?_)
            refine zw_push hm_170 dX12_kind_56 (v := .inl (0 : Int32)) rfl ?_
            exact zw_iret hm_170 dX12_kind_57 h
        · intro hc
          rw [if_neg hc] at h
          refine zw_push hm_170 dX12_kind_32 (v := .inl (1 : Int32)) rfl ?_
          refine zw_goto hm_170 dX12_kind_33 (t := 50) rfl ?_
          refine zw_cv hm_170 dX12_kind_50 v_12_110_12 hm_167 [.inl (1 : Int32)] [] rfl (zO_rt hS s_94 rfl) ⟨by omega, by omega⟩ rfl ?_
          show ma_wp X (d - 1) (w - 21) 167 0 [(0, .inr (.inr (some 94))), (1, .inl (1 : Int32))] [] S _
          refine zw_push hm_167 dX12_fails_0 (v := .inr (.inr (some 94))) rfl ?_
          refine zw_push hm_167 dX12_fails_1 (v := .inl (1 : Int32)) rfl ?_
          refine zw_pf hm_167 dX12_fails_2 (zO_is hS s_94) (zO_t hS s_94) p_12_1_12 zk_int ?_
          refine zw_push hm_167 dX12_fails_5 (v := .inl (1 : Int32)) rfl ?_
          refine zw_if0 hm_167 dX12_fails_6 (t := 13) rfl zc0_eq (fun hc => absurd hc (by decide)) (fun _ => ?_)
          refine zw_push hm_167 dX12_fails_9 (v := .inl (1 : Int32)) rfl ?_
          refine zw_goto hm_167 dX12_fails_10 (t := 14) rfl ?_
          refine zw_bret hm_167 dX12_fails_14 (by decide) ?_
          show ma_wp X d w 170 53 [(3, .inl (0 : Int32)), (0, .inr (.inr (some 94))), (1, .inl a1), (2, .inl a2)] [.inl (1 : Int32)] (ma_put S 94 0 (.inl (1 : Int32))) Q
          refine zw_if0 hm_170 dX12_kind_53 (t := 58) rfl zc0_eq (fun hc => absurd hc (by decide)) (fun _ => ?_)
          refine zw_push hm_170 dX12_kind_56 (v := .inl (0 : Int32)) rfl ?_
          exact zw_iret hm_170 dX12_kind_57 h
    · intro hc
      rw [if_neg hc] at h
      refine zw_push hm_170 dX12_kind_10 (v := .inl (1 : Int32)) rfl ?_
      refine zw_goto hm_170 dX12_kind_11 (t := 15) rfl ?_
      refine zw_sto hm_170 dX12_kind_15 [(3, .inl (1 : Int32)), (0, .inr (.inr (some 94))), (1, .inl a1), (2, .inl a2)] rfl rfl rfl ?_
      refine zw_push hm_170 dX12_kind_16 (v := .inr (.inr (some 94))) rfl ?_
      refine zw_push hm_170 dX12_kind_17 (v := .inl (1 : Int32)) rfl ?_
      refine zw_if0 hm_170 dX12_kind_18 (t := 32) rfl zc0_ne (fun _ => ?_) (fun hc => absurd (by decide) hc)
      refine zw_push hm_170 dX12_kind_32 (v := .inl (1 : Int32)) rfl ?_
      refine zw_goto hm_170 dX12_kind_33 (t := 50) rfl ?_
      refine zw_cv hm_170 dX12_kind_50 v_12_110_12 hm_167 [.inl (1 : Int32)] [] rfl (zO_rt hS s_94 rfl) ⟨by omega, by omega⟩ rfl ?_
      show ma_wp X (d - 1) (w - 21) 167 0 [(0, .inr (.inr (some 94))), (1, .inl (1 : Int32))] [] S _
      refine zw_push hm_167 dX12_fails_0 (v := .inr (.inr (some 94))) rfl ?_
      refine zw_push hm_167 dX12_fails_1 (v := .inl (1 : Int32)) rfl ?_
      refine zw_pf hm_167 dX12_fails_2 (zO_is hS s_94) (zO_t hS s_94) p_12_1_12 zk_int ?_
      refine zw_push hm_167 dX12_fails_5 (v := .inl (1 : Int32)) rfl ?_
      refine zw_if0 hm_167 dX12_fails_6 (t := 13) rfl zc0_eq (fun hc => absurd hc (by decide)) (fun _ => ?_)
      refine zw_push hm_167 dX12_fails_9 (v := .inl (1 : Int32)) rfl ?_
      refine zw_goto hm_167 dX12_fails_10 (t := 14) rfl ?_
      refine zw_bret hm_167 dX12_fails_14 (by decide) ?_
      show ma_wp X d w 170 53 [(3, .inl (1 : Int32)), (0, .inr (.inr (some 94))), (1, .inl a1), (2, .inl a2)] [.inl (1 : Int32)] (ma_put S 94 0 (.inl (1 : Int32))) Q
      refine zw_if0 hm_170 dX12_kind_53 (t := 58) rfl zc0_eq (fun hc => absurd hc (by decide)) (fun _ => ?_)
      refine zw_push hm_170 dX12_kind_56 (v := .inl (0 : Int32)) rfl ?_
      exact zw_iret hm_170 dX12_kind_57 h
theorem g_141_0 {X : Nat × (Nat → Int32)} {d w : Nat} {S : ma_S} {Q : Option ma_V ⊕ Nat → ma_S → Prop} (a1 : Int32) (a2 : Int32) (hd : 8 ≤ d) (hw : 210 ≤ w) (hS : zO S) (h : if a1 < 0 then (Q (.inr 2) (ma_bump S)) else (if (mI S 64 7) ≤ a1 then (Q (.inr 2) (ma_bump S)) else (if a2 < 0 then (Q (.inr 2) (ma_bump S)) else (if (16 : Int32) ≤ a2 then (Q (.inr 2) (ma_bump S)) else ((0 ≤ a1 ∧ a1.toNatClampNeg < 16) ∧ ((0 ≤ a1 ∧ a1.toNatClampNeg < 16) ∧ (ma_wp X (d - 1) (w - 28) 143 0 [(0, .inr (.inr (some 64))), (1, .inl a1), (2, .inl (mI S 67 a1.toNatClampNeg)), (3, .inr (.inl ((mI S 68 a1.toNatClampNeg).toInt64))), (5, .inl a2)] [] S (zi (fun v2 S1 => zO S1 ∧ (Q (.inl (some (.inl v2))) S1)) (fun x S9 => Q (.inr x) S9))))))))) : ma_wp X d w 141 0 [(0, .inr (.inr (some 64))), (1, .inl a1), (2, .inl a2)] [] S Q := by
  refine zw_push hm_141 dX11_make_0 (v := .inl a1) rfl ?_
  refine zw_if0 hm_141 dX11_make_1 (t := 19) rfl zc0_lt ?_ ?_
  · intro hc
    rw [if_pos hc] at h
    exact zw_thr hm_141 dX11_make_19 dX11_make_22 dX11_make_23 dX11_make_26 x_11_79_81 n_11_79 (by omega) (by show 0 + 81 ≤ w; omega) h
  · intro hc
    rw [if_neg hc] at h
    refine zw_push hm_141 dX11_make_4 (v := .inl a1) rfl ?_
    refine zw_push hm_141 dX11_make_5 (v := .inr (.inr (some 64))) rfl ?_
    refine zw_gf hm_141 dX11_make_6 (v := .inl (mI S 64 7)) (zO_is hS s_64) (zO_t hS s_64) rfl f_11_82_11 rfl ?_
    refine zw_if2 hm_141 dX11_make_9 (t := 19) rfl zc2_ge ?_ ?_
    · intro hc
      rw [if_pos hc] at h
      exact zw_thr hm_141 dX11_make_19 dX11_make_22 dX11_make_23 dX11_make_26 x_11_79_81 n_11_79 (by omega) (by show 0 + 81 ≤ w; omega) h
    · intro hc
      rw [if_neg hc] at h
      refine zw_push hm_141 dX11_make_12 (v := .inl a2) rfl ?_
      refine zw_cs hm_141 dX11_make_13 pn_11_109 sl_11_109 hm_142 [.inl a2] [] rfl ⟨by omega, by omega⟩ rfl ?_
      show ma_wp X (d - 1) (w - 20) 142 0 [(0, .inl a2)] [] S _
      refine zw_push hm_142 dX11_isSlot_0 (v := .inl a2) rfl ?_
      refine zw_if0 hm_142 dX11_isSlot_1 (t := 14) rfl zc0_lt ?_ ?_
      · intro hc
        rw [if_pos hc] at h
        refine zw_push hm_142 dX11_isSlot_14 (v := .inl (0 : Int32)) rfl ?_
        refine zw_bret hm_142 dX11_isSlot_15 (by decide) ?_
        show ma_wp X d w 141 16 [(0, .inr (.inr (some 64))), (1, .inl a1), (2, .inl a2)] [.inl (0 : Int32)] S Q
        refine zw_if0 hm_141 dX11_make_16 (t := 27) rfl zc0_ne (fun hc => absurd hc (by decide)) (fun _ => ?_)
        exact zw_thr hm_141 dX11_make_19 dX11_make_22 dX11_make_23 dX11_make_26 x_11_79_81 n_11_79 (by omega) (by show 0 + 81 ≤ w; omega) h
      · intro hc
        rw [if_neg hc] at h
        refine zw_push hm_142 dX11_isSlot_4 (v := .inl a2) rfl ?_
        refine zw_push hm_142 dX11_isSlot_5 (v := .inl (16 : Int32)) rfl ?_
        refine zw_if2 hm_142 dX11_isSlot_7 (t := 14) rfl zc2_ge ?_ ?_
        · intro hc
          rw [if_pos hc] at h
          refine zw_push hm_142 dX11_isSlot_14 (v := .inl (0 : Int32)) rfl ?_
          refine zw_bret hm_142 dX11_isSlot_15 (by decide) ?_
          show ma_wp X d w 141 16 [(0, .inr (.inr (some 64))), (1, .inl a1), (2, .inl a2)] [.inl (0 : Int32)] S Q
          refine zw_if0 hm_141 dX11_make_16 (t := 27) rfl zc0_ne (fun hc => absurd hc (by decide)) (fun _ => ?_)
          exact zw_thr hm_141 dX11_make_19 dX11_make_22 dX11_make_23 dX11_make_26 x_11_79_81 n_11_79 (by omega) (by show 0 + 81 ≤ w; omega) h
        · intro hc
          rw [if_neg hc] at h
          refine zw_push hm_142 dX11_isSlot_10 (v := .inl (1 : Int32)) rfl ?_
          refine zw_goto hm_142 dX11_isSlot_11 (t := 15) rfl ?_
          refine zw_bret hm_142 dX11_isSlot_15 (by decide) ?_
          show ma_wp X d w 141 16 [(0, .inr (.inr (some 64))), (1, .inl a1), (2, .inl a2)] [.inl (1 : Int32)] S Q
          refine zw_if0 hm_141 dX11_make_16 (t := 27) rfl zc0_ne (fun _ => ?_) (fun hc => absurd (by decide) hc)
          refine zw_push hm_141 dX11_make_27 (v := .inr (.inr (some 64))) rfl ?_
          refine zw_push hm_141 dX11_make_28 (v := .inl a1) rfl ?_
          refine zw_push hm_141 dX11_make_29 (v := .inr (.inr (some 64))) rfl ?_
          refine zw_gf hm_141 dX11_make_30 (v := .inr (.inr (some 67))) (zO_is hS s_64) (zO_t hS s_64) rfl f_11_17_11 (zO_f hS r_64_5) ?_
          refine zw_push hm_141 dX11_make_33 (v := .inl a1) rfl ?_
          obtain ⟨hg, h⟩ := h
          refine zw_ia hm_141 dX11_make_34 (zO_is hS s_67) (zO_h hS s_67) rfl hg ?_
          show ma_wp X d w 141 35 [(0, .inr (.inr (some 64))), (1, .inl a1), (2, .inl a2)] [.inl (mI S 67 a1.toNatClampNeg), .inl a1, .inr (.inr (some 64))] S _
          refine zw_push hm_141 dX11_make_35 (v := .inr (.inr (some 64))) rfl ?_
          refine zw_gf hm_141 dX11_make_36 (v := .inr (.inr (some 68))) (zO_is hS s_64) (zO_t hS s_64) rfl f_11_20_11 (zO_f hS r_64_6) ?_
          refine zw_push hm_141 dX11_make_39 (v := .inl a1) rfl ?_
          obtain ⟨hg, h⟩ := h
          refine zw_ia hm_141 dX11_make_40 (zO_is hS s_68) (zO_h hS s_68) rfl hg ?_
          show ma_wp X d w 141 41 [(0, .inr (.inr (some 64))), (1, .inl a1), (2, .inl a2)] [.inl (mI S 68 a1.toNatClampNeg), .inl (mI S 67 a1.toNatClampNeg), .inl a1, .inr (.inr (some 64))] S _
          refine zw_stk hm_141 dX11_make_41 (st' := [.inr (.inl ((mI S 68 a1.toNatClampNeg).toInt64)), .inl (mI S 67 a1.toNatClampNeg), .inl a1, .inr (.inr (some 64))]) rfl rfl ?_
          refine zw_push hm_141 dX11_make_42 (v := .inl a2) rfl ?_
          refine zw_cv hm_141 dX11_make_43 v_11_113_11 hm_143 [.inl a2, .inr (.inl ((mI S 68 a1.toNatClampNeg).toInt64)), .inl (mI S 67 a1.toNatClampNeg), .inl a1] [] rfl (zO_rt hS s_64 rfl) ⟨by omega, by omega⟩ rfl (zw_mono h (zi_go ?_ ?_))
          · intro v2 S1 hv
            obtain ⟨hS1, h⟩ := hv
            exact zw_iret hm_141 dX11_make_46 h
          · intro x S9 hx
            exact ⟨by decide, hx⟩
theorem g_181_0 {X : Nat × (Nat → Int32)} {d w : Nat} {S : ma_S} {Q : Option ma_V ⊕ Nat → ma_S → Prop} (a1 : Int32) (a2 : Int32) (hd : 10 ≤ d) (hw : 224 ≤ w) (hS : zO S) (h : if a1 < 0 then (Q (.inl (some (.inl (0 : Int32)))) (ma_put S 94 0 (.inl (1 : Int32)))) else (if (mI S 94 7) ≤ a1 then (Q (.inl (some (.inl (0 : Int32)))) (ma_put S 94 0 (.inl (1 : Int32)))) else (if a2 < 0 then (Q (.inl (some (.inl (0 : Int32)))) (ma_put S 94 0 (.inl (1 : Int32)))) else (if (16 : Int32) ≤ a2 then (Q (.inl (some (.inl (0 : Int32)))) (ma_put S 94 0 (.inl (1 : Int32)))) else (if (mI S 94 8) = 0 then (Q (.inl (some (.inl (0 : Int32)))) (ma_put S 94 0 (.inl (2 : Int32)))) else ((0 ≤ a1 ∧ a1.toNatClampNeg < 16) ∧ (ma_wp X d w 181 54 [] [.inl a2, .inl (mI S 97 a1.toNatClampNeg), .inl a1, .inr (.inr (some 94))] (ma_put S 94 0 (.inl (0 : Int32))) Q))))))) : ma_wp X d w 181 0 [(0, .inr (.inr (some 94))), (1, .inl a1), (2, .inl a2)] [] S Q := by
  refine zw_push hm_181 dX12_make_0 (v := .inr (.inr (some 94))) rfl ?_
  refine zw_push hm_181 dX12_make_1 (v := .inl a1) rfl ?_
  refine zw_if0 hm_181 dX12_make_2 (t := 21) rfl zc0_lt ?_ ?_
  · intro hc
    rw [if_pos hc] at h
    refine zw_push hm_181 dX12_make_21 (v := .inl (1 : Int32)) rfl ?_
    refine zw_goto hm_181 dX12_make_22 (t := 37) rfl ?_
    refine zw_cv hm_181 dX12_make_37 v_12_110_12 hm_167 [.inl (1 : Int32)] [] rfl (zO_rt hS s_94 rfl) ⟨by omega, by omega⟩ rfl ?_
    show ma_wp X (d - 1) (w - 21) 167 0 [(0, .inr (.inr (some 94))), (1, .inl (1 : Int32))] [] S _
    refine zw_push hm_167 dX12_fails_0 (v := .inr (.inr (some 94))) rfl ?_
    refine zw_push hm_167 dX12_fails_1 (v := .inl (1 : Int32)) rfl ?_
    refine zw_pf hm_167 dX12_fails_2 (zO_is hS s_94) (zO_t hS s_94) p_12_1_12 zk_int ?_
    refine zw_push hm_167 dX12_fails_5 (v := .inl (1 : Int32)) rfl ?_
    refine zw_if0 hm_167 dX12_fails_6 (t := 13) rfl zc0_eq (fun hc => absurd hc (by decide)) (fun _ => ?_)
    refine zw_push hm_167 dX12_fails_9 (v := .inl (1 : Int32)) rfl ?_
    refine zw_goto hm_167 dX12_fails_10 (t := 14) rfl ?_
    refine zw_bret hm_167 dX12_fails_14 (by decide) ?_
    show ma_wp X d w 181 40 [(0, .inr (.inr (some 94))), (1, .inl a1), (2, .inl a2)] [.inl (1 : Int32)] (ma_put S 94 0 (.inl (1 : Int32))) Q
    refine zw_if0 hm_181 dX12_make_40 (t := 45) rfl zc0_eq (fun hc => absurd hc (by decide)) (fun _ => ?_)
    refine zw_push hm_181 dX12_make_43 (v := .inl (0 : Int32)) rfl ?_
    exact zw_iret hm_181 dX12_make_44 h
  · intro hc
    rw [if_neg hc] at h
    refine zw_push hm_181 dX12_make_5 (v := .inl a1) rfl ?_
    refine zw_push hm_181 dX12_make_6 (v := .inr (.inr (some 94))) rfl ?_
    refine zw_gf hm_181 dX12_make_7 (v := .inl (mI S 94 7)) (zO_is hS s_94) (zO_t hS s_94) rfl f_12_118_12 rfl ?_
    refine zw_if2 hm_181 dX12_make_10 (t := 21) rfl zc2_ge ?_ ?_
    · intro hc
      rw [if_pos hc] at h
      refine zw_push hm_181 dX12_make_21 (v := .inl (1 : Int32)) rfl ?_
      refine zw_goto hm_181 dX12_make_22 (t := 37) rfl ?_
      refine zw_cv hm_181 dX12_make_37 v_12_110_12 hm_167 [.inl (1 : Int32)] [] rfl (zO_rt hS s_94 rfl) ⟨by omega, by omega⟩ rfl ?_
      show ma_wp X (d - 1) (w - 21) 167 0 [(0, .inr (.inr (some 94))), (1, .inl (1 : Int32))] [] S _
      refine zw_push hm_167 dX12_fails_0 (v := .inr (.inr (some 94))) rfl ?_
      refine zw_push hm_167 dX12_fails_1 (v := .inl (1 : Int32)) rfl ?_
      refine zw_pf hm_167 dX12_fails_2 (zO_is hS s_94) (zO_t hS s_94) p_12_1_12 zk_int ?_
      refine zw_push hm_167 dX12_fails_5 (v := .inl (1 : Int32)) rfl ?_
      refine zw_if0 hm_167 dX12_fails_6 (t := 13) rfl zc0_eq (fun hc => absurd hc (by decide)) (fun _ => ?_)
      refine zw_push hm_167 dX12_fails_9 (v := .inl (1 : Int32)) rfl ?_
      refine zw_goto hm_167 dX12_fails_10 (t := 14) rfl ?_
      refine zw_bret hm_167 dX12_fails_14 (by decide) ?_
      show ma_wp X d w 181 40 [(0, .inr (.inr (some 94))), (1, .inl a1), (2, .inl a2)] [.inl (1 : Int32)] (ma_put S 94 0 (.inl (1 : Int32))) Q
      refine zw_if0 hm_181 dX12_make_40 (t := 45) rfl zc0_eq (fun hc => absurd hc (by decide)) (fun _ => ?_)
      refine zw_push hm_181 dX12_make_43 (v := .inl (0 : Int32)) rfl ?_
      exact zw_iret hm_181 dX12_make_44 h
    · intro hc
      rw [if_neg hc] at h
      refine zw_push hm_181 dX12_make_13 (v := .inr (.inr (some 94))) rfl ?_
      refine zw_push hm_181 dX12_make_14 (v := .inl a2) rfl ?_
      refine zw_cv hm_181 dX12_make_15 v_12_493_12 hm_182 [.inl a2] [.inr (.inr (some 94))] rfl (zO_rt hS s_94 rfl) ⟨by omega, by omega⟩ rfl ?_
      show ma_wp X (d - 1) (w - 21) 182 0 [(0, .inr (.inr (some 94))), (1, .inl a2)] [] S _
      refine zw_push hm_182 dX12_isNamed_0 (v := .inl a2) rfl ?_
      refine zw_if0 hm_182 dX12_isNamed_1 (t := 14) rfl zc0_lt ?_ ?_
      · intro hc
        rw [if_pos hc] at h
        refine zw_push hm_182 dX12_isNamed_14 (v := .inl (0 : Int32)) rfl ?_
        refine zw_bret hm_182 dX12_isNamed_15 (by decide) ?_
        show ma_wp X d w 181 18 [(0, .inr (.inr (some 94))), (1, .inl a1), (2, .inl a2)] [.inl (0 : Int32), .inr (.inr (some 94))] S Q
        refine zw_if0 hm_181 dX12_make_18 (t := 25) rfl zc0_ne (fun hc => absurd hc (by decide)) (fun _ => ?_)
        refine zw_push hm_181 dX12_make_21 (v := .inl (1 : Int32)) rfl ?_
        refine zw_goto hm_181 dX12_make_22 (t := 37) rfl ?_
        refine zw_cv hm_181 dX12_make_37 v_12_110_12 hm_167 [.inl (1 : Int32)] [] rfl (zO_rt hS s_94 rfl) ⟨by omega, by omega⟩ rfl ?_
        show ma_wp X (d - 1) (w - 21) 167 0 [(0, .inr (.inr (some 94))), (1, .inl (1 : Int32))] [] S _
        refine zw_push hm_167 dX12_fails_0 (v := .inr (.inr (some 94))) rfl ?_
        refine zw_push hm_167 dX12_fails_1 (v := .inl (1 : Int32)) rfl ?_
        refine zw_pf hm_167 dX12_fails_2 (zO_is hS s_94) (zO_t hS s_94) p_12_1_12 zk_int ?_
        refine zw_push hm_167 dX12_fails_5 (v := .inl (1 : Int32)) rfl ?_
        refine zw_if0 hm_167 dX12_fails_6 (t := 13) rfl zc0_eq (fun hc => absurd hc (by decide)) (fun _ => ?_)
        refine zw_push hm_167 dX12_fails_9 (v := .inl (1 : Int32)) rfl ?_
        refine zw_goto hm_167 dX12_fails_10 (t := 14) rfl ?_
        refine zw_bret hm_167 dX12_fails_14 (by decide) ?_
        show ma_wp X d w 181 40 [(0, .inr (.inr (some 94))), (1, .inl a1), (2, .inl a2)] [.inl (1 : Int32)] (ma_put S 94 0 (.inl (1 : Int32))) Q
        refine zw_if0 hm_181 dX12_make_40 (t := 45) rfl zc0_eq (fun hc => absurd hc (by decide)) (fun _ => ?_)
        refine zw_push hm_181 dX12_make_43 (v := .inl (0 : Int32)) rfl ?_
        exact zw_iret hm_181 dX12_make_44 h
      · intro hc
        rw [if_neg hc] at h
        refine zw_push hm_182 dX12_isNamed_4 (v := .inl a2) rfl ?_
        refine zw_push hm_182 dX12_isNamed_5 (v := .inl (16 : Int32)) rfl ?_
        refine zw_if2 hm_182 dX12_isNamed_7 (t := 14) rfl zc2_ge ?_ ?_
        · intro hc
          rw [if_pos hc] at h
          refine zw_push hm_182 dX12_isNamed_14 (v := .inl (0 : Int32)) rfl ?_
          refine zw_bret hm_182 dX12_isNamed_15 (by decide) ?_
          show ma_wp X d w 181 18 [(0, .inr (.inr (some 94))), (1, .inl a1), (2, .inl a2)] [.inl (0 : Int32), .inr (.inr (some 94))] S Q
          refine zw_if0 hm_181 dX12_make_18 (t := 25) rfl zc0_ne (fun hc => absurd hc (by decide)) (fun _ => ?_)
          refine zw_push hm_181 dX12_make_21 (v := .inl (1 : Int32)) rfl ?_
          refine zw_goto hm_181 dX12_make_22 (t := 37) rfl ?_
          refine zw_cv hm_181 dX12_make_37 v_12_110_12 hm_167 [.inl (1 : Int32)] [] rfl (zO_rt hS s_94 rfl) ⟨by omega, by omega⟩ rfl ?_
          show ma_wp X (d - 1) (w - 21) 167 0 [(0, .inr (.inr (some 94))), (1, .inl (1 : Int32))] [] S _
          refine zw_push hm_167 dX12_fails_0 (v := .inr (.inr (some 94))) rfl ?_
          refine zw_push hm_167 dX12_fails_1 (v := .inl (1 : Int32)) rfl ?_
          refine zw_pf hm_167 dX12_fails_2 (zO_is hS s_94) (zO_t hS s_94) p_12_1_12 zk_int ?_
          refine zw_push hm_167 dX12_fails_5 (v := .inl (1 : Int32)) rfl ?_
          refine zw_if0 hm_167 dX12_fails_6 (t := 13) rfl zc0_eq (fun hc => absurd hc (by decide)) (fun _ => ?_)
          refine zw_push hm_167 dX12_fails_9 (v := .inl (1 : Int32)) rfl ?_
          refine zw_goto hm_167 dX12_fails_10 (t := 14) rfl ?_
          refine zw_bret hm_167 dX12_fails_14 (by decide) ?_
          show ma_wp X d w 181 40 [(0, .inr (.inr (some 94))), (1, .inl a1), (2, .inl a2)] [.inl (1 : Int32)] (ma_put S 94 0 (.inl (1 : Int32))) Q
          refine zw_if0 hm_181 dX12_make_40 (t := 45) rfl zc0_eq (fun hc => absurd hc (by decide)) (fun _ => ?_)
          refine zw_push hm_181 dX12_make_43 (v := .inl (0 : Int32)) rfl ?_
          exact zw_iret hm_181 dX12_make_44 h
        · intro hc
          rw [if_neg hc] at h
          refine zw_push hm_182 dX12_isNamed_10 (v := .inl (1 : Int32)) rfl ?_
          refine zw_goto hm_182 dX12_isNamed_11 (t := 15) rfl ?_
          refine zw_bret hm_182 dX12_isNamed_15 (by decide) ?_
          show ma_wp X d w 181 18 [(0, .inr (.inr (some 94))), (1, .inl a1), (2, .inl a2)] [.inl (1 : Int32), .inr (.inr (some 94))] S Q
          refine zw_if0 hm_181 dX12_make_18 (t := 25) rfl zc0_ne (fun _ => ?_) (fun hc => absurd (by decide) hc)
          refine zw_push hm_181 dX12_make_25 (v := .inr (.inr (some 94))) rfl ?_
          refine zw_gf hm_181 dX12_make_26 (v := .inl (mI S 94 8)) (zO_is hS s_94) (zO_t hS s_94) rfl f_12_237_12 rfl ?_
          refine zw_if0 hm_181 dX12_make_29 (t := 36) rfl zc0_ne ?_ ?_
          · intro hc
            rw [if_neg hc] at h
            refine zw_push hm_181 dX12_make_36 (v := .inl (0 : Int32)) rfl ?_
            refine zw_cv hm_181 dX12_make_37 v_12_110_12 hm_167 [.inl (0 : Int32)] [] rfl (zO_rt hS s_94 rfl) ⟨by omega, by omega⟩ rfl ?_
            show ma_wp X (d - 1) (w - 21) 167 0 [(0, .inr (.inr (some 94))), (1, .inl (0 : Int32))] [] S _
            refine zw_push hm_167 dX12_fails_0 (v := .inr (.inr (some 94))) rfl ?_
            refine zw_push hm_167 dX12_fails_1 (v := .inl (0 : Int32)) rfl ?_
            refine zw_pf hm_167 dX12_fails_2 (zO_is hS s_94) (zO_t hS s_94) p_12_1_12 zk_int ?_
            refine zw_push hm_167 dX12_fails_5 (v := .inl (0 : Int32)) rfl ?_
            refine zw_if0 hm_167 dX12_fails_6 (t := 13) rfl zc0_eq (fun _ => ?_) (fun hc => absurd (by decide) hc)
            refine zw_push hm_167 dX12_fails_13 (v := .inl (0 : Int32)) rfl ?_
            refine zw_bret hm_167 dX12_fails_14 (by decide) ?_
            show ma_wp X d w 181 40 [(0, .inr (.inr (some 94))), (1, .inl a1), (2, .inl a2)] [.inl (0 : Int32)] (ma_put S 94 0 (.inl (0 : Int32))) Q
            refine zw_if0 hm_181 dX12_make_40 (t := 45) rfl zc0_eq (fun _ => ?_) (fun hc => absurd (by decide) hc)
            refine zw_push hm_181 dX12_make_45 (v := .inr (.inr (some 94))) rfl ?_
            refine zw_push hm_181 dX12_make_46 (v := .inl a1) rfl ?_
            refine zw_push hm_181 dX12_make_47 (v := .inr (.inr (some 94))) rfl ?_
            refine zw_gf hm_181 dX12_make_48 (v := .inr (.inr (some 97))) (zO_is (zO_pi hS) s_94) (zO_t (zO_pi hS) s_94) rfl f_12_20_12 (zO_f (zO_pi hS) r_94_5) ?_
            refine zw_push hm_181 dX12_make_51 (v := .inl a1) rfl ?_
            obtain ⟨hg, h⟩ := h
            refine zw_ia hm_181 dX12_make_52 (zO_is (zO_pi hS) s_97) (zO_h (zO_pi hS) s_97) rfl hg ?_
            show ma_wp X d w 181 53 [(0, .inr (.inr (some 94))), (1, .inl a1), (2, .inl a2)] [.inl (mI S 97 a1.toNatClampNeg), .inl a1, .inr (.inr (some 94))] (ma_put S 94 0 (.inl (0 : Int32))) _
            refine zw_push hm_181 dX12_make_53 (v := .inl a2) rfl ?_
            exact zw_sub (ma_nd_of (ks := []) rfl (by decide)) (ma_nd_of (ks := [0, 1, 2]) rfl (by decide)) (ma_le_nil _) h
          · intro hc
            rw [if_pos (Classical.not_not.mp hc)] at h
            refine zw_push hm_181 dX12_make_32 (v := .inl (2 : Int32)) rfl ?_
            refine zw_goto hm_181 dX12_make_33 (t := 37) rfl ?_
            refine zw_cv hm_181 dX12_make_37 v_12_110_12 hm_167 [.inl (2 : Int32)] [] rfl (zO_rt hS s_94 rfl) ⟨by omega, by omega⟩ rfl ?_
            show ma_wp X (d - 1) (w - 21) 167 0 [(0, .inr (.inr (some 94))), (1, .inl (2 : Int32))] [] S _
            refine zw_push hm_167 dX12_fails_0 (v := .inr (.inr (some 94))) rfl ?_
            refine zw_push hm_167 dX12_fails_1 (v := .inl (2 : Int32)) rfl ?_
            refine zw_pf hm_167 dX12_fails_2 (zO_is hS s_94) (zO_t hS s_94) p_12_1_12 zk_int ?_
            refine zw_push hm_167 dX12_fails_5 (v := .inl (2 : Int32)) rfl ?_
            refine zw_if0 hm_167 dX12_fails_6 (t := 13) rfl zc0_eq (fun hc => absurd hc (by decide)) (fun _ => ?_)
            refine zw_push hm_167 dX12_fails_9 (v := .inl (1 : Int32)) rfl ?_
            refine zw_goto hm_167 dX12_fails_10 (t := 14) rfl ?_
            refine zw_bret hm_167 dX12_fails_14 (by decide) ?_
            show ma_wp X d w 181 40 [(0, .inr (.inr (some 94))), (1, .inl a1), (2, .inl a2)] [.inl (1 : Int32)] (ma_put S 94 0 (.inl (2 : Int32))) Q
            refine zw_if0 hm_181 dX12_make_40 (t := 45) rfl zc0_eq (fun hc => absurd hc (by decide)) (fun _ => ?_)
            refine zw_push hm_181 dX12_make_43 (v := .inl (0 : Int32)) rfl ?_
            exact zw_iret hm_181 dX12_make_44 h
theorem g_147_0 {X : Nat × (Nat → Int32)} {d w : Nat} {S : ma_S} {Q : Option ma_V ⊕ Nat → ma_S → Prop} (a1 : Int32) (a2 : Int32) (a3 : Int32) (hd : 8 ≤ d) (hw : 210 ≤ w) (hS : zO S) (h : if a2 < 0 then (Q (.inr 2) (ma_bump S)) else (if (60 : Int32) < a2 then (Q (.inr 2) (ma_bump S)) else (if a3 < 0 then (Q (.inr 2) (ma_bump S)) else (if (16 : Int32) ≤ a3 then (Q (.inr 2) (ma_bump S)) else (if a1 = 0 then (ma_wp X (d - 1) (w - 28) 143 0 [(0, .inr (.inr (some 64))), (1, .inl (17 : Int32)), (2, .inl a2), (3, .inr (.inl (0 : Int64))), (5, .inl a3)] [] S (zi (fun v2 S1 => zO S1 ∧ (Q (.inl (some (.inl v2))) S1)) (fun x S9 => Q (.inr x) S9))) else (ma_wp X (d - 1) (w - 28) 143 0 [(0, .inr (.inr (some 64))), (1, .inl (16 : Int32)), (2, .inl a2), (3, .inr (.inl (-1 : Int64))), (5, .inl a3)] [] S (zi (fun v4 S3 => zO S3 ∧ (Q (.inl (some (.inl v4))) S3)) (fun x S9 => Q (.inr x) S9)))))))) : ma_wp X d w 147 0 [(0, .inr (.inr (some 64))), (1, .inl a1), (2, .inl a2), (3, .inl a3)] [] S Q := by
  refine zw_push hm_147 dX11_row_0 (v := .inl a2) rfl ?_
  refine zw_if0 hm_147 dX11_row_1 (t := 17) rfl zc0_lt ?_ ?_
  · intro hc
    rw [if_pos hc] at h
    exact zw_thr hm_147 dX11_row_17 dX11_row_20 dX11_row_21 dX11_row_24 x_11_79_81 n_11_79 (by omega) (by show 0 + 81 ≤ w; omega) h
  · intro hc
    rw [if_neg hc] at h
    refine zw_push hm_147 dX11_row_4 (v := .inl a2) rfl ?_
    refine zw_push hm_147 dX11_row_5 (v := .inl (60 : Int32)) rfl ?_
    refine zw_if2 hm_147 dX11_row_7 (t := 17) rfl zc2_gt ?_ ?_
    · intro hc
      rw [if_pos hc] at h
      exact zw_thr hm_147 dX11_row_17 dX11_row_20 dX11_row_21 dX11_row_24 x_11_79_81 n_11_79 (by omega) (by show 0 + 81 ≤ w; omega) h
    · intro hc
      rw [if_neg hc] at h
      refine zw_push hm_147 dX11_row_10 (v := .inl a3) rfl ?_
      refine zw_cs hm_147 dX11_row_11 pn_11_109 sl_11_109 hm_142 [.inl a3] [] rfl ⟨by omega, by omega⟩ rfl ?_
      show ma_wp X (d - 1) (w - 20) 142 0 [(0, .inl a3)] [] S _
      refine zw_push hm_142 dX11_isSlot_0 (v := .inl a3) rfl ?_
      refine zw_if0 hm_142 dX11_isSlot_1 (t := 14) rfl zc0_lt ?_ ?_
      · intro hc
        rw [if_pos hc] at h
        refine zw_push hm_142 dX11_isSlot_14 (v := .inl (0 : Int32)) rfl ?_
        refine zw_bret hm_142 dX11_isSlot_15 (by decide) ?_
        show ma_wp X d w 147 14 [(0, .inr (.inr (some 64))), (1, .inl a1), (2, .inl a2), (3, .inl a3)] [.inl (0 : Int32)] S Q
        refine zw_if0 hm_147 dX11_row_14 (t := 25) rfl zc0_ne (fun hc => absurd hc (by decide)) (fun _ => ?_)
        exact zw_thr hm_147 dX11_row_17 dX11_row_20 dX11_row_21 dX11_row_24 x_11_79_81 n_11_79 (by omega) (by show 0 + 81 ≤ w; omega) h
      · intro hc
        rw [if_neg hc] at h
        refine zw_push hm_142 dX11_isSlot_4 (v := .inl a3) rfl ?_
        refine zw_push hm_142 dX11_isSlot_5 (v := .inl (16 : Int32)) rfl ?_
        refine zw_if2 hm_142 dX11_isSlot_7 (t := 14) rfl zc2_ge ?_ ?_
        · intro hc
          rw [if_pos hc] at h
          refine zw_push hm_142 dX11_isSlot_14 (v := .inl (0 : Int32)) rfl ?_
          refine zw_bret hm_142 dX11_isSlot_15 (by decide) ?_
          show ma_wp X d w 147 14 [(0, .inr (.inr (some 64))), (1, .inl a1), (2, .inl a2), (3, .inl a3)] [.inl (0 : Int32)] S Q
          refine zw_if0 hm_147 dX11_row_14 (t := 25) rfl zc0_ne (fun hc => absurd hc (by decide)) (fun _ => ?_)
          exact zw_thr hm_147 dX11_row_17 dX11_row_20 dX11_row_21 dX11_row_24 x_11_79_81 n_11_79 (by omega) (by show 0 + 81 ≤ w; omega) h
        · intro hc
          rw [if_neg hc] at h
          refine zw_push hm_142 dX11_isSlot_10 (v := .inl (1 : Int32)) rfl ?_
          refine zw_goto hm_142 dX11_isSlot_11 (t := 15) rfl ?_
          refine zw_bret hm_142 dX11_isSlot_15 (by decide) ?_
          show ma_wp X d w 147 14 [(0, .inr (.inr (some 64))), (1, .inl a1), (2, .inl a2), (3, .inl a3)] [.inl (1 : Int32)] S Q
          refine zw_if0 hm_147 dX11_row_14 (t := 25) rfl zc0_ne (fun _ => ?_) (fun hc => absurd (by decide) hc)
          refine zw_push hm_147 dX11_row_25 (v := .inl a1) rfl ?_
          refine zw_if0 hm_147 dX11_row_26 (t := 43) rfl zc0_eq ?_ ?_
          · intro hc
            rw [if_pos hc] at h
            refine zw_push hm_147 dX11_row_43 (v := .inr (.inr (some 64))) rfl ?_
            refine zw_push hm_147 dX11_row_44 (v := .inl (17 : Int32)) rfl ?_
            refine zw_push hm_147 dX11_row_46 (v := .inl a2) rfl ?_
            refine zw_push hm_147 dX11_row_47 (v := .inr (.inl (0 : Int64))) rfl ?_
            refine zw_push hm_147 dX11_row_48 (v := .inl a3) rfl ?_
            refine zw_cv hm_147 dX11_row_49 v_11_113_11 hm_143 [.inl a3, .inr (.inl (0 : Int64)), .inl a2, .inl (17 : Int32)] [] rfl (zO_rt hS s_64 rfl) ⟨by omega, by omega⟩ rfl (zw_mono h (zi_go ?_ ?_))
            · intro v2 S1 hv
              obtain ⟨hS1, h⟩ := hv
              exact zw_iret hm_147 dX11_row_52 h
            · intro x S9 hx
              exact ⟨by decide, hx⟩
          · intro hc
            rw [if_neg hc] at h
            refine zw_push hm_147 dX11_row_29 (v := .inr (.inr (some 64))) rfl ?_
            refine zw_push hm_147 dX11_row_30 (v := .inl (16 : Int32)) rfl ?_
            refine zw_push hm_147 dX11_row_32 (v := .inl a2) rfl ?_
            refine zw_l2 hm_147 dX11_row_33 l2_11_117 ?_
            refine zw_push hm_147 dX11_row_36 (v := .inl a3) rfl ?_
            refine zw_cv hm_147 dX11_row_37 v_11_113_11 hm_143 [.inl a3, .inr (.inl (-1 : Int64)), .inl a2, .inl (16 : Int32)] [] rfl (zO_rt hS s_64 rfl) ⟨by omega, by omega⟩ rfl (zw_mono h (zi_go ?_ ?_))
            · intro v4 S3 hv
              obtain ⟨hS3, h⟩ := hv
              refine zw_goto hm_147 dX11_row_40 (t := 52) rfl ?_
              exact zw_iret hm_147 dX11_row_52 h
            · intro x S9 hx
              exact ⟨by decide, hx⟩
theorem g_243_0 {X : Nat × (Nat → Int32)} {d w : Nat} {S : ma_S} {Q : Option ma_V ⊕ Nat → ma_S → Prop} (a1 : Int32) (a2 : Int32) (a3 : Int32) (hd : 10 ≤ d) (hw : 224 ≤ w) (hS : zO S) (h : if a2 < 0 then (Q (.inl (some (.inl (0 : Int32)))) (ma_put S 94 0 (.inl (1 : Int32)))) else (if (60 : Int32) < a2 then (Q (.inl (some (.inl (0 : Int32)))) (ma_put S 94 0 (.inl (1 : Int32)))) else (if a3 < 0 then (Q (.inl (some (.inl (0 : Int32)))) (ma_put S 94 0 (.inl (1 : Int32)))) else (if (16 : Int32) ≤ a3 then (Q (.inl (some (.inl (0 : Int32)))) (ma_put S 94 0 (.inl (1 : Int32)))) else (if (mI S 94 8) = 0 then (Q (.inl (some (.inl (0 : Int32)))) (ma_put S 94 0 (.inl (2 : Int32)))) else (if a1 = 0 then (ma_wp X d w 243 57 [] [.inl a3, .inl a2, .inl (17 : Int32), .inr (.inr (some 94))] (ma_put S 94 0 (.inl (0 : Int32))) Q) else (ma_wp X d w 243 57 [] [.inl a3, .inl a2, .inl (16 : Int32), .inr (.inr (some 94))] (ma_put S 94 0 (.inl (0 : Int32))) Q))))))) : ma_wp X d w 243 0 [(0, .inr (.inr (some 94))), (1, .inl a1), (2, .inl a2), (3, .inl a3)] [] S Q := by
  refine zw_push hm_243 dX12_row_0 (v := .inr (.inr (some 94))) rfl ?_
  refine zw_push hm_243 dX12_row_1 (v := .inl a2) rfl ?_
  refine zw_if0 hm_243 dX12_row_2 (t := 19) rfl zc0_lt ?_ ?_
  · intro hc
    rw [if_pos hc] at h
    refine zw_push hm_243 dX12_row_19 (v := .inl (1 : Int32)) rfl ?_
    refine zw_goto hm_243 dX12_row_20 (t := 35) rfl ?_
    refine zw_cv hm_243 dX12_row_35 v_12_110_12 hm_167 [.inl (1 : Int32)] [] rfl (zO_rt hS s_94 rfl) ⟨by omega, by omega⟩ rfl ?_
    show ma_wp X (d - 1) (w - 21) 167 0 [(0, .inr (.inr (some 94))), (1, .inl (1 : Int32))] [] S _
    refine zw_push hm_167 dX12_fails_0 (v := .inr (.inr (some 94))) rfl ?_
    refine zw_push hm_167 dX12_fails_1 (v := .inl (1 : Int32)) rfl ?_
    refine zw_pf hm_167 dX12_fails_2 (zO_is hS s_94) (zO_t hS s_94) p_12_1_12 zk_int ?_
    refine zw_push hm_167 dX12_fails_5 (v := .inl (1 : Int32)) rfl ?_
    refine zw_if0 hm_167 dX12_fails_6 (t := 13) rfl zc0_eq (fun hc => absurd hc (by decide)) (fun _ => ?_)
    refine zw_push hm_167 dX12_fails_9 (v := .inl (1 : Int32)) rfl ?_
    refine zw_goto hm_167 dX12_fails_10 (t := 14) rfl ?_
    refine zw_bret hm_167 dX12_fails_14 (by decide) ?_
    show ma_wp X d w 243 38 [(0, .inr (.inr (some 94))), (1, .inl a1), (2, .inl a2), (3, .inl a3)] [.inl (1 : Int32)] (ma_put S 94 0 (.inl (1 : Int32))) Q
    refine zw_if0 hm_243 dX12_row_38 (t := 43) rfl zc0_eq (fun hc => absurd hc (by decide)) (fun _ => ?_)
    refine zw_push hm_243 dX12_row_41 (v := .inl (0 : Int32)) rfl ?_
    exact zw_iret hm_243 dX12_row_42 h
  · intro hc
    rw [if_neg hc] at h
    refine zw_push hm_243 dX12_row_5 (v := .inl a2) rfl ?_
    refine zw_push hm_243 dX12_row_6 (v := .inl (60 : Int32)) rfl ?_
    refine zw_if2 hm_243 dX12_row_8 (t := 19) rfl zc2_gt ?_ ?_
    · intro hc
      rw [if_pos hc] at h
      refine zw_push hm_243 dX12_row_19 (v := .inl (1 : Int32)) rfl ?_
      refine zw_goto hm_243 dX12_row_20 (t := 35) rfl ?_
      refine zw_cv hm_243 dX12_row_35 v_12_110_12 hm_167 [.inl (1 : Int32)] [] rfl (zO_rt hS s_94 rfl) ⟨by omega, by omega⟩ rfl ?_
      show ma_wp X (d - 1) (w - 21) 167 0 [(0, .inr (.inr (some 94))), (1, .inl (1 : Int32))] [] S _
      refine zw_push hm_167 dX12_fails_0 (v := .inr (.inr (some 94))) rfl ?_
      refine zw_push hm_167 dX12_fails_1 (v := .inl (1 : Int32)) rfl ?_
      refine zw_pf hm_167 dX12_fails_2 (zO_is hS s_94) (zO_t hS s_94) p_12_1_12 zk_int ?_
      refine zw_push hm_167 dX12_fails_5 (v := .inl (1 : Int32)) rfl ?_
      refine zw_if0 hm_167 dX12_fails_6 (t := 13) rfl zc0_eq (fun hc => absurd hc (by decide)) (fun _ => ?_)
      refine zw_push hm_167 dX12_fails_9 (v := .inl (1 : Int32)) rfl ?_
      refine zw_goto hm_167 dX12_fails_10 (t := 14) rfl ?_
      refine zw_bret hm_167 dX12_fails_14 (by decide) ?_
      show ma_wp X d w 243 38 [(0, .inr (.inr (some 94))), (1, .inl a1), (2, .inl a2), (3, .inl a3)] [.inl (1 : Int32)] (ma_put S 94 0 (.inl (1 : Int32))) Q
      refine zw_if0 hm_243 dX12_row_38 (t := 43) rfl zc0_eq (fun hc => absurd hc (by decide)) (fun _ => ?_)
      refine zw_push hm_243 dX12_row_41 (v := .inl (0 : Int32)) rfl ?_
      exact zw_iret hm_243 dX12_row_42 h
    · intro hc
      rw [if_neg hc] at h
      refine zw_push hm_243 dX12_row_11 (v := .inr (.inr (some 94))) rfl ?_
      refine zw_push hm_243 dX12_row_12 (v := .inl a3) rfl ?_
      refine zw_cv hm_243 dX12_row_13 v_12_493_12 hm_182 [.inl a3] [.inr (.inr (some 94))] rfl (zO_rt hS s_94 rfl) ⟨by omega, by omega⟩ rfl ?_
      show ma_wp X (d - 1) (w - 21) 182 0 [(0, .inr (.inr (some 94))), (1, .inl a3)] [] S _
      refine zw_push hm_182 dX12_isNamed_0 (v := .inl a3) rfl ?_
      refine zw_if0 hm_182 dX12_isNamed_1 (t := 14) rfl zc0_lt ?_ ?_
      · intro hc
        rw [if_pos hc] at h
        refine zw_push hm_182 dX12_isNamed_14 (v := .inl (0 : Int32)) rfl ?_
        refine zw_bret hm_182 dX12_isNamed_15 (by decide) ?_
        show ma_wp X d w 243 16 [(0, .inr (.inr (some 94))), (1, .inl a1), (2, .inl a2), (3, .inl a3)] [.inl (0 : Int32), .inr (.inr (some 94))] S Q
        refine zw_if0 hm_243 dX12_row_16 (t := 23) rfl zc0_ne (fun hc => absurd hc (by decide)) (fun _ => ?_)
        refine zw_push hm_243 dX12_row_19 (v := .inl (1 : Int32)) rfl ?_
        refine zw_goto hm_243 dX12_row_20 (t := 35) rfl ?_
        refine zw_cv hm_243 dX12_row_35 v_12_110_12 hm_167 [.inl (1 : Int32)] [] rfl (zO_rt hS s_94 rfl) ⟨by omega, by omega⟩ rfl ?_
        show ma_wp X (d - 1) (w - 21) 167 0 [(0, .inr (.inr (some 94))), (1, .inl (1 : Int32))] [] S _
        refine zw_push hm_167 dX12_fails_0 (v := .inr (.inr (some 94))) rfl ?_
        refine zw_push hm_167 dX12_fails_1 (v := .inl (1 : Int32)) rfl ?_
        refine zw_pf hm_167 dX12_fails_2 (zO_is hS s_94) (zO_t hS s_94) p_12_1_12 zk_int ?_
        refine zw_push hm_167 dX12_fails_5 (v := .inl (1 : Int32)) rfl ?_
        refine zw_if0 hm_167 dX12_fails_6 (t := 13) rfl zc0_eq (fun hc => absurd hc (by decide)) (fun _ => ?_)
        refine zw_push hm_167 dX12_fails_9 (v := .inl (1 : Int32)) rfl ?_
        refine zw_goto hm_167 dX12_fails_10 (t := 14) rfl ?_
        refine zw_bret hm_167 dX12_fails_14 (by decide) ?_
        show ma_wp X d w 243 38 [(0, .inr (.inr (some 94))), (1, .inl a1), (2, .inl a2), (3, .inl a3)] [.inl (1 : Int32)] (ma_put S 94 0 (.inl (1 : Int32))) Q
        refine zw_if0 hm_243 dX12_row_38 (t := 43) rfl zc0_eq (fun hc => absurd hc (by decide)) (fun _ => ?_)
        refine zw_push hm_243 dX12_row_41 (v := .inl (0 : Int32)) rfl ?_
        exact zw_iret hm_243 dX12_row_42 h
      · intro hc
        rw [if_neg hc] at h
        refine zw_push hm_182 dX12_isNamed_4 (v := .inl a3) rfl ?_
        refine zw_push hm_182 dX12_isNamed_5 (v := .inl (16 : Int32)) rfl ?_
        refine zw_if2 hm_182 dX12_isNamed_7 (t := 14) rfl zc2_ge ?_ ?_
        · intro hc
          rw [if_pos hc] at h
          refine zw_push hm_182 dX12_isNamed_14 (v := .inl (0 : Int32)) rfl ?_
          refine zw_bret hm_182 dX12_isNamed_15 (by decide) ?_
          show ma_wp X d w 243 16 [(0, .inr (.inr (some 94))), (1, .inl a1), (2, .inl a2), (3, .inl a3)] [.inl (0 : Int32), .inr (.inr (some 94))] S Q
          refine zw_if0 hm_243 dX12_row_16 (t := 23) rfl zc0_ne (fun hc => absurd hc (by decide)) (fun _ => ?_)
          refine zw_push hm_243 dX12_row_19 (v := .inl (1 : Int32)) rfl ?_
          refine zw_goto hm_243 dX12_row_20 (t := 35) rfl ?_
          refine zw_cv hm_243 dX12_row_35 v_12_110_12 hm_167 [.inl (1 : Int32)] [] rfl (zO_rt hS s_94 rfl) ⟨by omega, by omega⟩ rfl ?_
          show ma_wp X (d - 1) (w - 21) 167 0 [(0, .inr (.inr (some 94))), (1, .inl (1 : Int32))] [] S _
          refine zw_push hm_167 dX12_fails_0 (v := .inr (.inr (some 94))) rfl ?_
          refine zw_push hm_167 dX12_fails_1 (v := .inl (1 : Int32)) rfl ?_
          refine zw_pf hm_167 dX12_fails_2 (zO_is hS s_94) (zO_t hS s_94) p_12_1_12 zk_int ?_
          refine zw_push hm_167 dX12_fails_5 (v := .inl (1 : Int32)) rfl ?_
          refine zw_if0 hm_167 dX12_fails_6 (t := 13) rfl zc0_eq (fun hc => absurd hc (by decide)) (fun _ => ?_)
          refine zw_push hm_167 dX12_fails_9 (v := .inl (1 : Int32)) rfl ?_
          refine zw_goto hm_167 dX12_fails_10 (t := 14) rfl ?_
          refine zw_bret hm_167 dX12_fails_14 (by decide) ?_
          show ma_wp X d w 243 38 [(0, .inr (.inr (some 94))), (1, .inl a1), (2, .inl a2), (3, .inl a3)] [.inl (1 : Int32)] (ma_put S 94 0 (.inl (1 : Int32))) Q
          refine zw_if0 hm_243 dX12_row_38 (t := 43) rfl zc0_eq (fun hc => absurd hc (by decide)) (fun _ => ?_)
          refine zw_push hm_243 dX12_row_41 (v := .inl (0 : Int32)) rfl ?_
          exact zw_iret hm_243 dX12_row_42 h
        · intro hc
          rw [if_neg hc] at h
          refine zw_push hm_182 dX12_isNamed_10 (v := .inl (1 : Int32)) rfl ?_
          refine zw_goto hm_182 dX12_isNamed_11 (t := 15) rfl ?_
          refine zw_bret hm_182 dX12_isNamed_15 (by decide) ?_
          show ma_wp X d w 243 16 [(0, .inr (.inr (some 94))), (1, .inl a1), (2, .inl a2), (3, .inl a3)] [.inl (1 : Int32), .inr (.inr (some 94))] S Q
          refine zw_if0 hm_243 dX12_row_16 (t := 23) rfl zc0_ne (fun _ => ?_) (fun hc => absurd (by decide) hc)
          refine zw_push hm_243 dX12_row_23 (v := .inr (.inr (some 94))) rfl ?_
          refine zw_gf hm_243 dX12_row_24 (v := .inl (mI S 94 8)) (zO_is hS s_94) (zO_t hS s_94) rfl f_12_237_12 rfl ?_
          refine zw_if0 hm_243 dX12_row_27 (t := 34) rfl zc0_ne ?_ ?_
          · intro hc
            rw [if_neg hc] at h
            refine zw_push hm_243 dX12_row_34 (v := .inl (0 : Int32)) rfl ?_
            refine zw_cv hm_243 dX12_row_35 v_12_110_12 hm_167 [.inl (0 : Int32)] [] rfl (zO_rt hS s_94 rfl) ⟨by omega, by omega⟩ rfl ?_
            show ma_wp X (d - 1) (w - 21) 167 0 [(0, .inr (.inr (some 94))), (1, .inl (0 : Int32))] [] S _
            refine zw_push hm_167 dX12_fails_0 (v := .inr (.inr (some 94))) rfl ?_
            refine zw_push hm_167 dX12_fails_1 (v := .inl (0 : Int32)) rfl ?_
            refine zw_pf hm_167 dX12_fails_2 (zO_is hS s_94) (zO_t hS s_94) p_12_1_12 zk_int ?_
            refine zw_push hm_167 dX12_fails_5 (v := .inl (0 : Int32)) rfl ?_
            refine zw_if0 hm_167 dX12_fails_6 (t := 13) rfl zc0_eq (fun _ => ?_) (fun hc => absurd (by decide) hc)
            refine zw_push hm_167 dX12_fails_13 (v := .inl (0 : Int32)) rfl ?_
            refine zw_bret hm_167 dX12_fails_14 (by decide) ?_
            show ma_wp X d w 243 38 [(0, .inr (.inr (some 94))), (1, .inl a1), (2, .inl a2), (3, .inl a3)] [.inl (0 : Int32)] (ma_put S 94 0 (.inl (0 : Int32))) Q
            refine zw_if0 hm_243 dX12_row_38 (t := 43) rfl zc0_eq (fun _ => ?_) (fun hc => absurd (by decide) hc)
            refine zw_push hm_243 dX12_row_43 (v := .inr (.inr (some 94))) rfl ?_
            refine zw_push hm_243 dX12_row_44 (v := .inl a1) rfl ?_
            refine zw_if0 hm_243 dX12_row_45 (t := 53) rfl zc0_eq ?_ ?_
            · intro hc
              rw [if_pos hc] at h
              refine zw_push hm_243 dX12_row_53 (v := .inl (17 : Int32)) rfl ?_
              refine zw_push hm_243 dX12_row_55 (v := .inl a2) rfl ?_
              refine zw_push hm_243 dX12_row_56 (v := .inl a3) rfl ?_
              exact zw_sub (ma_nd_of (ks := []) rfl (by decide)) (ma_nd_of (ks := [0, 1, 2, 3]) rfl (by decide)) (ma_le_nil _) h
            · intro hc
              rw [if_neg hc] at h
              refine zw_push hm_243 dX12_row_48 (v := .inl (16 : Int32)) rfl ?_
              refine zw_goto hm_243 dX12_row_50 (t := 55) rfl ?_
              refine zw_push hm_243 dX12_row_55 (v := .inl a2) rfl ?_
              refine zw_push hm_243 dX12_row_56 (v := .inl a3) rfl ?_
              exact zw_sub (ma_nd_of (ks := []) rfl (by decide)) (ma_nd_of (ks := [0, 1, 2, 3]) rfl (by decide)) (ma_le_nil _) h
          · intro hc
            rw [if_pos (Classical.not_not.mp hc)] at h
            refine zw_push hm_243 dX12_row_30 (v := .inl (2 : Int32)) rfl ?_
            refine zw_goto hm_243 dX12_row_31 (t := 35) rfl ?_
            refine zw_cv hm_243 dX12_row_35 v_12_110_12 hm_167 [.inl (2 : Int32)] [] rfl (zO_rt hS s_94 rfl) ⟨by omega, by omega⟩ rfl ?_
            show ma_wp X (d - 1) (w - 21) 167 0 [(0, .inr (.inr (some 94))), (1, .inl (2 : Int32))] [] S _
            refine zw_push hm_167 dX12_fails_0 (v := .inr (.inr (some 94))) rfl ?_
            refine zw_push hm_167 dX12_fails_1 (v := .inl (2 : Int32)) rfl ?_
            refine zw_pf hm_167 dX12_fails_2 (zO_is hS s_94) (zO_t hS s_94) p_12_1_12 zk_int ?_
            refine zw_push hm_167 dX12_fails_5 (v := .inl (2 : Int32)) rfl ?_
            refine zw_if0 hm_167 dX12_fails_6 (t := 13) rfl zc0_eq (fun hc => absurd hc (by decide)) (fun _ => ?_)
            refine zw_push hm_167 dX12_fails_9 (v := .inl (1 : Int32)) rfl ?_
            refine zw_goto hm_167 dX12_fails_10 (t := 14) rfl ?_
            refine zw_bret hm_167 dX12_fails_14 (by decide) ?_
            show ma_wp X d w 243 38 [(0, .inr (.inr (some 94))), (1, .inl a1), (2, .inl a2), (3, .inl a3)] [.inl (1 : Int32)] (ma_put S 94 0 (.inl (2 : Int32))) Q
            refine zw_if0 hm_243 dX12_row_38 (t := 43) rfl zc0_eq (fun hc => absurd hc (by decide)) (fun _ => ?_)
            refine zw_push hm_243 dX12_row_41 (v := .inl (0 : Int32)) rfl ?_
            exact zw_iret hm_243 dX12_row_42 h
theorem g_148_0 {X : Nat × (Nat → Int32)} {d w : Nat} {S : ma_S} {Q : Option ma_V ⊕ Nat → ma_S → Prop} (a1 : Int32) (a2 : Int32) (a3 : Int32) (hd : 7 ≤ d) (hw : 111 ≤ w) (hS : zO S) (h : ((mR S 64 11) = none → Q (.inr 3) (ma_bump S)) ∧ (∀ c1, (mR S 64 11) = some c1 → ma_wp X d w 148 7 [(0, .inr (.inr (some 64))), (2, .inl a2), (3, .inl a3)] [.inl a1, .inr (.inr (some 64))] S Q)) : ma_wp X d w 148 0 [(0, .inr (.inr (some 64))), (1, .inl a1), (2, .inl a2), (3, .inl a3)] [] S Q := by
  refine zw_push hm_148 dX11_put_0 (v := .inr (.inr (some 64))) rfl ?_
  refine zw_cv hm_148 dX11_put_1 v_11_119_11 hm_144 [] [] rfl (zO_rt hS s_64 rfl) ⟨by omega, by omega⟩ rfl ?_
  show ma_wp X (d - 1) (w - 20) 144 0 [(0, .inr (.inr (some 64)))] [] S _
  refine zw_push hm_144 dX11_needCollector_0 (v := .inr (.inr (some 64))) rfl ?_
  refine zw_gf hm_144 dX11_needCollector_1 (v := .inr (.inr (mR S 64 11))) (zO_is hS s_64) (zO_t hS s_64) rfl f_11_98_11 rfl ?_
  refine zw_ifnonnull hm_144 dX11_needCollector_4 (t := 15) rfl ?_ ?_
  · intro hc
    have h := h.1 hc
    exact zw_thr hm_144 dX11_needCollector_7 dX11_needCollector_10 dX11_needCollector_11 dX11_needCollector_14 x_11_85_87 n_11_85 (by omega) (by show 0 + 81 ≤ (w - 20); omega) ⟨by decide, h⟩
  · intro c1 hc
    have h := h.2 c1 hc
    refine zw_push hm_144 dX11_needCollector_15 (v := .inr (.inr (some 64))) rfl ?_
    refine zw_gf hm_144 dX11_needCollector_16 (v := .inr (.inr (mR S 64 11))) (zO_is hS s_64) (zO_t hS s_64) rfl f_11_98_11 rfl ?_
    refine zw_aret hm_144 dX11_needCollector_19 ?_
    show ma_wp X d w 148 4 [(0, .inr (.inr (some 64))), (1, .inl a1), (2, .inl a2), (3, .inl a3)] [.inr (.inr (mR S 64 11))] S Q
    refine zw_stk hm_148 dX11_put_4 (st' := []) rfl rfl ?_
    refine zw_push hm_148 dX11_put_5 (v := .inr (.inr (some 64))) rfl ?_
    refine zw_push hm_148 dX11_put_6 (v := .inl a1) rfl ?_
    exact zw_sub (ma_nd_of (ks := [0, 2, 3]) rfl (by decide)) (ma_nd_of (ks := [0, 1, 2, 3]) rfl (by decide)) (ma_le_cons rfl (ma_le_cons rfl (ma_le_cons rfl (ma_le_nil _)))) h
theorem g_244_0 {X : Nat × (Nat → Int32)} {d w : Nat} {S : ma_S} {Q : Option ma_V ⊕ Nat → ma_S → Prop} (a1 : Int32) (a2 : Int32) (a3 : Int32) (hd : 5 ≤ d) (hw : 109 ≤ w) (hS : zO S) (h : if (mI S 94 8) = 0 then (Q (.inl (some (.inl (0 : Int32)))) (ma_put S 94 0 (.inl (1 : Int32)))) else (ma_wp X d w 244 23 [(0, .inr (.inr (some 94))), (2, .inl a2), (3, .inl a3)] [.inl a1, .inr (.inr (some 94))] (ma_put S 94 0 (.inl (0 : Int32))) Q)) : ma_wp X d w 244 0 [(0, .inr (.inr (some 94))), (1, .inl a1), (2, .inl a2), (3, .inl a3)] [] S Q := by
  refine zw_push hm_244 dX12_put_0 (v := .inr (.inr (some 94))) rfl ?_
  refine zw_push hm_244 dX12_put_1 (v := .inr (.inr (some 94))) rfl ?_
  refine zw_gf hm_244 dX12_put_2 (v := .inl (mI S 94 8)) (zO_is hS s_94) (zO_t hS s_94) rfl f_12_237_12 rfl ?_
  refine zw_if0 hm_244 dX12_put_5 (t := 12) rfl zc0_ne ?_ ?_
  · intro hc
    rw [if_neg hc] at h
    refine zw_push hm_244 dX12_put_12 (v := .inl (0 : Int32)) rfl ?_
    refine zw_cv hm_244 dX12_put_13 v_12_110_12 hm_167 [.inl (0 : Int32)] [] rfl (zO_rt hS s_94 rfl) ⟨by omega, by omega⟩ rfl ?_
    show ma_wp X (d - 1) (w - 21) 167 0 [(0, .inr (.inr (some 94))), (1, .inl (0 : Int32))] [] S _
    refine zw_push hm_167 dX12_fails_0 (v := .inr (.inr (some 94))) rfl ?_
    refine zw_push hm_167 dX12_fails_1 (v := .inl (0 : Int32)) rfl ?_
    refine zw_pf hm_167 dX12_fails_2 (zO_is hS s_94) (zO_t hS s_94) p_12_1_12 zk_int ?_
    refine zw_push hm_167 dX12_fails_5 (v := .inl (0 : Int32)) rfl ?_
    refine zw_if0 hm_167 dX12_fails_6 (t := 13) rfl zc0_eq (fun _ => ?_) (fun hc => absurd (by decide) hc)
    refine zw_push hm_167 dX12_fails_13 (v := .inl (0 : Int32)) rfl ?_
    refine zw_bret hm_167 dX12_fails_14 (by decide) ?_
    show ma_wp X d w 244 16 [(0, .inr (.inr (some 94))), (1, .inl a1), (2, .inl a2), (3, .inl a3)] [.inl (0 : Int32)] (ma_put S 94 0 (.inl (0 : Int32))) Q
    refine zw_if0 hm_244 dX12_put_16 (t := 21) rfl zc0_eq (fun _ => ?_) (fun hc => absurd (by decide) hc)
    refine zw_push hm_244 dX12_put_21 (v := .inr (.inr (some 94))) rfl ?_
    refine zw_push hm_244 dX12_put_22 (v := .inl a1) rfl ?_
    exact zw_sub (ma_nd_of (ks := [0, 2, 3]) rfl (by decide)) (ma_nd_of (ks := [0, 1, 2, 3]) rfl (by decide)) (ma_le_cons rfl (ma_le_cons rfl (ma_le_cons rfl (ma_le_nil _)))) h
  · intro hc
    rw [if_pos (Classical.not_not.mp hc)] at h
    refine zw_push hm_244 dX12_put_8 (v := .inl (1 : Int32)) rfl ?_
    refine zw_goto hm_244 dX12_put_9 (t := 13) rfl ?_
    refine zw_cv hm_244 dX12_put_13 v_12_110_12 hm_167 [.inl (1 : Int32)] [] rfl (zO_rt hS s_94 rfl) ⟨by omega, by omega⟩ rfl ?_
    show ma_wp X (d - 1) (w - 21) 167 0 [(0, .inr (.inr (some 94))), (1, .inl (1 : Int32))] [] S _
    refine zw_push hm_167 dX12_fails_0 (v := .inr (.inr (some 94))) rfl ?_
    refine zw_push hm_167 dX12_fails_1 (v := .inl (1 : Int32)) rfl ?_
    refine zw_pf hm_167 dX12_fails_2 (zO_is hS s_94) (zO_t hS s_94) p_12_1_12 zk_int ?_
    refine zw_push hm_167 dX12_fails_5 (v := .inl (1 : Int32)) rfl ?_
    refine zw_if0 hm_167 dX12_fails_6 (t := 13) rfl zc0_eq (fun hc => absurd hc (by decide)) (fun _ => ?_)
    refine zw_push hm_167 dX12_fails_9 (v := .inl (1 : Int32)) rfl ?_
    refine zw_goto hm_167 dX12_fails_10 (t := 14) rfl ?_
    refine zw_bret hm_167 dX12_fails_14 (by decide) ?_
    show ma_wp X d w 244 16 [(0, .inr (.inr (some 94))), (1, .inl a1), (2, .inl a2), (3, .inl a3)] [.inl (1 : Int32)] (ma_put S 94 0 (.inl (1 : Int32))) Q
    refine zw_if0 hm_244 dX12_put_16 (t := 21) rfl zc0_eq (fun hc => absurd hc (by decide)) (fun _ => ?_)
    refine zw_push hm_244 dX12_put_19 (v := .inl (0 : Int32)) rfl ?_
    exact zw_iret hm_244 dX12_put_20 h
theorem g_150_0 {X : Nat × (Nat → Int32)} {d w : Nat} {S : ma_S} {Q : Option ma_V ⊕ Nat → ma_S → Prop} (a1 : Int32) (a2 : Int32) (a3 : Int32) (hd : 8 ≤ d) (hw : 132 ≤ w) (hS : zO S) (h : ((mR S 64 11) = none → Q (.inr 3) (ma_bump S)) ∧ (∀ c1, (mR S 64 11) = some c1 → ma_wp X d w 150 8 [(0, .inr (.inr (some 64))), (2, .inl a2), (3, .inl a3), (4, .inr (.inr (mR S 64 11)))] [.inl a1, .inr (.inr (some 64))] S Q)) : ma_wp X d w 150 0 [(0, .inr (.inr (some 64))), (1, .inl a1), (2, .inl a2), (3, .inl a3)] [] S Q := by
  refine zw_push hm_150 dX11_link_0 (v := .inr (.inr (some 64))) rfl ?_
  refine zw_cv hm_150 dX11_link_1 v_11_119_11 hm_144 [] [] rfl (zO_rt hS s_64 rfl) ⟨by omega, by omega⟩ rfl ?_
  show ma_wp X (d - 1) (w - 20) 144 0 [(0, .inr (.inr (some 64)))] [] S _
  refine zw_push hm_144 dX11_needCollector_0 (v := .inr (.inr (some 64))) rfl ?_
  refine zw_gf hm_144 dX11_needCollector_1 (v := .inr (.inr (mR S 64 11))) (zO_is hS s_64) (zO_t hS s_64) rfl f_11_98_11 rfl ?_
  refine zw_ifnonnull hm_144 dX11_needCollector_4 (t := 15) rfl ?_ ?_
  · intro hc
    have h := h.1 hc
    exact zw_thr hm_144 dX11_needCollector_7 dX11_needCollector_10 dX11_needCollector_11 dX11_needCollector_14 x_11_85_87 n_11_85 (by omega) (by show 0 + 81 ≤ (w - 20); omega) ⟨by decide, h⟩
  · intro c1 hc
    have h := h.2 c1 hc
    refine zw_push hm_144 dX11_needCollector_15 (v := .inr (.inr (some 64))) rfl ?_
    refine zw_gf hm_144 dX11_needCollector_16 (v := .inr (.inr (mR S 64 11))) (zO_is hS s_64) (zO_t hS s_64) rfl f_11_98_11 rfl ?_
    refine zw_aret hm_144 dX11_needCollector_19 ?_
    show ma_wp X d w 150 4 [(0, .inr (.inr (some 64))), (1, .inl a1), (2, .inl a2), (3, .inl a3)] [.inr (.inr (mR S 64 11))] S Q
    refine zw_sto hm_150 dX11_link_4 [(4, .inr (.inr (mR S 64 11))), (0, .inr (.inr (some 64))), (1, .inl a1), (2, .inl a2), (3, .inl a3)] rfl rfl rfl ?_
    refine zw_push hm_150 dX11_link_6 (v := .inr (.inr (some 64))) rfl ?_
    refine zw_push hm_150 dX11_link_7 (v := .inl a1) rfl ?_
    exact zw_sub (ma_nd_of (ks := [0, 2, 3, 4]) rfl (by decide)) (ma_nd_of (ks := [4, 0, 1, 2, 3]) rfl (by decide)) (ma_le_cons rfl (ma_le_cons rfl (ma_le_cons rfl (ma_le_cons rfl (ma_le_nil _))))) h
theorem g_247_0 {X : Nat × (Nat → Int32)} {d w : Nat} {S : ma_S} {Q : Option ma_V ⊕ Nat → ma_S → Prop} (a1 : Int32) (a2 : Int32) (a3 : Int32) (hd : 5 ≤ d) (hw : 109 ≤ w) (hS : zO S) (h : if (mI S 94 8) = 0 then (Q (.inl (some (.inl (0 : Int32)))) (ma_put S 94 0 (.inl (1 : Int32)))) else (ma_wp X d w 247 23 [(0, .inr (.inr (some 94))), (2, .inl a2), (3, .inl a3)] [.inl a1, .inr (.inr (some 94))] (ma_put S 94 0 (.inl (0 : Int32))) Q)) : ma_wp X d w 247 0 [(0, .inr (.inr (some 94))), (1, .inl a1), (2, .inl a2), (3, .inl a3)] [] S Q := by
  refine zw_push hm_247 dX12_link_0 (v := .inr (.inr (some 94))) rfl ?_
  refine zw_push hm_247 dX12_link_1 (v := .inr (.inr (some 94))) rfl ?_
  refine zw_gf hm_247 dX12_link_2 (v := .inl (mI S 94 8)) (zO_is hS s_94) (zO_t hS s_94) rfl f_12_237_12 rfl ?_
  refine zw_if0 hm_247 dX12_link_5 (t := 12) rfl zc0_ne ?_ ?_
  · intro hc
    rw [if_neg hc] at h
    refine zw_push hm_247 dX12_link_12 (v := .inl (0 : Int32)) rfl ?_
    refine zw_cv hm_247 dX12_link_13 v_12_110_12 hm_167 [.inl (0 : Int32)] [] rfl (zO_rt hS s_94 rfl) ⟨by omega, by omega⟩ rfl ?_
    show ma_wp X (d - 1) (w - 21) 167 0 [(0, .inr (.inr (some 94))), (1, .inl (0 : Int32))] [] S _
    refine zw_push hm_167 dX12_fails_0 (v := .inr (.inr (some 94))) rfl ?_
    refine zw_push hm_167 dX12_fails_1 (v := .inl (0 : Int32)) rfl ?_
    refine zw_pf hm_167 dX12_fails_2 (zO_is hS s_94) (zO_t hS s_94) p_12_1_12 zk_int ?_
    refine zw_push hm_167 dX12_fails_5 (v := .inl (0 : Int32)) rfl ?_
    refine zw_if0 hm_167 dX12_fails_6 (t := 13) rfl zc0_eq (fun _ => ?_) (fun hc => absurd (by decide) hc)
    refine zw_push hm_167 dX12_fails_13 (v := .inl (0 : Int32)) rfl ?_
    refine zw_bret hm_167 dX12_fails_14 (by decide) ?_
    show ma_wp X d w 247 16 [(0, .inr (.inr (some 94))), (1, .inl a1), (2, .inl a2), (3, .inl a3)] [.inl (0 : Int32)] (ma_put S 94 0 (.inl (0 : Int32))) Q
    refine zw_if0 hm_247 dX12_link_16 (t := 21) rfl zc0_eq (fun _ => ?_) (fun hc => absurd (by decide) hc)
    refine zw_push hm_247 dX12_link_21 (v := .inr (.inr (some 94))) rfl ?_
    refine zw_push hm_247 dX12_link_22 (v := .inl a1) rfl ?_
    exact zw_sub (ma_nd_of (ks := [0, 2, 3]) rfl (by decide)) (ma_nd_of (ks := [0, 1, 2, 3]) rfl (by decide)) (ma_le_cons rfl (ma_le_cons rfl (ma_le_cons rfl (ma_le_nil _)))) h
  · intro hc
    rw [if_pos (Classical.not_not.mp hc)] at h
    refine zw_push hm_247 dX12_link_8 (v := .inl (1 : Int32)) rfl ?_
    refine zw_goto hm_247 dX12_link_9 (t := 13) rfl ?_
    refine zw_cv hm_247 dX12_link_13 v_12_110_12 hm_167 [.inl (1 : Int32)] [] rfl (zO_rt hS s_94 rfl) ⟨by omega, by omega⟩ rfl ?_
    show ma_wp X (d - 1) (w - 21) 167 0 [(0, .inr (.inr (some 94))), (1, .inl (1 : Int32))] [] S _
    refine zw_push hm_167 dX12_fails_0 (v := .inr (.inr (some 94))) rfl ?_
    refine zw_push hm_167 dX12_fails_1 (v := .inl (1 : Int32)) rfl ?_
    refine zw_pf hm_167 dX12_fails_2 (zO_is hS s_94) (zO_t hS s_94) p_12_1_12 zk_int ?_
    refine zw_push hm_167 dX12_fails_5 (v := .inl (1 : Int32)) rfl ?_
    refine zw_if0 hm_167 dX12_fails_6 (t := 13) rfl zc0_eq (fun hc => absurd hc (by decide)) (fun _ => ?_)
    refine zw_push hm_167 dX12_fails_9 (v := .inl (1 : Int32)) rfl ?_
    refine zw_goto hm_167 dX12_fails_10 (t := 14) rfl ?_
    refine zw_bret hm_167 dX12_fails_14 (by decide) ?_
    show ma_wp X d w 247 16 [(0, .inr (.inr (some 94))), (1, .inl a1), (2, .inl a2), (3, .inl a3)] [.inl (1 : Int32)] (ma_put S 94 0 (.inl (1 : Int32))) Q
    refine zw_if0 hm_247 dX12_link_16 (t := 21) rfl zc0_eq (fun hc => absurd hc (by decide)) (fun _ => ?_)
    refine zw_push hm_247 dX12_link_19 (v := .inl (0 : Int32)) rfl ?_
    exact zw_iret hm_247 dX12_link_20 h
theorem g_152_0 {X : Nat × (Nat → Int32)} {d w : Nat} {S : ma_S} {Q : Option ma_V ⊕ Nat → ma_S → Prop} (a1 : Int32) (a2 : Int32) (hd : 7 ≤ d) (hw : 111 ≤ w) (hS : zO S) (h : ((mR S 64 11) = none → Q (.inr 3) (ma_bump S)) ∧ (∀ c1, (mR S 64 11) = some c1 → ma_wp X d w 152 7 [(0, .inr (.inr (some 64))), (2, .inl a2)] [.inl a1, .inr (.inr (some 64))] S Q)) : ma_wp X d w 152 0 [(0, .inr (.inr (some 64))), (1, .inl a1), (2, .inl a2)] [] S Q := by
  refine zw_push hm_152 dX11_get_0 (v := .inr (.inr (some 64))) rfl ?_
  refine zw_cv hm_152 dX11_get_1 v_11_119_11 hm_144 [] [] rfl (zO_rt hS s_64 rfl) ⟨by omega, by omega⟩ rfl ?_
  show ma_wp X (d - 1) (w - 20) 144 0 [(0, .inr (.inr (some 64)))] [] S _
  refine zw_push hm_144 dX11_needCollector_0 (v := .inr (.inr (some 64))) rfl ?_
  refine zw_gf hm_144 dX11_needCollector_1 (v := .inr (.inr (mR S 64 11))) (zO_is hS s_64) (zO_t hS s_64) rfl f_11_98_11 rfl ?_
  refine zw_ifnonnull hm_144 dX11_needCollector_4 (t := 15) rfl ?_ ?_
  · intro hc
    have h := h.1 hc
    exact zw_thr hm_144 dX11_needCollector_7 dX11_needCollector_10 dX11_needCollector_11 dX11_needCollector_14 x_11_85_87 n_11_85 (by omega) (by show 0 + 81 ≤ (w - 20); omega) ⟨by decide, h⟩
  · intro c1 hc
    have h := h.2 c1 hc
    refine zw_push hm_144 dX11_needCollector_15 (v := .inr (.inr (some 64))) rfl ?_
    refine zw_gf hm_144 dX11_needCollector_16 (v := .inr (.inr (mR S 64 11))) (zO_is hS s_64) (zO_t hS s_64) rfl f_11_98_11 rfl ?_
    refine zw_aret hm_144 dX11_needCollector_19 ?_
    show ma_wp X d w 152 4 [(0, .inr (.inr (some 64))), (1, .inl a1), (2, .inl a2)] [.inr (.inr (mR S 64 11))] S Q
    refine zw_stk hm_152 dX11_get_4 (st' := []) rfl rfl ?_
    refine zw_push hm_152 dX11_get_5 (v := .inr (.inr (some 64))) rfl ?_
    refine zw_push hm_152 dX11_get_6 (v := .inl a1) rfl ?_
    exact zw_sub (ma_nd_of (ks := [0, 2]) rfl (by decide)) (ma_nd_of (ks := [0, 1, 2]) rfl (by decide)) (ma_le_cons rfl (ma_le_cons rfl (ma_le_nil _))) h
theorem g_249_0 {X : Nat × (Nat → Int32)} {d w : Nat} {S : ma_S} {Q : Option ma_V ⊕ Nat → ma_S → Prop} (a1 : Int32) (a2 : Int32) (hd : 5 ≤ d) (hw : 109 ≤ w) (hS : zO S) (h : if (mI S 94 8) = 0 then (Q (.inl (some (.inl (0 : Int32)))) (ma_put S 94 0 (.inl (1 : Int32)))) else (ma_wp X d w 249 23 [(0, .inr (.inr (some 94))), (2, .inl a2)] [.inl a1, .inr (.inr (some 94))] (ma_put S 94 0 (.inl (0 : Int32))) Q)) : ma_wp X d w 249 0 [(0, .inr (.inr (some 94))), (1, .inl a1), (2, .inl a2)] [] S Q := by
  refine zw_push hm_249 dX12_get_0 (v := .inr (.inr (some 94))) rfl ?_
  refine zw_push hm_249 dX12_get_1 (v := .inr (.inr (some 94))) rfl ?_
  refine zw_gf hm_249 dX12_get_2 (v := .inl (mI S 94 8)) (zO_is hS s_94) (zO_t hS s_94) rfl f_12_237_12 rfl ?_
  refine zw_if0 hm_249 dX12_get_5 (t := 12) rfl zc0_ne ?_ ?_
  · intro hc
    rw [if_neg hc] at h
    refine zw_push hm_249 dX12_get_12 (v := .inl (0 : Int32)) rfl ?_
    refine zw_cv hm_249 dX12_get_13 v_12_110_12 hm_167 [.inl (0 : Int32)] [] rfl (zO_rt hS s_94 rfl) ⟨by omega, by omega⟩ rfl ?_
    show ma_wp X (d - 1) (w - 21) 167 0 [(0, .inr (.inr (some 94))), (1, .inl (0 : Int32))] [] S _
    refine zw_push hm_167 dX12_fails_0 (v := .inr (.inr (some 94))) rfl ?_
    refine zw_push hm_167 dX12_fails_1 (v := .inl (0 : Int32)) rfl ?_
    refine zw_pf hm_167 dX12_fails_2 (zO_is hS s_94) (zO_t hS s_94) p_12_1_12 zk_int ?_
    refine zw_push hm_167 dX12_fails_5 (v := .inl (0 : Int32)) rfl ?_
    refine zw_if0 hm_167 dX12_fails_6 (t := 13) rfl zc0_eq (fun _ => ?_) (fun hc => absurd (by decide) hc)
    refine zw_push hm_167 dX12_fails_13 (v := .inl (0 : Int32)) rfl ?_
    refine zw_bret hm_167 dX12_fails_14 (by decide) ?_
    show ma_wp X d w 249 16 [(0, .inr (.inr (some 94))), (1, .inl a1), (2, .inl a2)] [.inl (0 : Int32)] (ma_put S 94 0 (.inl (0 : Int32))) Q
    refine zw_if0 hm_249 dX12_get_16 (t := 21) rfl zc0_eq (fun _ => ?_) (fun hc => absurd (by decide) hc)
    refine zw_push hm_249 dX12_get_21 (v := .inr (.inr (some 94))) rfl ?_
    refine zw_push hm_249 dX12_get_22 (v := .inl a1) rfl ?_
    exact zw_sub (ma_nd_of (ks := [0, 2]) rfl (by decide)) (ma_nd_of (ks := [0, 1, 2]) rfl (by decide)) (ma_le_cons rfl (ma_le_cons rfl (ma_le_nil _))) h
  · intro hc
    rw [if_pos (Classical.not_not.mp hc)] at h
    refine zw_push hm_249 dX12_get_8 (v := .inl (1 : Int32)) rfl ?_
    refine zw_goto hm_249 dX12_get_9 (t := 13) rfl ?_
    refine zw_cv hm_249 dX12_get_13 v_12_110_12 hm_167 [.inl (1 : Int32)] [] rfl (zO_rt hS s_94 rfl) ⟨by omega, by omega⟩ rfl ?_
    show ma_wp X (d - 1) (w - 21) 167 0 [(0, .inr (.inr (some 94))), (1, .inl (1 : Int32))] [] S _
    refine zw_push hm_167 dX12_fails_0 (v := .inr (.inr (some 94))) rfl ?_
    refine zw_push hm_167 dX12_fails_1 (v := .inl (1 : Int32)) rfl ?_
    refine zw_pf hm_167 dX12_fails_2 (zO_is hS s_94) (zO_t hS s_94) p_12_1_12 zk_int ?_
    refine zw_push hm_167 dX12_fails_5 (v := .inl (1 : Int32)) rfl ?_
    refine zw_if0 hm_167 dX12_fails_6 (t := 13) rfl zc0_eq (fun hc => absurd hc (by decide)) (fun _ => ?_)
    refine zw_push hm_167 dX12_fails_9 (v := .inl (1 : Int32)) rfl ?_
    refine zw_goto hm_167 dX12_fails_10 (t := 14) rfl ?_
    refine zw_bret hm_167 dX12_fails_14 (by decide) ?_
    show ma_wp X d w 249 16 [(0, .inr (.inr (some 94))), (1, .inl a1), (2, .inl a2)] [.inl (1 : Int32)] (ma_put S 94 0 (.inl (1 : Int32))) Q
    refine zw_if0 hm_249 dX12_get_16 (t := 21) rfl zc0_eq (fun hc => absurd hc (by decide)) (fun _ => ?_)
    refine zw_push hm_249 dX12_get_19 (v := .inl (0 : Int32)) rfl ?_
    exact zw_iret hm_249 dX12_get_20 h
theorem g_153_0 {X : Nat × (Nat → Int32)} {d w : Nat} {S : ma_S} {Q : Option ma_V ⊕ Nat → ma_S → Prop} (a1 : Int32) (a2 : Int32) (hd : 8 ≤ d) (hw : 134 ≤ w) (hS : zO S) (h : if a1 < 0 then (Q (.inr 2) (ma_bump S)) else (if (16 : Int32) ≤ a1 then (Q (.inr 2) (ma_bump S)) else (((mR S 64 11) = none → Q (.inr 3) (ma_bump S)) ∧ (∀ c1, (mR S 64 11) = some c1 → ma_wp X d w 153 22 [(0, .inr (.inr (some 64))), (1, .inl a1), (3, .inr (.inr (mR S 64 11)))] [.inl a2, .inr (.inr (some 64))] S Q)))) : ma_wp X d w 153 0 [(0, .inr (.inr (some 64))), (1, .inl a1), (2, .inl a2)] [] S Q := by
  refine zw_push hm_153 dX11_root_0 (v := .inl a1) rfl ?_
  refine zw_cs hm_153 dX11_root_1 pn_11_109 sl_11_109 hm_142 [.inl a1] [] rfl ⟨by omega, by omega⟩ rfl ?_
  show ma_wp X (d - 1) (w - 20) 142 0 [(0, .inl a1)] [] S _
  refine zw_push hm_142 dX11_isSlot_0 (v := .inl a1) rfl ?_
  refine zw_if0 hm_142 dX11_isSlot_1 (t := 14) rfl zc0_lt ?_ ?_
  · intro hc
    rw [if_pos hc] at h
    refine zw_push hm_142 dX11_isSlot_14 (v := .inl (0 : Int32)) rfl ?_
    refine zw_bret hm_142 dX11_isSlot_15 (by decide) ?_
    show ma_wp X d w 153 4 [(0, .inr (.inr (some 64))), (1, .inl a1), (2, .inl a2)] [.inl (0 : Int32)] S Q
    refine zw_if0 hm_153 dX11_root_4 (t := 15) rfl zc0_ne (fun hc => absurd hc (by decide)) (fun _ => ?_)
    exact zw_thr hm_153 dX11_root_7 dX11_root_10 dX11_root_11 dX11_root_14 x_11_79_81 n_11_79 (by omega) (by show 0 + 81 ≤ w; omega) h
  · intro hc
    rw [if_neg hc] at h
    refine zw_push hm_142 dX11_isSlot_4 (v := .inl a1) rfl ?_
    refine zw_push hm_142 dX11_isSlot_5 (v := .inl (16 : Int32)) rfl ?_
    refine zw_if2 hm_142 dX11_isSlot_7 (t := 14) rfl zc2_ge ?_ ?_
    · intro hc
      rw [if_pos hc] at h
      refine zw_push hm_142 dX11_isSlot_14 (v := .inl (0 : Int32)) rfl ?_
      refine zw_bret hm_142 dX11_isSlot_15 (by decide) ?_
      show ma_wp X d w 153 4 [(0, .inr (.inr (some 64))), (1, .inl a1), (2, .inl a2)] [.inl (0 : Int32)] S Q
      refine zw_if0 hm_153 dX11_root_4 (t := 15) rfl zc0_ne (fun hc => absurd hc (by decide)) (fun _ => ?_)
      exact zw_thr hm_153 dX11_root_7 dX11_root_10 dX11_root_11 dX11_root_14 x_11_79_81 n_11_79 (by omega) (by show 0 + 81 ≤ w; omega) h
    · intro hc
      rw [if_neg hc] at h
      refine zw_push hm_142 dX11_isSlot_10 (v := .inl (1 : Int32)) rfl ?_
      refine zw_goto hm_142 dX11_isSlot_11 (t := 15) rfl ?_
      refine zw_bret hm_142 dX11_isSlot_15 (by decide) ?_
      show ma_wp X d w 153 4 [(0, .inr (.inr (some 64))), (1, .inl a1), (2, .inl a2)] [.inl (1 : Int32)] S Q
      refine zw_if0 hm_153 dX11_root_4 (t := 15) rfl zc0_ne (fun _ => ?_) (fun hc => absurd (by decide) hc)
      refine zw_push hm_153 dX11_root_15 (v := .inr (.inr (some 64))) rfl ?_
      refine zw_cv hm_153 dX11_root_16 v_11_119_11 hm_144 [] [] rfl (zO_rt hS s_64 rfl) ⟨by omega, by omega⟩ rfl ?_
      show ma_wp X (d - 1) (w - 20) 144 0 [(0, .inr (.inr (some 64)))] [] S _
      refine zw_push hm_144 dX11_needCollector_0 (v := .inr (.inr (some 64))) rfl ?_
      refine zw_gf hm_144 dX11_needCollector_1 (v := .inr (.inr (mR S 64 11))) (zO_is hS s_64) (zO_t hS s_64) rfl f_11_98_11 rfl ?_
      refine zw_ifnonnull hm_144 dX11_needCollector_4 (t := 15) rfl ?_ ?_
      · intro hc
        have h := h.1 hc
        exact zw_thr hm_144 dX11_needCollector_7 dX11_needCollector_10 dX11_needCollector_11 dX11_needCollector_14 x_11_85_87 n_11_85 (by omega) (by show 0 + 81 ≤ (w - 20); omega) ⟨by decide, h⟩
      · intro c1 hc
        have h := h.2 c1 hc
        refine zw_push hm_144 dX11_needCollector_15 (v := .inr (.inr (some 64))) rfl ?_
        refine zw_gf hm_144 dX11_needCollector_16 (v := .inr (.inr (mR S 64 11))) (zO_is hS s_64) (zO_t hS s_64) rfl f_11_98_11 rfl ?_
        refine zw_aret hm_144 dX11_needCollector_19 ?_
        show ma_wp X d w 153 19 [(0, .inr (.inr (some 64))), (1, .inl a1), (2, .inl a2)] [.inr (.inr (mR S 64 11))] S Q
        refine zw_sto hm_153 dX11_root_19 [(3, .inr (.inr (mR S 64 11))), (0, .inr (.inr (some 64))), (1, .inl a1), (2, .inl a2)] rfl rfl rfl ?_
        refine zw_push hm_153 dX11_root_20 (v := .inr (.inr (some 64))) rfl ?_
        refine zw_push hm_153 dX11_root_21 (v := .inl a2) rfl ?_
        exact zw_sub (ma_nd_of (ks := [0, 1, 3]) rfl (by decide)) (ma_nd_of (ks := [3, 0, 1, 2]) rfl (by decide)) (ma_le_cons rfl (ma_le_cons rfl (ma_le_cons rfl (ma_le_nil _)))) h
theorem g_250_0 {X : Nat × (Nat → Int32)} {d w : Nat} {S : ma_S} {Q : Option ma_V ⊕ Nat → ma_S → Prop} (a1 : Int32) (a2 : Int32) (hd : 5 ≤ d) (hw : 111 ≤ w) (hS : zO S) (h : if a1 < 0 then (Q (.inl (some (.inl (0 : Int32)))) (ma_put S 94 0 (.inl (1 : Int32)))) else (if (16 : Int32) ≤ a1 then (Q (.inl (some (.inl (0 : Int32)))) (ma_put S 94 0 (.inl (1 : Int32)))) else (if (mI S 94 8) = 0 then (Q (.inl (some (.inl (0 : Int32)))) (ma_put S 94 0 (.inl (2 : Int32)))) else (if a2 = (-1 : Int32) then (if a2 = (-1 : Int32) then ((0 ≤ a1 ∧ a1.toNatClampNeg < 16) ∧ (ma_wp X d w 250 78 [(0, .inr (.inr (some 94))), (1, .inl a1), (3, .inl (-1 : Int32))] [.inl (mI S 112 a1.toNatClampNeg), .inr (.inr (some 94))] (ma_put (ma_put S 94 0 (.inl (0 : Int32))) 94 0 (.inl (0 : Int32))) Q)) else (Q (.inl (some (.inl (0 : Int32)))) (ma_put (ma_put S 94 0 (.inl (0 : Int32))) 94 0 (.inl (3 : Int32))))) else (ma_wp X d w 250 44 [(0, .inr (.inr (some 94))), (1, .inl a1), (2, .inl a2)] [.inl a2, .inr (.inr (some 94))] (ma_put S 94 0 (.inl (0 : Int32))) Q))))) : ma_wp X d w 250 0 [(0, .inr (.inr (some 94))), (1, .inl a1), (2, .inl a2)] [] S Q := by
  refine zw_push hm_250 dX12_root_0 (v := .inr (.inr (some 94))) rfl ?_
  refine zw_push hm_250 dX12_root_1 (v := .inr (.inr (some 94))) rfl ?_
  refine zw_push hm_250 dX12_root_2 (v := .inl a1) rfl ?_
  refine zw_cv hm_250 dX12_root_3 v_12_493_12 hm_182 [.inl a1] [.inr (.inr (some 94))] rfl (zO_rt hS s_94 rfl) ⟨by omega, by omega⟩ rfl ?_
  show ma_wp X (d - 1) (w - 21) 182 0 [(0, .inr (.inr (some 94))), (1, .inl a1)] [] S _
  refine zw_push hm_182 dX12_isNamed_0 (v := .inl a1) rfl ?_
  refine zw_if0 hm_182 dX12_isNamed_1 (t := 14) rfl zc0_lt ?_ ?_
  · intro hc
    rw [if_pos hc] at h
    refine zw_push hm_182 dX12_isNamed_14 (v := .inl (0 : Int32)) rfl ?_
    refine zw_bret hm_182 dX12_isNamed_15 (by decide) ?_
    show ma_wp X d w 250 6 [(0, .inr (.inr (some 94))), (1, .inl a1), (2, .inl a2)] [.inl (0 : Int32), .inr (.inr (some 94))] S Q
    refine zw_if0 hm_250 dX12_root_6 (t := 13) rfl zc0_ne (fun hc => absurd hc (by decide)) (fun _ => ?_)
    refine zw_push hm_250 dX12_root_9 (v := .inl (1 : Int32)) rfl ?_
    refine zw_goto hm_250 dX12_root_10 (t := 25) rfl ?_
    refine zw_cv hm_250 dX12_root_25 v_12_110_12 hm_167 [.inl (1 : Int32)] [] rfl (zO_rt hS s_94 rfl) ⟨by omega, by omega⟩ rfl ?_
    show ma_wp X (d - 1) (w - 21) 167 0 [(0, .inr (.inr (some 94))), (1, .inl (1 : Int32))] [] S _
    refine zw_push hm_167 dX12_fails_0 (v := .inr (.inr (some 94))) rfl ?_
    refine zw_push hm_167 dX12_fails_1 (v := .inl (1 : Int32)) rfl ?_
    refine zw_pf hm_167 dX12_fails_2 (zO_is hS s_94) (zO_t hS s_94) p_12_1_12 zk_int ?_
    refine zw_push hm_167 dX12_fails_5 (v := .inl (1 : Int32)) rfl ?_
    refine zw_if0 hm_167 dX12_fails_6 (t := 13) rfl zc0_eq (fun hc => absurd hc (by decide)) (fun _ => ?_)
    refine zw_push hm_167 dX12_fails_9 (v := .inl (1 : Int32)) rfl ?_
    refine zw_goto hm_167 dX12_fails_10 (t := 14) rfl ?_
    refine zw_bret hm_167 dX12_fails_14 (by decide) ?_
    show ma_wp X d w 250 28 [(0, .inr (.inr (some 94))), (1, .inl a1), (2, .inl a2)] [.inl (1 : Int32)] (ma_put S 94 0 (.inl (1 : Int32))) Q
    refine zw_if0 hm_250 dX12_root_28 (t := 33) rfl zc0_eq (fun hc => absurd hc (by decide)) (fun _ => ?_)
    refine zw_push hm_250 dX12_root_31 (v := .inl (0 : Int32)) rfl ?_
    exact zw_iret hm_250 dX12_root_32 h
  · intro hc
    rw [if_neg hc] at h
    refine zw_push hm_182 dX12_isNamed_4 (v := .inl a1) rfl ?_
    refine zw_push hm_182 dX12_isNamed_5 (v := .inl (16 : Int32)) rfl ?_
    refine zw_if2 hm_182 dX12_isNamed_7 (t := 14) rfl zc2_ge ?_ ?_
    · intro hc
      rw [if_pos hc] at h
      refine zw_push hm_182 dX12_isNamed_14 (v := .inl (0 : Int32)) rfl ?_
      refine zw_bret hm_182 dX12_isNamed_15 (by decide) ?_
      show ma_wp X d w 250 6 [(0, .inr (.inr (some 94))), (1, .inl a1), (2, .inl a2)] [.inl (0 : Int32), .inr (.inr (some 94))] S Q
      refine zw_if0 hm_250 dX12_root_6 (t := 13) rfl zc0_ne (fun hc => absurd hc (by decide)) (fun _ => ?_)
      refine zw_push hm_250 dX12_root_9 (v := .inl (1 : Int32)) rfl ?_
      refine zw_goto hm_250 dX12_root_10 (t := 25) rfl ?_
      refine zw_cv hm_250 dX12_root_25 v_12_110_12 hm_167 [.inl (1 : Int32)] [] rfl (zO_rt hS s_94 rfl) ⟨by omega, by omega⟩ rfl ?_
      show ma_wp X (d - 1) (w - 21) 167 0 [(0, .inr (.inr (some 94))), (1, .inl (1 : Int32))] [] S _
      refine zw_push hm_167 dX12_fails_0 (v := .inr (.inr (some 94))) rfl ?_
      refine zw_push hm_167 dX12_fails_1 (v := .inl (1 : Int32)) rfl ?_
      refine zw_pf hm_167 dX12_fails_2 (zO_is hS s_94) (zO_t hS s_94) p_12_1_12 zk_int ?_
      refine zw_push hm_167 dX12_fails_5 (v := .inl (1 : Int32)) rfl ?_
      refine zw_if0 hm_167 dX12_fails_6 (t := 13) rfl zc0_eq (fun hc => absurd hc (by decide)) (fun _ => ?_)
      refine zw_push hm_167 dX12_fails_9 (v := .inl (1 : Int32)) rfl ?_
      refine zw_goto hm_167 dX12_fails_10 (t := 14) rfl ?_
      refine zw_bret hm_167 dX12_fails_14 (by decide) ?_
      show ma_wp X d w 250 28 [(0, .inr (.inr (some 94))), (1, .inl a1), (2, .inl a2)] [.inl (1 : Int32)] (ma_put S 94 0 (.inl (1 : Int32))) Q
      refine zw_if0 hm_250 dX12_root_28 (t := 33) rfl zc0_eq (fun hc => absurd hc (by decide)) (fun _ => ?_)
      refine zw_push hm_250 dX12_root_31 (v := .inl (0 : Int32)) rfl ?_
      exact zw_iret hm_250 dX12_root_32 h
    · intro hc
      rw [if_neg hc] at h
      refine zw_push hm_182 dX12_isNamed_10 (v := .inl (1 : Int32)) rfl ?_
      refine zw_goto hm_182 dX12_isNamed_11 (t := 15) rfl ?_
      refine zw_bret hm_182 dX12_isNamed_15 (by decide) ?_
      show ma_wp X d w 250 6 [(0, .inr (.inr (some 94))), (1, .inl a1), (2, .inl a2)] [.inl (1 : Int32), .inr (.inr (some 94))] S Q
      refine zw_if0 hm_250 dX12_root_6 (t := 13) rfl zc0_ne (fun _ => ?_) (fun hc => absurd (by decide) hc)
      refine zw_push hm_250 dX12_root_13 (v := .inr (.inr (some 94))) rfl ?_
      refine zw_gf hm_250 dX12_root_14 (v := .inl (mI S 94 8)) (zO_is hS s_94) (zO_t hS s_94) rfl f_12_237_12 rfl ?_
      refine zw_if0 hm_250 dX12_root_17 (t := 24) rfl zc0_ne ?_ ?_
      · intro hc
        rw [if_neg hc] at h
        refine zw_push hm_250 dX12_root_24 (v := .inl (0 : Int32)) rfl ?_
        refine zw_cv hm_250 dX12_root_25 v_12_110_12 hm_167 [.inl (0 : Int32)] [] rfl (zO_rt hS s_94 rfl) ⟨by omega, by omega⟩ rfl ?_
        show ma_wp X (d - 1) (w - 21) 167 0 [(0, .inr (.inr (some 94))), (1, .inl (0 : Int32))] [] S _
        refine zw_push hm_167 dX12_fails_0 (v := .inr (.inr (some 94))) rfl ?_
        refine zw_push hm_167 dX12_fails_1 (v := .inl (0 : Int32)) rfl ?_
        refine zw_pf hm_167 dX12_fails_2 (zO_is hS s_94) (zO_t hS s_94) p_12_1_12 zk_int ?_
        refine zw_push hm_167 dX12_fails_5 (v := .inl (0 : Int32)) rfl ?_
        refine zw_if0 hm_167 dX12_fails_6 (t := 13) rfl zc0_eq (fun _ => ?_) (fun hc => absurd (by decide) hc)
        refine zw_push hm_167 dX12_fails_13 (v := .inl (0 : Int32)) rfl ?_
        refine zw_bret hm_167 dX12_fails_14 (by decide) ?_
        show ma_wp X d w 250 28 [(0, .inr (.inr (some 94))), (1, .inl a1), (2, .inl a2)] [.inl (0 : Int32)] (ma_put S 94 0 (.inl (0 : Int32))) Q
        refine zw_if0 hm_250 dX12_root_28 (t := 33) rfl zc0_eq (fun _ => ?_) (fun hc => absurd (by decide) hc)
        refine zw_push hm_250 dX12_root_33 (v := .inl a2) rfl ?_
        refine zw_push hm_250 dX12_root_34 (v := .inl (-1 : Int32)) rfl ?_
        refine zw_if2 hm_250 dX12_root_35 (t := 42) rfl zc2_ne ?_ ?_
        · intro hc
          rw [if_neg hc] at h
          refine zw_push hm_250 dX12_root_42 (v := .inr (.inr (some 94))) rfl ?_
          refine zw_push hm_250 dX12_root_43 (v := .inl a2) rfl ?_
          exact h
        · intro hc
          rw [if_pos (Classical.not_not.mp hc)] at h
          refine zw_push hm_250 dX12_root_38 (v := .inl (-1 : Int32)) rfl ?_
          refine zw_goto hm_250 dX12_root_39 (t := 47) rfl ?_
          refine zw_sto hm_250 dX12_root_47 [(3, .inl (-1 : Int32)), (0, .inr (.inr (some 94))), (1, .inl a1), (2, .inl a2)] rfl rfl rfl ?_
          refine zw_push hm_250 dX12_root_48 (v := .inr (.inr (some 94))) rfl ?_
          refine zw_push hm_250 dX12_root_49 (v := .inl a2) rfl ?_
          refine zw_push hm_250 dX12_root_50 (v := .inl (-1 : Int32)) rfl ?_
          refine zw_if2 hm_250 dX12_root_51 (t := 62) rfl zc2_eq ?_ ?_
          · intro hc
            rw [if_pos hc] at h
            refine zw_push hm_250 dX12_root_62 (v := .inl (0 : Int32)) rfl ?_
            refine zw_cv hm_250 dX12_root_63 v_12_110_12 hm_167 [.inl (0 : Int32)] [] rfl (zO_rt (zO_pi hS) s_94 rfl) ⟨by omega, by omega⟩ rfl ?_
            show ma_wp X (d - 1) (w - 21) 167 0 [(0, .inr (.inr (some 94))), (1, .inl (0 : Int32))] [] (ma_put S 94 0 (.inl (0 : Int32))) _
            refine zw_push hm_167 dX12_fails_0 (v := .inr (.inr (some 94))) rfl ?_
            refine zw_push hm_167 dX12_fails_1 (v := .inl (0 : Int32)) rfl ?_
            refine zw_pf hm_167 dX12_fails_2 (zO_is (zO_pi hS) s_94) (zO_t (zO_pi hS) s_94) p_12_1_12 zk_int ?_
            refine zw_push hm_167 dX12_fails_5 (v := .inl (0 : Int32)) rfl ?_
            refine zw_if0 hm_167 dX12_fails_6 (t := 13) rfl zc0_eq (fun _ => ?_) (fun hc => absurd (by decide) hc)
            refine zw_push hm_167 dX12_fails_13 (v := .inl (0 : Int32)) rfl ?_
            refine zw_bret hm_167 dX12_fails_14 (by decide) ?_
            show ma_wp X d w 250 66 [(3, .inl (-1 : Int32)), (0, .inr (.inr (some 94))), (1, .inl a1), (2, .inl a2)] [.inl (0 : Int32)] (ma_put (ma_put S 94 0 (.inl (0 : Int32))) 94 0 (.inl (0 : Int32))) Q
            refine zw_if0 hm_250 dX12_root_66 (t := 71) rfl zc0_eq (fun _ => ?_) (fun hc => absurd (by decide) hc)
            refine zw_push hm_250 dX12_root_71 (v := .inr (.inr (some 94))) rfl ?_
            refine zw_push hm_250 dX12_root_72 (v := .inr (.inr (some 94))) rfl ?_
            refine zw_gf hm_250 dX12_root_73 (v := .inr (.inr (some 112))) (zO_is (zO_pi (zO_pi hS)) s_94) (zO_t (zO_pi (zO_pi hS)) s_94) rfl f_12_68_12 (zO_f (zO_pi (zO_pi hS)) r_94_51) ?_
            refine zw_push hm_250 dX12_root_76 (v := .inl a1) rfl ?_
            obtain ⟨hg, h⟩ := h
            refine zw_ia hm_250 dX12_root_77 (zO_is (zO_pi (zO_pi hS)) s_112) (zO_h (zO_pi (zO_pi hS)) s_112) rfl hg ?_
            show ma_wp X d w 250 78 [(3, .inl (-1 : Int32)), (0, .inr (.inr (some 94))), (1, .inl a1), (2, .inl a2)] [.inl (mI S 112 a1.toNatClampNeg), .inr (.inr (some 94))] (ma_put (ma_put S 94 0 (.inl (0 : Int32))) 94 0 (.inl (0 : Int32))) _
            exact zw_sub (ma_nd_of (ks := [0, 1, 3]) rfl (by decide)) (ma_nd_of (ks := [3, 0, 1, 2]) rfl (by decide)) (ma_le_cons rfl (ma_le_cons rfl (ma_le_cons rfl (ma_le_nil _)))) h
          · intro hc
            rw [if_neg hc] at h
            refine zw_push hm_250 dX12_root_54 (v := .inl (-1 : Int32)) rfl ?_
            refine zw_if0 hm_250 dX12_root_55 (t := 62) rfl zc0_ge (fun hc => absurd hc (by decide)) (fun _ => ?_)
            refine zw_push hm_250 dX12_root_58 (v := .inl (3 : Int32)) rfl ?_
            refine zw_goto hm_250 dX12_root_59 (t := 63) rfl ?_
            refine zw_cv hm_250 dX12_root_63 v_12_110_12 hm_167 [.inl (3 : Int32)] [] rfl (zO_rt (zO_pi hS) s_94 rfl) ⟨by omega, by omega⟩ rfl ?_
            show ma_wp X (d - 1) (w - 21) 167 0 [(0, .inr (.inr (some 94))), (1, .inl (3 : Int32))] [] (ma_put S 94 0 (.inl (0 : Int32))) _
            refine zw_push hm_167 dX12_fails_0 (v := .inr (.inr (some 94))) rfl ?_
            refine zw_push hm_167 dX12_fails_1 (v := .inl (3 : Int32)) rfl ?_
            refine zw_pf hm_167 dX12_fails_2 (zO_is (zO_pi hS) s_94) (zO_t (zO_pi hS) s_94) p_12_1_12 zk_int ?_
            refine zw_push hm_167 dX12_fails_5 (v := .inl (3 : Int32)) rfl ?_
            refine zw_if0 hm_167 dX12_fails_6 (t := 13) rfl zc0_eq (fun hc => absurd hc (by decide)) (fun _ => ?_)
            refine zw_push hm_167 dX12_fails_9 (v := .inl (1 : Int32)) rfl ?_
            refine zw_goto hm_167 dX12_fails_10 (t := 14) rfl ?_
            refine zw_bret hm_167 dX12_fails_14 (by decide) ?_
            show ma_wp X d w 250 66 [(3, .inl (-1 : Int32)), (0, .inr (.inr (some 94))), (1, .inl a1), (2, .inl a2)] [.inl (1 : Int32)] (ma_put (ma_put S 94 0 (.inl (0 : Int32))) 94 0 (.inl (3 : Int32))) Q
            refine zw_if0 hm_250 dX12_root_66 (t := 71) rfl zc0_eq (fun hc => absurd hc (by decide)) (fun _ => ?_)
            refine zw_push hm_250 dX12_root_69 (v := .inl (0 : Int32)) rfl ?_
            exact zw_iret hm_250 dX12_root_70 h
      · intro hc
        rw [if_pos (Classical.not_not.mp hc)] at h
        refine zw_push hm_250 dX12_root_20 (v := .inl (2 : Int32)) rfl ?_
        refine zw_goto hm_250 dX12_root_21 (t := 25) rfl ?_
        refine zw_cv hm_250 dX12_root_25 v_12_110_12 hm_167 [.inl (2 : Int32)] [] rfl (zO_rt hS s_94 rfl) ⟨by omega, by omega⟩ rfl ?_
        show ma_wp X (d - 1) (w - 21) 167 0 [(0, .inr (.inr (some 94))), (1, .inl (2 : Int32))] [] S _
        refine zw_push hm_167 dX12_fails_0 (v := .inr (.inr (some 94))) rfl ?_
        refine zw_push hm_167 dX12_fails_1 (v := .inl (2 : Int32)) rfl ?_
        refine zw_pf hm_167 dX12_fails_2 (zO_is hS s_94) (zO_t hS s_94) p_12_1_12 zk_int ?_
        refine zw_push hm_167 dX12_fails_5 (v := .inl (2 : Int32)) rfl ?_
        refine zw_if0 hm_167 dX12_fails_6 (t := 13) rfl zc0_eq (fun hc => absurd hc (by decide)) (fun _ => ?_)
        refine zw_push hm_167 dX12_fails_9 (v := .inl (1 : Int32)) rfl ?_
        refine zw_goto hm_167 dX12_fails_10 (t := 14) rfl ?_
        refine zw_bret hm_167 dX12_fails_14 (by decide) ?_
        show ma_wp X d w 250 28 [(0, .inr (.inr (some 94))), (1, .inl a1), (2, .inl a2)] [.inl (1 : Int32)] (ma_put S 94 0 (.inl (2 : Int32))) Q
        refine zw_if0 hm_250 dX12_root_28 (t := 33) rfl zc0_eq (fun hc => absurd hc (by decide)) (fun _ => ?_)
        refine zw_push hm_250 dX12_root_31 (v := .inl (0 : Int32)) rfl ?_
        exact zw_iret hm_250 dX12_root_32 h
theorem g_154_0 {X : Nat × (Nat → Int32)} {d w : Nat} {S : ma_S} {Q : Option ma_V ⊕ Nat → ma_S → Prop} (a1 : Int32) (a2 : Int32) (hd : 8 ≤ d) (hw : 132 ≤ w) (hS : zO S) (h : if a1 < 0 then (Q (.inr 2) (ma_bump S)) else (if (16 : Int32) ≤ a1 then (Q (.inr 2) (ma_bump S)) else (((mR S 64 11) = none → Q (.inr 3) (ma_bump S)) ∧ (∀ c1, (mR S 64 11) = some c1 → ma_wp X d w 154 22 [(0, .inr (.inr (some 64))), (1, .inl a1)] [.inl a2, .inr (.inr (some 64))] S Q)))) : ma_wp X d w 154 0 [(0, .inr (.inr (some 64))), (1, .inl a1), (2, .inl a2)] [] S Q := by
  refine zw_push hm_154 dX11_weak_0 (v := .inl a1) rfl ?_
  refine zw_cs hm_154 dX11_weak_1 pn_11_109 sl_11_109 hm_142 [.inl a1] [] rfl ⟨by omega, by omega⟩ rfl ?_
  show ma_wp X (d - 1) (w - 20) 142 0 [(0, .inl a1)] [] S _
  refine zw_push hm_142 dX11_isSlot_0 (v := .inl a1) rfl ?_
  refine zw_if0 hm_142 dX11_isSlot_1 (t := 14) rfl zc0_lt ?_ ?_
  · intro hc
    rw [if_pos hc] at h
    refine zw_push hm_142 dX11_isSlot_14 (v := .inl (0 : Int32)) rfl ?_
    refine zw_bret hm_142 dX11_isSlot_15 (by decide) ?_
    show ma_wp X d w 154 4 [(0, .inr (.inr (some 64))), (1, .inl a1), (2, .inl a2)] [.inl (0 : Int32)] S Q
    refine zw_if0 hm_154 dX11_weak_4 (t := 15) rfl zc0_ne (fun hc => absurd hc (by decide)) (fun _ => ?_)
    exact zw_thr hm_154 dX11_weak_7 dX11_weak_10 dX11_weak_11 dX11_weak_14 x_11_79_81 n_11_79 (by omega) (by show 0 + 81 ≤ w; omega) h
  · intro hc
    rw [if_neg hc] at h
    refine zw_push hm_142 dX11_isSlot_4 (v := .inl a1) rfl ?_
    refine zw_push hm_142 dX11_isSlot_5 (v := .inl (16 : Int32)) rfl ?_
    refine zw_if2 hm_142 dX11_isSlot_7 (t := 14) rfl zc2_ge ?_ ?_
    · intro hc
      rw [if_pos hc] at h
      refine zw_push hm_142 dX11_isSlot_14 (v := .inl (0 : Int32)) rfl ?_
      refine zw_bret hm_142 dX11_isSlot_15 (by decide) ?_
      show ma_wp X d w 154 4 [(0, .inr (.inr (some 64))), (1, .inl a1), (2, .inl a2)] [.inl (0 : Int32)] S Q
      refine zw_if0 hm_154 dX11_weak_4 (t := 15) rfl zc0_ne (fun hc => absurd hc (by decide)) (fun _ => ?_)
      exact zw_thr hm_154 dX11_weak_7 dX11_weak_10 dX11_weak_11 dX11_weak_14 x_11_79_81 n_11_79 (by omega) (by show 0 + 81 ≤ w; omega) h
    · intro hc
      rw [if_neg hc] at h
      refine zw_push hm_142 dX11_isSlot_10 (v := .inl (1 : Int32)) rfl ?_
      refine zw_goto hm_142 dX11_isSlot_11 (t := 15) rfl ?_
      refine zw_bret hm_142 dX11_isSlot_15 (by decide) ?_
      show ma_wp X d w 154 4 [(0, .inr (.inr (some 64))), (1, .inl a1), (2, .inl a2)] [.inl (1 : Int32)] S Q
      refine zw_if0 hm_154 dX11_weak_4 (t := 15) rfl zc0_ne (fun _ => ?_) (fun hc => absurd (by decide) hc)
      refine zw_push hm_154 dX11_weak_15 (v := .inr (.inr (some 64))) rfl ?_
      refine zw_cv hm_154 dX11_weak_16 v_11_119_11 hm_144 [] [] rfl (zO_rt hS s_64 rfl) ⟨by omega, by omega⟩ rfl ?_
      show ma_wp X (d - 1) (w - 20) 144 0 [(0, .inr (.inr (some 64)))] [] S _
      refine zw_push hm_144 dX11_needCollector_0 (v := .inr (.inr (some 64))) rfl ?_
      refine zw_gf hm_144 dX11_needCollector_1 (v := .inr (.inr (mR S 64 11))) (zO_is hS s_64) (zO_t hS s_64) rfl f_11_98_11 rfl ?_
      refine zw_ifnonnull hm_144 dX11_needCollector_4 (t := 15) rfl ?_ ?_
      · intro hc
        have h := h.1 hc
        exact zw_thr hm_144 dX11_needCollector_7 dX11_needCollector_10 dX11_needCollector_11 dX11_needCollector_14 x_11_85_87 n_11_85 (by omega) (by show 0 + 81 ≤ (w - 20); omega) ⟨by decide, h⟩
      · intro c1 hc
        have h := h.2 c1 hc
        refine zw_push hm_144 dX11_needCollector_15 (v := .inr (.inr (some 64))) rfl ?_
        refine zw_gf hm_144 dX11_needCollector_16 (v := .inr (.inr (mR S 64 11))) (zO_is hS s_64) (zO_t hS s_64) rfl f_11_98_11 rfl ?_
        refine zw_aret hm_144 dX11_needCollector_19 ?_
        show ma_wp X d w 154 19 [(0, .inr (.inr (some 64))), (1, .inl a1), (2, .inl a2)] [.inr (.inr (mR S 64 11))] S Q
        refine zw_stk hm_154 dX11_weak_19 (st' := []) rfl rfl ?_
        refine zw_push hm_154 dX11_weak_20 (v := .inr (.inr (some 64))) rfl ?_
        refine zw_push hm_154 dX11_weak_21 (v := .inl a2) rfl ?_
        exact zw_sub (ma_nd_of (ks := [0, 1]) rfl (by decide)) (ma_nd_of (ks := [0, 1, 2]) rfl (by decide)) (ma_le_cons rfl (ma_le_cons rfl (ma_le_nil _))) h
theorem g_251_0 {X : Nat × (Nat → Int32)} {d w : Nat} {S : ma_S} {Q : Option ma_V ⊕ Nat → ma_S → Prop} (a1 : Int32) (a2 : Int32) (hd : 5 ≤ d) (hw : 109 ≤ w) (hS : zO S) (h : if a1 < 0 then (Q (.inl (some (.inl (0 : Int32)))) (ma_put S 94 0 (.inl (1 : Int32)))) else (if (16 : Int32) ≤ a1 then (Q (.inl (some (.inl (0 : Int32)))) (ma_put S 94 0 (.inl (1 : Int32)))) else (if (mI S 94 8) = 0 then (Q (.inl (some (.inl (0 : Int32)))) (ma_put S 94 0 (.inl (2 : Int32)))) else (if a2 = (-1 : Int32) then (if a2 = (-1 : Int32) then ((0 ≤ a1 ∧ a1.toNatClampNeg < 16) ∧ (ma_wp X d w 251 78 [(0, .inr (.inr (some 94))), (1, .inl a1), (3, .inl (-1 : Int32))] [.inl (mI S 113 a1.toNatClampNeg), .inr (.inr (some 94))] (ma_put (ma_put S 94 0 (.inl (0 : Int32))) 94 0 (.inl (0 : Int32))) Q)) else (Q (.inl (some (.inl (0 : Int32)))) (ma_put (ma_put S 94 0 (.inl (0 : Int32))) 94 0 (.inl (3 : Int32))))) else (ma_wp X d w 251 44 [(0, .inr (.inr (some 94))), (1, .inl a1), (2, .inl a2)] [.inl a2, .inr (.inr (some 94))] (ma_put S 94 0 (.inl (0 : Int32))) Q))))) : ma_wp X d w 251 0 [(0, .inr (.inr (some 94))), (1, .inl a1), (2, .inl a2)] [] S Q := by
  refine zw_push hm_251 dX12_weak_0 (v := .inr (.inr (some 94))) rfl ?_
  refine zw_push hm_251 dX12_weak_1 (v := .inr (.inr (some 94))) rfl ?_
  refine zw_push hm_251 dX12_weak_2 (v := .inl a1) rfl ?_
  refine zw_cv hm_251 dX12_weak_3 v_12_493_12 hm_182 [.inl a1] [.inr (.inr (some 94))] rfl (zO_rt hS s_94 rfl) ⟨by omega, by omega⟩ rfl ?_
  show ma_wp X (d - 1) (w - 21) 182 0 [(0, .inr (.inr (some 94))), (1, .inl a1)] [] S _
  refine zw_push hm_182 dX12_isNamed_0 (v := .inl a1) rfl ?_
  refine zw_if0 hm_182 dX12_isNamed_1 (t := 14) rfl zc0_lt ?_ ?_
  · intro hc
    rw [if_pos hc] at h
    refine zw_push hm_182 dX12_isNamed_14 (v := .inl (0 : Int32)) rfl ?_
    refine zw_bret hm_182 dX12_isNamed_15 (by decide) ?_
    show ma_wp X d w 251 6 [(0, .inr (.inr (some 94))), (1, .inl a1), (2, .inl a2)] [.inl (0 : Int32), .inr (.inr (some 94))] S Q
    refine zw_if0 hm_251 dX12_weak_6 (t := 13) rfl zc0_ne (fun hc => absurd hc (by decide)) (fun _ => ?_)
    refine zw_push hm_251 dX12_weak_9 (v := .inl (1 : Int32)) rfl ?_
    refine zw_goto hm_251 dX12_weak_10 (t := 25) rfl ?_
    refine zw_cv hm_251 dX12_weak_25 v_12_110_12 hm_167 [.inl (1 : Int32)] [] rfl (zO_rt hS s_94 rfl) ⟨by omega, by omega⟩ rfl ?_
    show ma_wp X (d - 1) (w - 21) 167 0 [(0, .inr (.inr (some 94))), (1, .inl (1 : Int32))] [] S _
    refine zw_push hm_167 dX12_fails_0 (v := .inr (.inr (some 94))) rfl ?_
    refine zw_push hm_167 dX12_fails_1 (v := .inl (1 : Int32)) rfl ?_
    refine zw_pf hm_167 dX12_fails_2 (zO_is hS s_94) (zO_t hS s_94) p_12_1_12 zk_int ?_
    refine zw_push hm_167 dX12_fails_5 (v := .inl (1 : Int32)) rfl ?_
    refine zw_if0 hm_167 dX12_fails_6 (t := 13) rfl zc0_eq (fun hc => absurd hc (by decide)) (fun _ => ?_)
    refine zw_push hm_167 dX12_fails_9 (v := .inl (1 : Int32)) rfl ?_
    refine zw_goto hm_167 dX12_fails_10 (t := 14) rfl ?_
    refine zw_bret hm_167 dX12_fails_14 (by decide) ?_
    show ma_wp X d w 251 28 [(0, .inr (.inr (some 94))), (1, .inl a1), (2, .inl a2)] [.inl (1 : Int32)] (ma_put S 94 0 (.inl (1 : Int32))) Q
    refine zw_if0 hm_251 dX12_weak_28 (t := 33) rfl zc0_eq (fun hc => absurd hc (by decide)) (fun _ => ?_)
    refine zw_push hm_251 dX12_weak_31 (v := .inl (0 : Int32)) rfl ?_
    exact zw_iret hm_251 dX12_weak_32 h
  · intro hc
    rw [if_neg hc] at h
    refine zw_push hm_182 dX12_isNamed_4 (v := .inl a1) rfl ?_
    refine zw_push hm_182 dX12_isNamed_5 (v := .inl (16 : Int32)) rfl ?_
    refine zw_if2 hm_182 dX12_isNamed_7 (t := 14) rfl zc2_ge ?_ ?_
    · intro hc
      rw [if_pos hc] at h
      refine zw_push hm_182 dX12_isNamed_14 (v := .inl (0 : Int32)) rfl ?_
      refine zw_bret hm_182 dX12_isNamed_15 (by decide) ?_
      show ma_wp X d w 251 6 [(0, .inr (.inr (some 94))), (1, .inl a1), (2, .inl a2)] [.inl (0 : Int32), .inr (.inr (some 94))] S Q
      refine zw_if0 hm_251 dX12_weak_6 (t := 13) rfl zc0_ne (fun hc => absurd hc (by decide)) (fun _ => ?_)
      refine zw_push hm_251 dX12_weak_9 (v := .inl (1 : Int32)) rfl ?_
      refine zw_goto hm_251 dX12_weak_10 (t := 25) rfl ?_
      refine zw_cv hm_251 dX12_weak_25 v_12_110_12 hm_167 [.inl (1 : Int32)] [] rfl (zO_rt hS s_94 rfl) ⟨by omega, by omega⟩ rfl ?_
      show ma_wp X (d - 1) (w - 21) 167 0 [(0, .inr (.inr (some 94))), (1, .inl (1 : Int32))] [] S _
      refine zw_push hm_167 dX12_fails_0 (v := .inr (.inr (some 94))) rfl ?_
      refine zw_push hm_167 dX12_fails_1 (v := .inl (1 : Int32)) rfl ?_
      refine zw_pf hm_167 dX12_fails_2 (zO_is hS s_94) (zO_t hS s_94) p_12_1_12 zk_int ?_
      refine zw_push hm_167 dX12_fails_5 (v := .inl (1 : Int32)) rfl ?_
      refine zw_if0 hm_167 dX12_fails_6 (t := 13) rfl zc0_eq (fun hc => absurd hc (by decide)) (fun _ => ?_)
      refine zw_push hm_167 dX12_fails_9 (v := .inl (1 : Int32)) rfl ?_
      refine zw_goto hm_167 dX12_fails_10 (t := 14) rfl ?_
      refine zw_bret hm_167 dX12_fails_14 (by decide) ?_
      show ma_wp X d w 251 28 [(0, .inr (.inr (some 94))), (1, .inl a1), (2, .inl a2)] [.inl (1 : Int32)] (ma_put S 94 0 (.inl (1 : Int32))) Q
      refine zw_if0 hm_251 dX12_weak_28 (t := 33) rfl zc0_eq (fun hc => absurd hc (by decide)) (fun _ => ?_)
      refine zw_push hm_251 dX12_weak_31 (v := .inl (0 : Int32)) rfl ?_
      exact zw_iret hm_251 dX12_weak_32 h
    · intro hc
      rw [if_neg hc] at h
      refine zw_push hm_182 dX12_isNamed_10 (v := .inl (1 : Int32)) rfl ?_
      refine zw_goto hm_182 dX12_isNamed_11 (t := 15) rfl ?_
      refine zw_bret hm_182 dX12_isNamed_15 (by decide) ?_
      show ma_wp X d w 251 6 [(0, .inr (.inr (some 94))), (1, .inl a1), (2, .inl a2)] [.inl (1 : Int32), .inr (.inr (some 94))] S Q
      refine zw_if0 hm_251 dX12_weak_6 (t := 13) rfl zc0_ne (fun _ => ?_) (fun hc => absurd (by decide) hc)
      refine zw_push hm_251 dX12_weak_13 (v := .inr (.inr (some 94))) rfl ?_
      refine zw_gf hm_251 dX12_weak_14 (v := .inl (mI S 94 8)) (zO_is hS s_94) (zO_t hS s_94) rfl f_12_237_12 rfl ?_
      refine zw_if0 hm_251 dX12_weak_17 (t := 24) rfl zc0_ne ?_ ?_
      · intro hc
        rw [if_neg hc] at h
        refine zw_push hm_251 dX12_weak_24 (v := .inl (0 : Int32)) rfl ?_
        refine zw_cv hm_251 dX12_weak_25 v_12_110_12 hm_167 [.inl (0 : Int32)] [] rfl (zO_rt hS s_94 rfl) ⟨by omega, by omega⟩ rfl ?_
        show ma_wp X (d - 1) (w - 21) 167 0 [(0, .inr (.inr (some 94))), (1, .inl (0 : Int32))] [] S _
        refine zw_push hm_167 dX12_fails_0 (v := .inr (.inr (some 94))) rfl ?_
        refine zw_push hm_167 dX12_fails_1 (v := .inl (0 : Int32)) rfl ?_
        refine zw_pf hm_167 dX12_fails_2 (zO_is hS s_94) (zO_t hS s_94) p_12_1_12 zk_int ?_
        refine zw_push hm_167 dX12_fails_5 (v := .inl (0 : Int32)) rfl ?_
        refine zw_if0 hm_167 dX12_fails_6 (t := 13) rfl zc0_eq (fun _ => ?_) (fun hc => absurd (by decide) hc)
        refine zw_push hm_167 dX12_fails_13 (v := .inl (0 : Int32)) rfl ?_
        refine zw_bret hm_167 dX12_fails_14 (by decide) ?_
        show ma_wp X d w 251 28 [(0, .inr (.inr (some 94))), (1, .inl a1), (2, .inl a2)] [.inl (0 : Int32)] (ma_put S 94 0 (.inl (0 : Int32))) Q
        refine zw_if0 hm_251 dX12_weak_28 (t := 33) rfl zc0_eq (fun _ => ?_) (fun hc => absurd (by decide) hc)
        refine zw_push hm_251 dX12_weak_33 (v := .inl a2) rfl ?_
        refine zw_push hm_251 dX12_weak_34 (v := .inl (-1 : Int32)) rfl ?_
        refine zw_if2 hm_251 dX12_weak_35 (t := 42) rfl zc2_ne ?_ ?_
        · intro hc
          rw [if_neg hc] at h
          refine zw_push hm_251 dX12_weak_42 (v := .inr (.inr (some 94))) rfl ?_
          refine zw_push hm_251 dX12_weak_43 (v := .inl a2) rfl ?_
          exact h
        · intro hc
          rw [if_pos (Classical.not_not.mp hc)] at h
          refine zw_push hm_251 dX12_weak_38 (v := .inl (-1 : Int32)) rfl ?_
          refine zw_goto hm_251 dX12_weak_39 (t := 47) rfl ?_
          refine zw_sto hm_251 dX12_weak_47 [(3, .inl (-1 : Int32)), (0, .inr (.inr (some 94))), (1, .inl a1), (2, .inl a2)] rfl rfl rfl ?_
          refine zw_push hm_251 dX12_weak_48 (v := .inr (.inr (some 94))) rfl ?_
          refine zw_push hm_251 dX12_weak_49 (v := .inl a2) rfl ?_
          refine zw_push hm_251 dX12_weak_50 (v := .inl (-1 : Int32)) rfl ?_
          refine zw_if2 hm_251 dX12_weak_51 (t := 62) rfl zc2_eq ?_ ?_
          · intro hc
            rw [if_pos hc] at h
            refine zw_push hm_251 dX12_weak_62 (v := .inl (0 : Int32)) rfl ?_
            refine zw_cv hm_251 dX12_weak_63 v_12_110_12 hm_167 [.inl (0 : Int32)] [] rfl (zO_rt (zO_pi hS) s_94 rfl) ⟨by omega, by omega⟩ rfl ?_
            show ma_wp X (d - 1) (w - 21) 167 0 [(0, .inr (.inr (some 94))), (1, .inl (0 : Int32))] [] (ma_put S 94 0 (.inl (0 : Int32))) _
            refine zw_push hm_167 dX12_fails_0 (v := .inr (.inr (some 94))) rfl ?_
            refine zw_push hm_167 dX12_fails_1 (v := .inl (0 : Int32)) rfl ?_
            refine zw_pf hm_167 dX12_fails_2 (zO_is (zO_pi hS) s_94) (zO_t (zO_pi hS) s_94) p_12_1_12 zk_int ?_
            refine zw_push hm_167 dX12_fails_5 (v := .inl (0 : Int32)) rfl ?_
            refine zw_if0 hm_167 dX12_fails_6 (t := 13) rfl zc0_eq (fun _ => ?_) (fun hc => absurd (by decide) hc)
            refine zw_push hm_167 dX12_fails_13 (v := .inl (0 : Int32)) rfl ?_
            refine zw_bret hm_167 dX12_fails_14 (by decide) ?_
            show ma_wp X d w 251 66 [(3, .inl (-1 : Int32)), (0, .inr (.inr (some 94))), (1, .inl a1), (2, .inl a2)] [.inl (0 : Int32)] (ma_put (ma_put S 94 0 (.inl (0 : Int32))) 94 0 (.inl (0 : Int32))) Q
            refine zw_if0 hm_251 dX12_weak_66 (t := 71) rfl zc0_eq (fun _ => ?_) (fun hc => absurd (by decide) hc)
            refine zw_push hm_251 dX12_weak_71 (v := .inr (.inr (some 94))) rfl ?_
            refine zw_push hm_251 dX12_weak_72 (v := .inr (.inr (some 94))) rfl ?_
            refine zw_gf hm_251 dX12_weak_73 (v := .inr (.inr (some 113))) (zO_is (zO_pi (zO_pi hS)) s_94) (zO_t (zO_pi (zO_pi hS)) s_94) rfl f_12_71_12 (zO_f (zO_pi (zO_pi hS)) r_94_52) ?_
            refine zw_push hm_251 dX12_weak_76 (v := .inl a1) rfl ?_
            obtain ⟨hg, h⟩ := h
            refine zw_ia hm_251 dX12_weak_77 (zO_is (zO_pi (zO_pi hS)) s_113) (zO_h (zO_pi (zO_pi hS)) s_113) rfl hg ?_
            show ma_wp X d w 251 78 [(3, .inl (-1 : Int32)), (0, .inr (.inr (some 94))), (1, .inl a1), (2, .inl a2)] [.inl (mI S 113 a1.toNatClampNeg), .inr (.inr (some 94))] (ma_put (ma_put S 94 0 (.inl (0 : Int32))) 94 0 (.inl (0 : Int32))) _
            exact zw_sub (ma_nd_of (ks := [0, 1, 3]) rfl (by decide)) (ma_nd_of (ks := [3, 0, 1, 2]) rfl (by decide)) (ma_le_cons rfl (ma_le_cons rfl (ma_le_cons rfl (ma_le_nil _)))) h
          · intro hc
            rw [if_neg hc] at h
            refine zw_push hm_251 dX12_weak_54 (v := .inl (-1 : Int32)) rfl ?_
            refine zw_if0 hm_251 dX12_weak_55 (t := 62) rfl zc0_ge (fun hc => absurd hc (by decide)) (fun _ => ?_)
            refine zw_push hm_251 dX12_weak_58 (v := .inl (3 : Int32)) rfl ?_
            refine zw_goto hm_251 dX12_weak_59 (t := 63) rfl ?_
            refine zw_cv hm_251 dX12_weak_63 v_12_110_12 hm_167 [.inl (3 : Int32)] [] rfl (zO_rt (zO_pi hS) s_94 rfl) ⟨by omega, by omega⟩ rfl ?_
            show ma_wp X (d - 1) (w - 21) 167 0 [(0, .inr (.inr (some 94))), (1, .inl (3 : Int32))] [] (ma_put S 94 0 (.inl (0 : Int32))) _
            refine zw_push hm_167 dX12_fails_0 (v := .inr (.inr (some 94))) rfl ?_
            refine zw_push hm_167 dX12_fails_1 (v := .inl (3 : Int32)) rfl ?_
            refine zw_pf hm_167 dX12_fails_2 (zO_is (zO_pi hS) s_94) (zO_t (zO_pi hS) s_94) p_12_1_12 zk_int ?_
            refine zw_push hm_167 dX12_fails_5 (v := .inl (3 : Int32)) rfl ?_
            refine zw_if0 hm_167 dX12_fails_6 (t := 13) rfl zc0_eq (fun hc => absurd hc (by decide)) (fun _ => ?_)
            refine zw_push hm_167 dX12_fails_9 (v := .inl (1 : Int32)) rfl ?_
            refine zw_goto hm_167 dX12_fails_10 (t := 14) rfl ?_
            refine zw_bret hm_167 dX12_fails_14 (by decide) ?_
            show ma_wp X d w 251 66 [(3, .inl (-1 : Int32)), (0, .inr (.inr (some 94))), (1, .inl a1), (2, .inl a2)] [.inl (1 : Int32)] (ma_put (ma_put S 94 0 (.inl (0 : Int32))) 94 0 (.inl (3 : Int32))) Q
            refine zw_if0 hm_251 dX12_weak_66 (t := 71) rfl zc0_eq (fun hc => absurd hc (by decide)) (fun _ => ?_)
            refine zw_push hm_251 dX12_weak_69 (v := .inl (0 : Int32)) rfl ?_
            exact zw_iret hm_251 dX12_weak_70 h
      · intro hc
        rw [if_pos (Classical.not_not.mp hc)] at h
        refine zw_push hm_251 dX12_weak_20 (v := .inl (2 : Int32)) rfl ?_
        refine zw_goto hm_251 dX12_weak_21 (t := 25) rfl ?_
        refine zw_cv hm_251 dX12_weak_25 v_12_110_12 hm_167 [.inl (2 : Int32)] [] rfl (zO_rt hS s_94 rfl) ⟨by omega, by omega⟩ rfl ?_
        show ma_wp X (d - 1) (w - 21) 167 0 [(0, .inr (.inr (some 94))), (1, .inl (2 : Int32))] [] S _
        refine zw_push hm_167 dX12_fails_0 (v := .inr (.inr (some 94))) rfl ?_
        refine zw_push hm_167 dX12_fails_1 (v := .inl (2 : Int32)) rfl ?_
        refine zw_pf hm_167 dX12_fails_2 (zO_is hS s_94) (zO_t hS s_94) p_12_1_12 zk_int ?_
        refine zw_push hm_167 dX12_fails_5 (v := .inl (2 : Int32)) rfl ?_
        refine zw_if0 hm_167 dX12_fails_6 (t := 13) rfl zc0_eq (fun hc => absurd hc (by decide)) (fun _ => ?_)
        refine zw_push hm_167 dX12_fails_9 (v := .inl (1 : Int32)) rfl ?_
        refine zw_goto hm_167 dX12_fails_10 (t := 14) rfl ?_
        refine zw_bret hm_167 dX12_fails_14 (by decide) ?_
        show ma_wp X d w 251 28 [(0, .inr (.inr (some 94))), (1, .inl a1), (2, .inl a2)] [.inl (1 : Int32)] (ma_put S 94 0 (.inl (2 : Int32))) Q
        refine zw_if0 hm_251 dX12_weak_28 (t := 33) rfl zc0_eq (fun hc => absurd hc (by decide)) (fun _ => ?_)
        refine zw_push hm_251 dX12_weak_31 (v := .inl (0 : Int32)) rfl ?_
        exact zw_iret hm_251 dX12_weak_32 h
theorem g_155_0 {X : Nat × (Nat → Int32)} {d w : Nat} {S : ma_S} {Q : Option ma_V ⊕ Nat → ma_S → Prop} (a1 : Int32) (a2 : Int32) (hd : 7 ≤ d) (hw : 134 ≤ w) (hS : zO S) (h : if a1 < 0 then (Q (.inr 2) (ma_bump S)) else (if (16 : Int32) ≤ a1 then (Q (.inr 2) (ma_bump S)) else (if a2 < 0 then (Q (.inr 2) (ma_bump S)) else (if (16 : Int32) ≤ a2 then (Q (.inr 2) (ma_bump S)) else (((mR S 64 11) = none → Q (.inr 3) (ma_bump S)) ∧ (∀ c1, (mR S 64 11) = some c1 → (0 ≤ a1 ∧ a1.toNatClampNeg < 16) ∧ (ma_wp X d w 155 40 [(0, .inr (.inr (some 64))), (2, .inl a2), (3, .inr (.inr (mR S 64 11)))] [.inl (mI S 73 a1.toNatClampNeg), .inr (.inr (some 69))] S Q))))))) : ma_wp X d w 155 0 [(0, .inr (.inr (some 64))), (1, .inl a1), (2, .inl a2)] [] S Q := by
  refine zw_push hm_155 dX11_strong_0 (v := .inl a1) rfl ?_
  refine zw_cs hm_155 dX11_strong_1 pn_11_109 sl_11_109 hm_142 [.inl a1] [] rfl ⟨by omega, by omega⟩ rfl ?_
  show ma_wp X (d - 1) (w - 20) 142 0 [(0, .inl a1)] [] S _
  refine zw_push hm_142 dX11_isSlot_0 (v := .inl a1) rfl ?_
  refine zw_if0 hm_142 dX11_isSlot_1 (t := 14) rfl zc0_lt ?_ ?_
  · intro hc
    rw [if_pos hc] at h
    refine zw_push hm_142 dX11_isSlot_14 (v := .inl (0 : Int32)) rfl ?_
    refine zw_bret hm_142 dX11_isSlot_15 (by decide) ?_
    show ma_wp X d w 155 4 [(0, .inr (.inr (some 64))), (1, .inl a1), (2, .inl a2)] [.inl (0 : Int32)] S Q
    refine zw_if0 hm_155 dX11_strong_4 (t := 14) rfl zc0_eq (fun _ => ?_) (fun hc => absurd (by decide) hc)
    exact zw_thr hm_155 dX11_strong_14 dX11_strong_17 dX11_strong_18 dX11_strong_21 x_11_79_81 n_11_79 (by omega) (by show 0 + 81 ≤ w; omega) h
  · intro hc
    rw [if_neg hc] at h
    refine zw_push hm_142 dX11_isSlot_4 (v := .inl a1) rfl ?_
    refine zw_push hm_142 dX11_isSlot_5 (v := .inl (16 : Int32)) rfl ?_
    refine zw_if2 hm_142 dX11_isSlot_7 (t := 14) rfl zc2_ge ?_ ?_
    · intro hc
      rw [if_pos hc] at h
      refine zw_push hm_142 dX11_isSlot_14 (v := .inl (0 : Int32)) rfl ?_
      refine zw_bret hm_142 dX11_isSlot_15 (by decide) ?_
      show ma_wp X d w 155 4 [(0, .inr (.inr (some 64))), (1, .inl a1), (2, .inl a2)] [.inl (0 : Int32)] S Q
      refine zw_if0 hm_155 dX11_strong_4 (t := 14) rfl zc0_eq (fun _ => ?_) (fun hc => absurd (by decide) hc)
      exact zw_thr hm_155 dX11_strong_14 dX11_strong_17 dX11_strong_18 dX11_strong_21 x_11_79_81 n_11_79 (by omega) (by show 0 + 81 ≤ w; omega) h
    · intro hc
      rw [if_neg hc] at h
      refine zw_push hm_142 dX11_isSlot_10 (v := .inl (1 : Int32)) rfl ?_
      refine zw_goto hm_142 dX11_isSlot_11 (t := 15) rfl ?_
      refine zw_bret hm_142 dX11_isSlot_15 (by decide) ?_
      show ma_wp X d w 155 4 [(0, .inr (.inr (some 64))), (1, .inl a1), (2, .inl a2)] [.inl (1 : Int32)] S Q
      refine zw_if0 hm_155 dX11_strong_4 (t := 14) rfl zc0_eq (fun hc => absurd hc (by decide)) (fun _ => ?_)
      refine zw_push hm_155 dX11_strong_7 (v := .inl a2) rfl ?_
      refine zw_cs hm_155 dX11_strong_8 pn_11_109 sl_11_109 hm_142 [.inl a2] [] rfl ⟨by omega, by omega⟩ rfl ?_
      show ma_wp X (d - 1) (w - 20) 142 0 [(0, .inl a2)] [] S _
      refine zw_push hm_142 dX11_isSlot_0 (v := .inl a2) rfl ?_
      refine zw_if0 hm_142 dX11_isSlot_1 (t := 14) rfl zc0_lt ?_ ?_
      · intro hc
        rw [if_pos hc] at h
        refine zw_push hm_142 dX11_isSlot_14 (v := .inl (0 : Int32)) rfl ?_
        refine zw_bret hm_142 dX11_isSlot_15 (by decide) ?_
        show ma_wp X d w 155 11 [(0, .inr (.inr (some 64))), (1, .inl a1), (2, .inl a2)] [.inl (0 : Int32)] S Q
        refine zw_if0 hm_155 dX11_strong_11 (t := 22) rfl zc0_ne (fun hc => absurd hc (by decide)) (fun _ => ?_)
        exact zw_thr hm_155 dX11_strong_14 dX11_strong_17 dX11_strong_18 dX11_strong_21 x_11_79_81 n_11_79 (by omega) (by show 0 + 81 ≤ w; omega) h
      · intro hc
        rw [if_neg hc] at h
        refine zw_push hm_142 dX11_isSlot_4 (v := .inl a2) rfl ?_
        refine zw_push hm_142 dX11_isSlot_5 (v := .inl (16 : Int32)) rfl ?_
        refine zw_if2 hm_142 dX11_isSlot_7 (t := 14) rfl zc2_ge ?_ ?_
        · intro hc
          rw [if_pos hc] at h
          refine zw_push hm_142 dX11_isSlot_14 (v := .inl (0 : Int32)) rfl ?_
          refine zw_bret hm_142 dX11_isSlot_15 (by decide) ?_
          show ma_wp X d w 155 11 [(0, .inr (.inr (some 64))), (1, .inl a1), (2, .inl a2)] [.inl (0 : Int32)] S Q
          refine zw_if0 hm_155 dX11_strong_11 (t := 22) rfl zc0_ne (fun hc => absurd hc (by decide)) (fun _ => ?_)
          exact zw_thr hm_155 dX11_strong_14 dX11_strong_17 dX11_strong_18 dX11_strong_21 x_11_79_81 n_11_79 (by omega) (by show 0 + 81 ≤ w; omega) h
        · intro hc
          rw [if_neg hc] at h
          refine zw_push hm_142 dX11_isSlot_10 (v := .inl (1 : Int32)) rfl ?_
          refine zw_goto hm_142 dX11_isSlot_11 (t := 15) rfl ?_
          refine zw_bret hm_142 dX11_isSlot_15 (by decide) ?_
          show ma_wp X d w 155 11 [(0, .inr (.inr (some 64))), (1, .inl a1), (2, .inl a2)] [.inl (1 : Int32)] S Q
          refine zw_if0 hm_155 dX11_strong_11 (t := 22) rfl zc0_ne (fun _ => ?_) (fun hc => absurd (by decide) hc)
          refine zw_push hm_155 dX11_strong_22 (v := .inr (.inr (some 64))) rfl ?_
          refine zw_cv hm_155 dX11_strong_23 v_11_119_11 hm_144 [] [] rfl (zO_rt hS s_64 rfl) ⟨by omega, by omega⟩ rfl ?_
          show ma_wp X (d - 1) (w - 20) 144 0 [(0, .inr (.inr (some 64)))] [] S _
          refine zw_push hm_144 dX11_needCollector_0 (v := .inr (.inr (some 64))) rfl ?_
          refine zw_gf hm_144 dX11_needCollector_1 (v := .inr (.inr (mR S 64 11))) (zO_is hS s_64) (zO_t hS s_64) rfl f_11_98_11 rfl ?_
          refine zw_ifnonnull hm_144 dX11_needCollector_4 (t := 15) rfl ?_ ?_
          · intro hc
            have h := h.1 hc
            exact zw_thr hm_144 dX11_needCollector_7 dX11_needCollector_10 dX11_needCollector_11 dX11_needCollector_14 x_11_85_87 n_11_85 (by omega) (by show 0 + 81 ≤ (w - 20); omega) ⟨by decide, h⟩
          · intro c1 hc
            have h := h.2 c1 hc
            refine zw_push hm_144 dX11_needCollector_15 (v := .inr (.inr (some 64))) rfl ?_
            refine zw_gf hm_144 dX11_needCollector_16 (v := .inr (.inr (mR S 64 11))) (zO_is hS s_64) (zO_t hS s_64) rfl f_11_98_11 rfl ?_
            refine zw_aret hm_144 dX11_needCollector_19 ?_
            show ma_wp X d w 155 26 [(0, .inr (.inr (some 64))), (1, .inl a1), (2, .inl a2)] [.inr (.inr (mR S 64 11))] S Q
            refine zw_sto hm_155 dX11_strong_26 [(3, .inr (.inr (mR S 64 11))), (0, .inr (.inr (some 64))), (1, .inl a1), (2, .inl a2)] rfl rfl rfl ?_
            refine zw_push hm_155 dX11_strong_27 (v := .inr (.inr (some 64))) rfl ?_
            refine zw_gf hm_155 dX11_strong_28 (v := .inr (.inr (some 69))) (zO_is hS s_64) (zO_t hS s_64) rfl f_11_26_11 (zO_f hS r_64_8) ?_
            refine zw_push hm_155 dX11_strong_31 (v := .inr (.inr (some 64))) rfl ?_
            refine zw_gf hm_155 dX11_strong_32 (v := .inr (.inr (some 69))) (zO_is hS s_64) (zO_t hS s_64) rfl f_11_26_11 (zO_f hS r_64_8) ?_
            refine zw_gf hm_155 dX11_strong_35 (v := .inr (.inr (some 73))) (zO_is hS s_69) (zO_t hS s_69) rfl f_11_173_7 (zO_f hS r_69_3) ?_
            refine zw_push hm_155 dX11_strong_38 (v := .inl a1) rfl ?_
            obtain ⟨hg, h⟩ := h
            refine zw_ia hm_155 dX11_strong_39 (zO_is hS s_73) (zO_h hS s_73) rfl hg ?_
            show ma_wp X d w 155 40 [(3, .inr (.inr (mR S 64 11))), (0, .inr (.inr (some 64))), (1, .inl a1), (2, .inl a2)] [.inl (mI S 73 a1.toNatClampNeg), .inr (.inr (some 69))] S _
            exact zw_sub (ma_nd_of (ks := [0, 2, 3]) rfl (by decide)) (ma_nd_of (ks := [3, 0, 1, 2]) rfl (by decide)) (ma_le_cons rfl (ma_le_cons rfl (ma_le_cons rfl (ma_le_nil _)))) h
theorem g_252_0 {X : Nat × (Nat → Int32)} {d w : Nat} {S : ma_S} {Q : Option ma_V ⊕ Nat → ma_S → Prop} (a1 : Int32) (a2 : Int32) (hd : 5 ≤ d) (hw : 111 ≤ w) (hS : zO S) (h : if a1 < 0 then (Q (.inl (some (.inl (0 : Int32)))) (ma_put S 94 0 (.inl (1 : Int32)))) else (if (16 : Int32) ≤ a1 then (Q (.inl (some (.inl (0 : Int32)))) (ma_put S 94 0 (.inl (1 : Int32)))) else (if a2 < 0 then (Q (.inl (some (.inl (0 : Int32)))) (ma_put S 94 0 (.inl (1 : Int32)))) else (if (16 : Int32) ≤ a2 then (Q (.inl (some (.inl (0 : Int32)))) (ma_put S 94 0 (.inl (1 : Int32)))) else (if (mI S 94 8) = 0 then (Q (.inl (some (.inl (0 : Int32)))) (ma_put S 94 0 (.inl (2 : Int32)))) else ((0 ≤ a1 ∧ a1.toNatClampNeg < 16) ∧ (if 0 ≤ (mI S 113 a1.toNatClampNeg) then (if (mI S 94 58) = 0 then (ma_wp X d w 252 69 [(0, .inr (.inr (some 94))), (3, .inl (mI S 113 a1.toNatClampNeg))] [.inl (mI S 113 a1.toNatClampNeg), .inl a2, .inr (.inr (some 94))] (ma_put S 94 0 (.inl (0 : Int32))) Q) else (ma_wp X d w 252 63 [(0, .inr (.inr (some 94))), (2, .inl a2), (3, .inl (mI S 113 a1.toNatClampNeg))] [.inl (mI S 113 a1.toNatClampNeg), .inr (.inr (some 94))] (ma_put S 94 0 (.inl (0 : Int32))) Q)) else (Q (.inl (some (.inl (-1 : Int32)))) (ma_put S 94 0 (.inl (0 : Int32))))))))))) : ma_wp X d w 252 0 [(0, .inr (.inr (some 94))), (1, .inl a1), (2, .inl a2)] [] S Q := by
  refine zw_push hm_252 dX12_strong_0 (v := .inr (.inr (some 94))) rfl ?_
  refine zw_push hm_252 dX12_strong_1 (v := .inr (.inr (some 94))) rfl ?_
  refine zw_push hm_252 dX12_strong_2 (v := .inl a1) rfl ?_
  refine zw_cv hm_252 dX12_strong_3 v_12_493_12 hm_182 [.inl a1] [.inr (.inr (some 94))] rfl (zO_rt hS s_94 rfl) ⟨by omega, by omega⟩ rfl ?_
  show ma_wp X (d - 1) (w - 21) 182 0 [(0, .inr (.inr (some 94))), (1, .inl a1)] [] S _
  refine zw_push hm_182 dX12_isNamed_0 (v := .inl a1) rfl ?_
  refine zw_if0 hm_182 dX12_isNamed_1 (t := 14) rfl zc0_lt ?_ ?_
  · intro hc
    rw [if_pos hc] at h
    refine zw_push hm_182 dX12_isNamed_14 (v := .inl (0 : Int32)) rfl ?_
    refine zw_bret hm_182 dX12_isNamed_15 (by decide) ?_
    show ma_wp X d w 252 6 [(0, .inr (.inr (some 94))), (1, .inl a1), (2, .inl a2)] [.inl (0 : Int32), .inr (.inr (some 94))] S Q
    refine zw_if0 hm_252 dX12_strong_6 (t := 17) rfl zc0_eq (fun _ => ?_) (fun hc => absurd (by decide) hc)
    refine zw_push hm_252 dX12_strong_17 (v := .inl (1 : Int32)) rfl ?_
    refine zw_goto hm_252 dX12_strong_18 (t := 33) rfl ?_
    refine zw_cv hm_252 dX12_strong_33 v_12_110_12 hm_167 [.inl (1 : Int32)] [] rfl (zO_rt hS s_94 rfl) ⟨by omega, by omega⟩ rfl ?_
    show ma_wp X (d - 1) (w - 21) 167 0 [(0, .inr (.inr (some 94))), (1, .inl (1 : Int32))] [] S _
    refine zw_push hm_167 dX12_fails_0 (v := .inr (.inr (some 94))) rfl ?_
    refine zw_push hm_167 dX12_fails_1 (v := .inl (1 : Int32)) rfl ?_
    refine zw_pf hm_167 dX12_fails_2 (zO_is hS s_94) (zO_t hS s_94) p_12_1_12 zk_int ?_
    refine zw_push hm_167 dX12_fails_5 (v := .inl (1 : Int32)) rfl ?_
    refine zw_if0 hm_167 dX12_fails_6 (t := 13) rfl zc0_eq (fun hc => absurd hc (by decide)) (fun _ => ?_)
    refine zw_push hm_167 dX12_fails_9 (v := .inl (1 : Int32)) rfl ?_
    refine zw_goto hm_167 dX12_fails_10 (t := 14) rfl ?_
    refine zw_bret hm_167 dX12_fails_14 (by decide) ?_
    show ma_wp X d w 252 36 [(0, .inr (.inr (some 94))), (1, .inl a1), (2, .inl a2)] [.inl (1 : Int32)] (ma_put S 94 0 (.inl (1 : Int32))) Q
    refine zw_if0 hm_252 dX12_strong_36 (t := 41) rfl zc0_eq (fun hc => absurd hc (by decide)) (fun _ => ?_)
    refine zw_push hm_252 dX12_strong_39 (v := .inl (0 : Int32)) rfl ?_
    exact zw_iret hm_252 dX12_strong_40 h
  · intro hc
    rw [if_neg hc] at h
    refine zw_push hm_182 dX12_isNamed_4 (v := .inl a1) rfl ?_
    refine zw_push hm_182 dX12_isNamed_5 (v := .inl (16 : Int32)) rfl ?_
    refine zw_if2 hm_182 dX12_isNamed_7 (t := 14) rfl zc2_ge ?_ ?_
    · intro hc
      rw [if_pos hc] at h
      refine zw_push hm_182 dX12_isNamed_14 (v := .inl (0 : Int32)) rfl ?_
      refine zw_bret hm_182 dX12_isNamed_15 (by decide) ?_
      show ma_wp X d w 252 6 [(0, .inr (.inr (some 94))), (1, .inl a1), (2, .inl a2)] [.inl (0 : Int32), .inr (.inr (some 94))] S Q
      refine zw_if0 hm_252 dX12_strong_6 (t := 17) rfl zc0_eq (fun _ => ?_) (fun hc => absurd (by decide) hc)
      refine zw_push hm_252 dX12_strong_17 (v := .inl (1 : Int32)) rfl ?_
      refine zw_goto hm_252 dX12_strong_18 (t := 33) rfl ?_
      refine zw_cv hm_252 dX12_strong_33 v_12_110_12 hm_167 [.inl (1 : Int32)] [] rfl (zO_rt hS s_94 rfl) ⟨by omega, by omega⟩ rfl ?_
      show ma_wp X (d - 1) (w - 21) 167 0 [(0, .inr (.inr (some 94))), (1, .inl (1 : Int32))] [] S _
      refine zw_push hm_167 dX12_fails_0 (v := .inr (.inr (some 94))) rfl ?_
      refine zw_push hm_167 dX12_fails_1 (v := .inl (1 : Int32)) rfl ?_
      refine zw_pf hm_167 dX12_fails_2 (zO_is hS s_94) (zO_t hS s_94) p_12_1_12 zk_int ?_
      refine zw_push hm_167 dX12_fails_5 (v := .inl (1 : Int32)) rfl ?_
      refine zw_if0 hm_167 dX12_fails_6 (t := 13) rfl zc0_eq (fun hc => absurd hc (by decide)) (fun _ => ?_)
      refine zw_push hm_167 dX12_fails_9 (v := .inl (1 : Int32)) rfl ?_
      refine zw_goto hm_167 dX12_fails_10 (t := 14) rfl ?_
      refine zw_bret hm_167 dX12_fails_14 (by decide) ?_
      show ma_wp X d w 252 36 [(0, .inr (.inr (some 94))), (1, .inl a1), (2, .inl a2)] [.inl (1 : Int32)] (ma_put S 94 0 (.inl (1 : Int32))) Q
      refine zw_if0 hm_252 dX12_strong_36 (t := 41) rfl zc0_eq (fun hc => absurd hc (by decide)) (fun _ => ?_)
      refine zw_push hm_252 dX12_strong_39 (v := .inl (0 : Int32)) rfl ?_
      exact zw_iret hm_252 dX12_strong_40 h
    · intro hc
      rw [if_neg hc] at h
      refine zw_push hm_182 dX12_isNamed_10 (v := .inl (1 : Int32)) rfl ?_
      refine zw_goto hm_182 dX12_isNamed_11 (t := 15) rfl ?_
      refine zw_bret hm_182 dX12_isNamed_15 (by decide) ?_
      show ma_wp X d w 252 6 [(0, .inr (.inr (some 94))), (1, .inl a1), (2, .inl a2)] [.inl (1 : Int32), .inr (.inr (some 94))] S Q
      refine zw_if0 hm_252 dX12_strong_6 (t := 17) rfl zc0_eq (fun hc => absurd hc (by decide)) (fun _ => ?_)
      refine zw_push hm_252 dX12_strong_9 (v := .inr (.inr (some 94))) rfl ?_
      refine zw_push hm_252 dX12_strong_10 (v := .inl a2) rfl ?_
      refine zw_cv hm_252 dX12_strong_11 v_12_493_12 hm_182 [.inl a2] [.inr (.inr (some 94))] rfl (zO_rt hS s_94 rfl) ⟨by omega, by omega⟩ rfl ?_
      show ma_wp X (d - 1) (w - 21) 182 0 [(0, .inr (.inr (some 94))), (1, .inl a2)] [] S _
      refine zw_push hm_182 dX12_isNamed_0 (v := .inl a2) rfl ?_
      refine zw_if0 hm_182 dX12_isNamed_1 (t := 14) rfl zc0_lt ?_ ?_
      · intro hc
        rw [if_pos hc] at h
        refine zw_push hm_182 dX12_isNamed_14 (v := .inl (0 : Int32)) rfl ?_
        refine zw_bret hm_182 dX12_isNamed_15 (by decide) ?_
        show ma_wp X d w 252 14 [(0, .inr (.inr (some 94))), (1, .inl a1), (2, .inl a2)] [.inl (0 : Int32), .inr (.inr (some 94))] S Q
        refine zw_if0 hm_252 dX12_strong_14 (t := 21) rfl zc0_ne (fun hc => absurd hc (by decide)) (fun _ => ?_)
        refine zw_push hm_252 dX12_strong_17 (v := .inl (1 : Int32)) rfl ?_
        refine zw_goto hm_252 dX12_strong_18 (t := 33) rfl ?_
        refine zw_cv hm_252 dX12_strong_33 v_12_110_12 hm_167 [.inl (1 : Int32)] [] rfl (zO_rt hS s_94 rfl) ⟨by omega, by omega⟩ rfl ?_
        show ma_wp X (d - 1) (w - 21) 167 0 [(0, .inr (.inr (some 94))), (1, .inl (1 : Int32))] [] S _
        refine zw_push hm_167 dX12_fails_0 (v := .inr (.inr (some 94))) rfl ?_
        refine zw_push hm_167 dX12_fails_1 (v := .inl (1 : Int32)) rfl ?_
        refine zw_pf hm_167 dX12_fails_2 (zO_is hS s_94) (zO_t hS s_94) p_12_1_12 zk_int ?_
        refine zw_push hm_167 dX12_fails_5 (v := .inl (1 : Int32)) rfl ?_
        refine zw_if0 hm_167 dX12_fails_6 (t := 13) rfl zc0_eq (fun hc => absurd hc (by decide)) (fun _ => ?_)
        refine zw_push hm_167 dX12_fails_9 (v := .inl (1 : Int32)) rfl ?_
        refine zw_goto hm_167 dX12_fails_10 (t := 14) rfl ?_
        refine zw_bret hm_167 dX12_fails_14 (by decide) ?_
        show ma_wp X d w 252 36 [(0, .inr (.inr (some 94))), (1, .inl a1), (2, .inl a2)] [.inl (1 : Int32)] (ma_put S 94 0 (.inl (1 : Int32))) Q
        refine zw_if0 hm_252 dX12_strong_36 (t := 41) rfl zc0_eq (fun hc => absurd hc (by decide)) (fun _ => ?_)
        refine zw_push hm_252 dX12_strong_39 (v := .inl (0 : Int32)) rfl ?_
        exact zw_iret hm_252 dX12_strong_40 h
      · intro hc
        rw [if_neg hc] at h
        refine zw_push hm_182 dX12_isNamed_4 (v := .inl a2) rfl ?_
        refine zw_push hm_182 dX12_isNamed_5 (v := .inl (16 : Int32)) rfl ?_
        refine zw_if2 hm_182 dX12_isNamed_7 (t := 14) rfl zc2_ge ?_ ?_
        · intro hc
          rw [if_pos hc] at h
          refine zw_push hm_182 dX12_isNamed_14 (v := .inl (0 : Int32)) rfl ?_
          refine zw_bret hm_182 dX12_isNamed_15 (by decide) ?_
          show ma_wp X d w 252 14 [(0, .inr (.inr (some 94))), (1, .inl a1), (2, .inl a2)] [.inl (0 : Int32), .inr (.inr (some 94))] S Q
          refine zw_if0 hm_252 dX12_strong_14 (t := 21) rfl zc0_ne (fun hc => absurd hc (by decide)) (fun _ => ?_)
          refine zw_push hm_252 dX12_strong_17 (v := .inl (1 : Int32)) rfl ?_
          refine zw_goto hm_252 dX12_strong_18 (t := 33) rfl ?_
          refine zw_cv hm_252 dX12_strong_33 v_12_110_12 hm_167 [.inl (1 : Int32)] [] rfl (zO_rt hS s_94 rfl) ⟨by omega, by omega⟩ rfl ?_
          show ma_wp X (d - 1) (w - 21) 167 0 [(0, .inr (.inr (some 94))), (1, .inl (1 : Int32))] [] S _
          refine zw_push hm_167 dX12_fails_0 (v := .inr (.inr (some 94))) rfl ?_
          refine zw_push hm_167 dX12_fails_1 (v := .inl (1 : Int32)) rfl ?_
          refine zw_pf hm_167 dX12_fails_2 (zO_is hS s_94) (zO_t hS s_94) p_12_1_12 zk_int ?_
          refine zw_push hm_167 dX12_fails_5 (v := .inl (1 : Int32)) rfl ?_
          refine zw_if0 hm_167 dX12_fails_6 (t := 13) rfl zc0_eq (fun hc => absurd hc (by decide)) (fun _ => ?_)
          refine zw_push hm_167 dX12_fails_9 (v := .inl (1 : Int32)) rfl ?_
          refine zw_goto hm_167 dX12_fails_10 (t := 14) rfl ?_
          refine zw_bret hm_167 dX12_fails_14 (by decide) ?_
          show ma_wp X d w 252 36 [(0, .inr (.inr (some 94))), (1, .inl a1), (2, .inl a2)] [.inl (1 : Int32)] (ma_put S 94 0 (.inl (1 : Int32))) Q
          refine zw_if0 hm_252 dX12_strong_36 (t := 41) rfl zc0_eq (fun hc => absurd hc (by decide)) (fun _ => ?_)
          refine zw_push hm_252 dX12_strong_39 (v := .inl (0 : Int32)) rfl ?_
          exact zw_iret hm_252 dX12_strong_40 h
        · intro hc
          rw [if_neg hc] at h
          refine zw_push hm_182 dX12_isNamed_10 (v := .inl (1 : Int32)) rfl ?_
          refine zw_goto hm_182 dX12_isNamed_11 (t := 15) rfl ?_
          refine zw_bret hm_182 dX12_isNamed_15 (by decide) ?_
          show ma_wp X d w 252 14 [(0, .inr (.inr (some 94))), (1, .inl a1), (2, .inl a2)] [.inl (1 : Int32), .inr (.inr (some 94))] S Q
          refine zw_if0 hm_252 dX12_strong_14 (t := 21) rfl zc0_ne (fun _ => ?_) (fun hc => absurd (by decide) hc)
          refine zw_push hm_252 dX12_strong_21 (v := .inr (.inr (some 94))) rfl ?_
          refine zw_gf hm_252 dX12_strong_22 (v := .inl (mI S 94 8)) (zO_is hS s_94) (zO_t hS s_94) rfl f_12_237_12 rfl ?_
          refine zw_if0 hm_252 dX12_strong_25 (t := 32) rfl zc0_ne ?_ ?_
          · intro hc
            rw [if_neg hc] at h
            refine zw_push hm_252 dX12_strong_32 (v := .inl (0 : Int32)) rfl ?_
            refine zw_cv hm_252 dX12_strong_33 v_12_110_12 hm_167 [.inl (0 : Int32)] [] rfl (zO_rt hS s_94 rfl) ⟨by omega, by omega⟩ rfl ?_
            show ma_wp X (d - 1) (w - 21) 167 0 [(0, .inr (.inr (some 94))), (1, .inl (0 : Int32))] [] S _
            refine zw_push hm_167 dX12_fails_0 (v := .inr (.inr (some 94))) rfl ?_
            refine zw_push hm_167 dX12_fails_1 (v := .inl (0 : Int32)) rfl ?_
            refine zw_pf hm_167 dX12_fails_2 (zO_is hS s_94) (zO_t hS s_94) p_12_1_12 zk_int ?_
            refine zw_push hm_167 dX12_fails_5 (v := .inl (0 : Int32)) rfl ?_
            refine zw_if0 hm_167 dX12_fails_6 (t := 13) rfl zc0_eq (fun _ => ?_) (fun hc => absurd (by decide) hc)
            refine zw_push hm_167 dX12_fails_13 (v := .inl (0 : Int32)) rfl ?_
            refine zw_bret hm_167 dX12_fails_14 (by decide) ?_
            show ma_wp X d w 252 36 [(0, .inr (.inr (some 94))), (1, .inl a1), (2, .inl a2)] [.inl (0 : Int32)] (ma_put S 94 0 (.inl (0 : Int32))) Q
            refine zw_if0 hm_252 dX12_strong_36 (t := 41) rfl zc0_eq (fun _ => ?_) (fun hc => absurd (by decide) hc)
            refine zw_push hm_252 dX12_strong_41 (v := .inr (.inr (some 94))) rfl ?_
            refine zw_gf hm_252 dX12_strong_42 (v := .inr (.inr (some 113))) (zO_is (zO_pi hS) s_94) (zO_t (zO_pi hS) s_94) rfl f_12_71_12 (zO_f (zO_pi hS) r_94_52) ?_
            refine zw_push hm_252 dX12_strong_45 (v := .inl a1) rfl ?_
            obtain ⟨hg, h⟩ := h
            refine zw_ia hm_252 dX12_strong_46 (zO_is (zO_pi hS) s_113) (zO_h (zO_pi hS) s_113) rfl hg ?_
            show ma_wp X d w 252 47 [(0, .inr (.inr (some 94))), (1, .inl a1), (2, .inl a2)] [.inl (mI S 113 a1.toNatClampNeg)] (ma_put S 94 0 (.inl (0 : Int32))) _
            refine zw_sto hm_252 dX12_strong_47 [(3, .inl (mI S 113 a1.toNatClampNeg)), (0, .inr (.inr (some 94))), (1, .inl a1), (2, .inl a2)] rfl rfl rfl ?_
            refine zw_push hm_252 dX12_strong_48 (v := .inl (mI S 113 a1.toNatClampNeg)) rfl ?_
            refine zw_if0 hm_252 dX12_strong_49 (t := 54) rfl zc0_ge ?_ ?_
            · intro hc
              rw [if_pos hc] at h
              refine zw_push hm_252 dX12_strong_54 (v := .inr (.inr (some 94))) rfl ?_
              refine zw_gf hm_252 dX12_strong_55 (v := .inl (mI S 94 58)) (zO_is (zO_pi hS) s_94) (zO_t (zO_pi hS) s_94) rfl f_12_270_12 rfl ?_
              refine zw_if0 hm_252 dX12_strong_58 (t := 66) rfl zc0_eq ?_ ?_
              · intro hc
                rw [if_pos hc] at h
                refine zw_push hm_252 dX12_strong_66 (v := .inr (.inr (some 94))) rfl ?_
                refine zw_push hm_252 dX12_strong_67 (v := .inl a2) rfl ?_
                refine zw_push hm_252 dX12_strong_68 (v := .inl (mI S 113 a1.toNatClampNeg)) rfl ?_
                exact zw_sub (ma_nd_of (ks := [0, 3]) rfl (by decide)) (ma_nd_of (ks := [3, 0, 1, 2]) rfl (by decide)) (ma_le_cons rfl (ma_le_cons rfl (ma_le_nil _))) h
              · intro hc
                rw [if_neg hc] at h
                refine zw_push hm_252 dX12_strong_61 (v := .inr (.inr (some 94))) rfl ?_
                refine zw_push hm_252 dX12_strong_62 (v := .inl (mI S 113 a1.toNatClampNeg)) rfl ?_
                exact zw_sub (ma_nd_of (ks := [0, 2, 3]) rfl (by decide)) (ma_nd_of (ks := [3, 0, 1, 2]) rfl (by decide)) (ma_le_cons rfl (ma_le_cons rfl (ma_le_cons rfl (ma_le_nil _)))) h
            · intro hc
              rw [if_neg hc] at h
              refine zw_push hm_252 dX12_strong_52 (v := .inl (-1 : Int32)) rfl ?_
              exact zw_iret hm_252 dX12_strong_53 h
          · intro hc
            rw [if_pos (Classical.not_not.mp hc)] at h
            refine zw_push hm_252 dX12_strong_28 (v := .inl (2 : Int32)) rfl ?_
            refine zw_goto hm_252 dX12_strong_29 (t := 33) rfl ?_
            refine zw_cv hm_252 dX12_strong_33 v_12_110_12 hm_167 [.inl (2 : Int32)] [] rfl (zO_rt hS s_94 rfl) ⟨by omega, by omega⟩ rfl ?_
            show ma_wp X (d - 1) (w - 21) 167 0 [(0, .inr (.inr (some 94))), (1, .inl (2 : Int32))] [] S _
            refine zw_push hm_167 dX12_fails_0 (v := .inr (.inr (some 94))) rfl ?_
            refine zw_push hm_167 dX12_fails_1 (v := .inl (2 : Int32)) rfl ?_
            refine zw_pf hm_167 dX12_fails_2 (zO_is hS s_94) (zO_t hS s_94) p_12_1_12 zk_int ?_
            refine zw_push hm_167 dX12_fails_5 (v := .inl (2 : Int32)) rfl ?_
            refine zw_if0 hm_167 dX12_fails_6 (t := 13) rfl zc0_eq (fun hc => absurd hc (by decide)) (fun _ => ?_)
            refine zw_push hm_167 dX12_fails_9 (v := .inl (1 : Int32)) rfl ?_
            refine zw_goto hm_167 dX12_fails_10 (t := 14) rfl ?_
            refine zw_bret hm_167 dX12_fails_14 (by decide) ?_
            show ma_wp X d w 252 36 [(0, .inr (.inr (some 94))), (1, .inl a1), (2, .inl a2)] [.inl (1 : Int32)] (ma_put S 94 0 (.inl (2 : Int32))) Q
            refine zw_if0 hm_252 dX12_strong_36 (t := 41) rfl zc0_eq (fun hc => absurd hc (by decide)) (fun _ => ?_)
            refine zw_push hm_252 dX12_strong_39 (v := .inl (0 : Int32)) rfl ?_
            exact zw_iret hm_252 dX12_strong_40 h
theorem g_156_0 {X : Nat × (Nat → Int32)} {d w : Nat} {S : ma_S} {Q : Option ma_V ⊕ Nat → ma_S → Prop} (a1 : Int32) (a2 : Int32) (hd : 7 ≤ d) (hw : 111 ≤ w) (hS : zO S) (h : ((mR S 64 11) = none → Q (.inr 3) (ma_bump S)) ∧ (∀ c1, (mR S 64 11) = some c1 → ma_wp X d w 156 7 [(0, .inr (.inr (some 64))), (2, .inl a2), (3, .inr (.inr (mR S 64 11)))] [.inl a1, .inr (.inr (some 64))] S Q)) : ma_wp X d w 156 0 [(0, .inr (.inr (some 64))), (1, .inl a1), (2, .inl a2)] [] S Q := by
  refine zw_push hm_156 dX11_hold_0 (v := .inr (.inr (some 64))) rfl ?_
  refine zw_cv hm_156 dX11_hold_1 v_11_119_11 hm_144 [] [] rfl (zO_rt hS s_64 rfl) ⟨by omega, by omega⟩ rfl ?_
  show ma_wp X (d - 1) (w - 20) 144 0 [(0, .inr (.inr (some 64)))] [] S _
  refine zw_push hm_144 dX11_needCollector_0 (v := .inr (.inr (some 64))) rfl ?_
  refine zw_gf hm_144 dX11_needCollector_1 (v := .inr (.inr (mR S 64 11))) (zO_is hS s_64) (zO_t hS s_64) rfl f_11_98_11 rfl ?_
  refine zw_ifnonnull hm_144 dX11_needCollector_4 (t := 15) rfl ?_ ?_
  · intro hc
    have h := h.1 hc
    exact zw_thr hm_144 dX11_needCollector_7 dX11_needCollector_10 dX11_needCollector_11 dX11_needCollector_14 x_11_85_87 n_11_85 (by omega) (by show 0 + 81 ≤ (w - 20); omega) ⟨by decide, h⟩
  · intro c1 hc
    have h := h.2 c1 hc
    refine zw_push hm_144 dX11_needCollector_15 (v := .inr (.inr (some 64))) rfl ?_
    refine zw_gf hm_144 dX11_needCollector_16 (v := .inr (.inr (mR S 64 11))) (zO_is hS s_64) (zO_t hS s_64) rfl f_11_98_11 rfl ?_
    refine zw_aret hm_144 dX11_needCollector_19 ?_
    show ma_wp X d w 156 4 [(0, .inr (.inr (some 64))), (1, .inl a1), (2, .inl a2)] [.inr (.inr (mR S 64 11))] S Q
    refine zw_sto hm_156 dX11_hold_4 [(3, .inr (.inr (mR S 64 11))), (0, .inr (.inr (some 64))), (1, .inl a1), (2, .inl a2)] rfl rfl rfl ?_
    refine zw_push hm_156 dX11_hold_5 (v := .inr (.inr (some 64))) rfl ?_
    refine zw_push hm_156 dX11_hold_6 (v := .inl a1) rfl ?_
    exact zw_sub (ma_nd_of (ks := [0, 2, 3]) rfl (by decide)) (ma_nd_of (ks := [3, 0, 1, 2]) rfl (by decide)) (ma_le_cons rfl (ma_le_cons rfl (ma_le_cons rfl (ma_le_nil _)))) h
theorem g_253_0 {X : Nat × (Nat → Int32)} {d w : Nat} {S : ma_S} {Q : Option ma_V ⊕ Nat → ma_S → Prop} (a1 : Int32) (a2 : Int32) (hd : 5 ≤ d) (hw : 109 ≤ w) (hS : zO S) (h : if (mI S 94 8) = 0 then (Q (.inl (some (.inl (0 : Int32)))) (ma_put S 94 0 (.inl (1 : Int32)))) else (ma_wp X d w 253 23 [(0, .inr (.inr (some 94))), (2, .inl a2)] [.inl a1, .inr (.inr (some 94))] (ma_put S 94 0 (.inl (0 : Int32))) Q)) : ma_wp X d w 253 0 [(0, .inr (.inr (some 94))), (1, .inl a1), (2, .inl a2)] [] S Q := by
  refine zw_push hm_253 dX12_hold_0 (v := .inr (.inr (some 94))) rfl ?_
  refine zw_push hm_253 dX12_hold_1 (v := .inr (.inr (some 94))) rfl ?_
  refine zw_gf hm_253 dX12_hold_2 (v := .inl (mI S 94 8)) (zO_is hS s_94) (zO_t hS s_94) rfl f_12_237_12 rfl ?_
  refine zw_if0 hm_253 dX12_hold_5 (t := 12) rfl zc0_ne ?_ ?_
  · intro hc
    rw [if_neg hc] at h
    refine zw_push hm_253 dX12_hold_12 (v := .inl (0 : Int32)) rfl ?_
    refine zw_cv hm_253 dX12_hold_13 v_12_110_12 hm_167 [.inl (0 : Int32)] [] rfl (zO_rt hS s_94 rfl) ⟨by omega, by omega⟩ rfl ?_
    show ma_wp X (d - 1) (w - 21) 167 0 [(0, .inr (.inr (some 94))), (1, .inl (0 : Int32))] [] S _
    refine zw_push hm_167 dX12_fails_0 (v := .inr (.inr (some 94))) rfl ?_
    refine zw_push hm_167 dX12_fails_1 (v := .inl (0 : Int32)) rfl ?_
    refine zw_pf hm_167 dX12_fails_2 (zO_is hS s_94) (zO_t hS s_94) p_12_1_12 zk_int ?_
    refine zw_push hm_167 dX12_fails_5 (v := .inl (0 : Int32)) rfl ?_
    refine zw_if0 hm_167 dX12_fails_6 (t := 13) rfl zc0_eq (fun _ => ?_) (fun hc => absurd (by decide) hc)
    refine zw_push hm_167 dX12_fails_13 (v := .inl (0 : Int32)) rfl ?_
    refine zw_bret hm_167 dX12_fails_14 (by decide) ?_
    show ma_wp X d w 253 16 [(0, .inr (.inr (some 94))), (1, .inl a1), (2, .inl a2)] [.inl (0 : Int32)] (ma_put S 94 0 (.inl (0 : Int32))) Q
    refine zw_if0 hm_253 dX12_hold_16 (t := 21) rfl zc0_eq (fun _ => ?_) (fun hc => absurd (by decide) hc)
    refine zw_push hm_253 dX12_hold_21 (v := .inr (.inr (some 94))) rfl ?_
    refine zw_push hm_253 dX12_hold_22 (v := .inl a1) rfl ?_
    exact zw_sub (ma_nd_of (ks := [0, 2]) rfl (by decide)) (ma_nd_of (ks := [0, 1, 2]) rfl (by decide)) (ma_le_cons rfl (ma_le_cons rfl (ma_le_nil _))) h
  · intro hc
    rw [if_pos (Classical.not_not.mp hc)] at h
    refine zw_push hm_253 dX12_hold_8 (v := .inl (1 : Int32)) rfl ?_
    refine zw_goto hm_253 dX12_hold_9 (t := 13) rfl ?_
    refine zw_cv hm_253 dX12_hold_13 v_12_110_12 hm_167 [.inl (1 : Int32)] [] rfl (zO_rt hS s_94 rfl) ⟨by omega, by omega⟩ rfl ?_
    show ma_wp X (d - 1) (w - 21) 167 0 [(0, .inr (.inr (some 94))), (1, .inl (1 : Int32))] [] S _
    refine zw_push hm_167 dX12_fails_0 (v := .inr (.inr (some 94))) rfl ?_
    refine zw_push hm_167 dX12_fails_1 (v := .inl (1 : Int32)) rfl ?_
    refine zw_pf hm_167 dX12_fails_2 (zO_is hS s_94) (zO_t hS s_94) p_12_1_12 zk_int ?_
    refine zw_push hm_167 dX12_fails_5 (v := .inl (1 : Int32)) rfl ?_
    refine zw_if0 hm_167 dX12_fails_6 (t := 13) rfl zc0_eq (fun hc => absurd hc (by decide)) (fun _ => ?_)
    refine zw_push hm_167 dX12_fails_9 (v := .inl (1 : Int32)) rfl ?_
    refine zw_goto hm_167 dX12_fails_10 (t := 14) rfl ?_
    refine zw_bret hm_167 dX12_fails_14 (by decide) ?_
    show ma_wp X d w 253 16 [(0, .inr (.inr (some 94))), (1, .inl a1), (2, .inl a2)] [.inl (1 : Int32)] (ma_put S 94 0 (.inl (1 : Int32))) Q
    refine zw_if0 hm_253 dX12_hold_16 (t := 21) rfl zc0_eq (fun hc => absurd hc (by decide)) (fun _ => ?_)
    refine zw_push hm_253 dX12_hold_19 (v := .inl (0 : Int32)) rfl ?_
    exact zw_iret hm_253 dX12_hold_20 h
theorem g_157_0 {X : Nat × (Nat → Int32)} {d w : Nat} {S : ma_S} {Q : Option ma_V ⊕ Nat → ma_S → Prop} (a1 : Int32) (hd : 7 ≤ d) (hw : 111 ≤ w) (hS : zO S) (h : ((mR S 64 11) = none → Q (.inr 3) (ma_bump S)) ∧ (∀ c1, (mR S 64 11) = some c1 → ma_wp X d w 157 7 [] [.inl a1, .inr (.inr (some 64))] S Q)) : ma_wp X d w 157 0 [(0, .inr (.inr (some 64))), (1, .inl a1)] [] S Q := by
  refine zw_push hm_157 dX11_wish_0 (v := .inr (.inr (some 64))) rfl ?_
  refine zw_cv hm_157 dX11_wish_1 v_11_119_11 hm_144 [] [] rfl (zO_rt hS s_64 rfl) ⟨by omega, by omega⟩ rfl ?_
  show ma_wp X (d - 1) (w - 20) 144 0 [(0, .inr (.inr (some 64)))] [] S _
  refine zw_push hm_144 dX11_needCollector_0 (v := .inr (.inr (some 64))) rfl ?_
  refine zw_gf hm_144 dX11_needCollector_1 (v := .inr (.inr (mR S 64 11))) (zO_is hS s_64) (zO_t hS s_64) rfl f_11_98_11 rfl ?_
  refine zw_ifnonnull hm_144 dX11_needCollector_4 (t := 15) rfl ?_ ?_
  · intro hc
    have h := h.1 hc
    exact zw_thr hm_144 dX11_needCollector_7 dX11_needCollector_10 dX11_needCollector_11 dX11_needCollector_14 x_11_85_87 n_11_85 (by omega) (by show 0 + 81 ≤ (w - 20); omega) ⟨by decide, h⟩
  · intro c1 hc
    have h := h.2 c1 hc
    refine zw_push hm_144 dX11_needCollector_15 (v := .inr (.inr (some 64))) rfl ?_
    refine zw_gf hm_144 dX11_needCollector_16 (v := .inr (.inr (mR S 64 11))) (zO_is hS s_64) (zO_t hS s_64) rfl f_11_98_11 rfl ?_
    refine zw_aret hm_144 dX11_needCollector_19 ?_
    show ma_wp X d w 157 4 [(0, .inr (.inr (some 64))), (1, .inl a1)] [.inr (.inr (mR S 64 11))] S Q
    refine zw_stk hm_157 dX11_wish_4 (st' := []) rfl rfl ?_
    refine zw_push hm_157 dX11_wish_5 (v := .inr (.inr (some 64))) rfl ?_
    refine zw_push hm_157 dX11_wish_6 (v := .inl a1) rfl ?_
    exact zw_sub (ma_nd_of (ks := []) rfl (by decide)) (ma_nd_of (ks := [0, 1]) rfl (by decide)) (ma_le_nil _) h
theorem g_254_0 {X : Nat × (Nat → Int32)} {d w : Nat} {S : ma_S} {Q : Option ma_V ⊕ Nat → ma_S → Prop} (a1 : Int32) (hd : 5 ≤ d) (hw : 109 ≤ w) (hS : zO S) (h : if (mI S 94 8) = 0 then (Q (.inl (some (.inl (0 : Int32)))) (ma_put S 94 0 (.inl (1 : Int32)))) else (ma_wp X d w 254 23 [(0, .inr (.inr (some 94)))] [.inl a1, .inr (.inr (some 94))] (ma_put S 94 0 (.inl (0 : Int32))) Q)) : ma_wp X d w 254 0 [(0, .inr (.inr (some 94))), (1, .inl a1)] [] S Q := by
  refine zw_push hm_254 dX12_wish_0 (v := .inr (.inr (some 94))) rfl ?_
  refine zw_push hm_254 dX12_wish_1 (v := .inr (.inr (some 94))) rfl ?_
  refine zw_gf hm_254 dX12_wish_2 (v := .inl (mI S 94 8)) (zO_is hS s_94) (zO_t hS s_94) rfl f_12_237_12 rfl ?_
  refine zw_if0 hm_254 dX12_wish_5 (t := 12) rfl zc0_ne ?_ ?_
  · intro hc
    rw [if_neg hc] at h
    refine zw_push hm_254 dX12_wish_12 (v := .inl (0 : Int32)) rfl ?_
    refine zw_cv hm_254 dX12_wish_13 v_12_110_12 hm_167 [.inl (0 : Int32)] [] rfl (zO_rt hS s_94 rfl) ⟨by omega, by omega⟩ rfl ?_
    show ma_wp X (d - 1) (w - 21) 167 0 [(0, .inr (.inr (some 94))), (1, .inl (0 : Int32))] [] S _
    refine zw_push hm_167 dX12_fails_0 (v := .inr (.inr (some 94))) rfl ?_
    refine zw_push hm_167 dX12_fails_1 (v := .inl (0 : Int32)) rfl ?_
    refine zw_pf hm_167 dX12_fails_2 (zO_is hS s_94) (zO_t hS s_94) p_12_1_12 zk_int ?_
    refine zw_push hm_167 dX12_fails_5 (v := .inl (0 : Int32)) rfl ?_
    refine zw_if0 hm_167 dX12_fails_6 (t := 13) rfl zc0_eq (fun _ => ?_) (fun hc => absurd (by decide) hc)
    refine zw_push hm_167 dX12_fails_13 (v := .inl (0 : Int32)) rfl ?_
    refine zw_bret hm_167 dX12_fails_14 (by decide) ?_
    show ma_wp X d w 254 16 [(0, .inr (.inr (some 94))), (1, .inl a1)] [.inl (0 : Int32)] (ma_put S 94 0 (.inl (0 : Int32))) Q
    refine zw_if0 hm_254 dX12_wish_16 (t := 21) rfl zc0_eq (fun _ => ?_) (fun hc => absurd (by decide) hc)
    refine zw_push hm_254 dX12_wish_21 (v := .inr (.inr (some 94))) rfl ?_
    refine zw_push hm_254 dX12_wish_22 (v := .inl a1) rfl ?_
    exact zw_sub (ma_nd_of (ks := [0]) rfl (by decide)) (ma_nd_of (ks := [0, 1]) rfl (by decide)) (ma_le_cons rfl (ma_le_nil _)) h
  · intro hc
    rw [if_pos (Classical.not_not.mp hc)] at h
    refine zw_push hm_254 dX12_wish_8 (v := .inl (1 : Int32)) rfl ?_
    refine zw_goto hm_254 dX12_wish_9 (t := 13) rfl ?_
    refine zw_cv hm_254 dX12_wish_13 v_12_110_12 hm_167 [.inl (1 : Int32)] [] rfl (zO_rt hS s_94 rfl) ⟨by omega, by omega⟩ rfl ?_
    show ma_wp X (d - 1) (w - 21) 167 0 [(0, .inr (.inr (some 94))), (1, .inl (1 : Int32))] [] S _
    refine zw_push hm_167 dX12_fails_0 (v := .inr (.inr (some 94))) rfl ?_
    refine zw_push hm_167 dX12_fails_1 (v := .inl (1 : Int32)) rfl ?_
    refine zw_pf hm_167 dX12_fails_2 (zO_is hS s_94) (zO_t hS s_94) p_12_1_12 zk_int ?_
    refine zw_push hm_167 dX12_fails_5 (v := .inl (1 : Int32)) rfl ?_
    refine zw_if0 hm_167 dX12_fails_6 (t := 13) rfl zc0_eq (fun hc => absurd hc (by decide)) (fun _ => ?_)
    refine zw_push hm_167 dX12_fails_9 (v := .inl (1 : Int32)) rfl ?_
    refine zw_goto hm_167 dX12_fails_10 (t := 14) rfl ?_
    refine zw_bret hm_167 dX12_fails_14 (by decide) ?_
    show ma_wp X d w 254 16 [(0, .inr (.inr (some 94))), (1, .inl a1)] [.inl (1 : Int32)] (ma_put S 94 0 (.inl (1 : Int32))) Q
    refine zw_if0 hm_254 dX12_wish_16 (t := 21) rfl zc0_eq (fun hc => absurd hc (by decide)) (fun _ => ?_)
    refine zw_push hm_254 dX12_wish_19 (v := .inl (0 : Int32)) rfl ?_
    exact zw_iret hm_254 dX12_wish_20 h
theorem g_158_0 {X : Nat × (Nat → Int32)} {d w : Nat} {S : ma_S} {Q : Option ma_V ⊕ Nat → ma_S → Prop} (a1 : Int32) (hd : 7 ≤ d) (hw : 134 ≤ w) (hS : zO S) (h : if a1 < 0 then (Q (.inr 2) (ma_bump S)) else (if (16 : Int32) ≤ a1 then (Q (.inr 2) (ma_bump S)) else (((mR S 64 11) = none → Q (.inr 3) (ma_bump S)) ∧ (∀ c1, (mR S 64 11) = some c1 → ma_wp X d w 158 24 [(0, .inr (.inr (some 64))), (1, .inl a1), (2, .inr (.inr (mR S 64 11)))] [.inr (.inr (some 69))] S Q)))) : ma_wp X d w 158 0 [(0, .inr (.inr (some 64))), (1, .inl a1)] [] S Q := by
  refine zw_push hm_158 dX11_granted_0 (v := .inl a1) rfl ?_
  refine zw_cs hm_158 dX11_granted_1 pn_11_109 sl_11_109 hm_142 [.inl a1] [] rfl ⟨by omega, by omega⟩ rfl ?_
  show ma_wp X (d - 1) (w - 20) 142 0 [(0, .inl a1)] [] S _
  refine zw_push hm_142 dX11_isSlot_0 (v := .inl a1) rfl ?_
  refine zw_if0 hm_142 dX11_isSlot_1 (t := 14) rfl zc0_lt ?_ ?_
  · intro hc
    rw [if_pos hc] at h
    refine zw_push hm_142 dX11_isSlot_14 (v := .inl (0 : Int32)) rfl ?_
    refine zw_bret hm_142 dX11_isSlot_15 (by decide) ?_
    show ma_wp X d w 158 4 [(0, .inr (.inr (some 64))), (1, .inl a1)] [.inl (0 : Int32)] S Q
    refine zw_if0 hm_158 dX11_granted_4 (t := 15) rfl zc0_ne (fun hc => absurd hc (by decide)) (fun _ => ?_)
    exact zw_thr hm_158 dX11_granted_7 dX11_granted_10 dX11_granted_11 dX11_granted_14 x_11_79_81 n_11_79 (by omega) (by show 0 + 81 ≤ w; omega) h
  · intro hc
    rw [if_neg hc] at h
    refine zw_push hm_142 dX11_isSlot_4 (v := .inl a1) rfl ?_
    refine zw_push hm_142 dX11_isSlot_5 (v := .inl (16 : Int32)) rfl ?_
    refine zw_if2 hm_142 dX11_isSlot_7 (t := 14) rfl zc2_ge ?_ ?_
    · intro hc
      rw [if_pos hc] at h
      refine zw_push hm_142 dX11_isSlot_14 (v := .inl (0 : Int32)) rfl ?_
      refine zw_bret hm_142 dX11_isSlot_15 (by decide) ?_
      show ma_wp X d w 158 4 [(0, .inr (.inr (some 64))), (1, .inl a1)] [.inl (0 : Int32)] S Q
      refine zw_if0 hm_158 dX11_granted_4 (t := 15) rfl zc0_ne (fun hc => absurd hc (by decide)) (fun _ => ?_)
      exact zw_thr hm_158 dX11_granted_7 dX11_granted_10 dX11_granted_11 dX11_granted_14 x_11_79_81 n_11_79 (by omega) (by show 0 + 81 ≤ w; omega) h
    · intro hc
      rw [if_neg hc] at h
      refine zw_push hm_142 dX11_isSlot_10 (v := .inl (1 : Int32)) rfl ?_
      refine zw_goto hm_142 dX11_isSlot_11 (t := 15) rfl ?_
      refine zw_bret hm_142 dX11_isSlot_15 (by decide) ?_
      show ma_wp X d w 158 4 [(0, .inr (.inr (some 64))), (1, .inl a1)] [.inl (1 : Int32)] S Q
      refine zw_if0 hm_158 dX11_granted_4 (t := 15) rfl zc0_ne (fun _ => ?_) (fun hc => absurd (by decide) hc)
      refine zw_push hm_158 dX11_granted_15 (v := .inr (.inr (some 64))) rfl ?_
      refine zw_cv hm_158 dX11_granted_16 v_11_119_11 hm_144 [] [] rfl (zO_rt hS s_64 rfl) ⟨by omega, by omega⟩ rfl ?_
      show ma_wp X (d - 1) (w - 20) 144 0 [(0, .inr (.inr (some 64)))] [] S _
      refine zw_push hm_144 dX11_needCollector_0 (v := .inr (.inr (some 64))) rfl ?_
      refine zw_gf hm_144 dX11_needCollector_1 (v := .inr (.inr (mR S 64 11))) (zO_is hS s_64) (zO_t hS s_64) rfl f_11_98_11 rfl ?_
      refine zw_ifnonnull hm_144 dX11_needCollector_4 (t := 15) rfl ?_ ?_
      · intro hc
        have h := h.1 hc
        exact zw_thr hm_144 dX11_needCollector_7 dX11_needCollector_10 dX11_needCollector_11 dX11_needCollector_14 x_11_85_87 n_11_85 (by omega) (by show 0 + 81 ≤ (w - 20); omega) ⟨by decide, h⟩
      · intro c1 hc
        have h := h.2 c1 hc
        refine zw_push hm_144 dX11_needCollector_15 (v := .inr (.inr (some 64))) rfl ?_
        refine zw_gf hm_144 dX11_needCollector_16 (v := .inr (.inr (mR S 64 11))) (zO_is hS s_64) (zO_t hS s_64) rfl f_11_98_11 rfl ?_
        refine zw_aret hm_144 dX11_needCollector_19 ?_
        show ma_wp X d w 158 19 [(0, .inr (.inr (some 64))), (1, .inl a1)] [.inr (.inr (mR S 64 11))] S Q
        refine zw_sto hm_158 dX11_granted_19 [(2, .inr (.inr (mR S 64 11))), (0, .inr (.inr (some 64))), (1, .inl a1)] rfl rfl rfl ?_
        refine zw_push hm_158 dX11_granted_20 (v := .inr (.inr (some 64))) rfl ?_
        refine zw_gf hm_158 dX11_granted_21 (v := .inr (.inr (some 69))) (zO_is hS s_64) (zO_t hS s_64) rfl f_11_26_11 (zO_f hS r_64_8) ?_
        exact zw_sub (ma_nd_of (ks := [0, 1, 2]) rfl (by decide)) (ma_nd_of (ks := [2, 0, 1]) rfl (by decide)) (ma_le_cons rfl (ma_le_cons rfl (ma_le_cons rfl (ma_le_nil _)))) h
theorem g_255_0 {X : Nat × (Nat → Int32)} {d w : Nat} {S : ma_S} {Q : Option ma_V ⊕ Nat → ma_S → Prop} (a1 : Int32) (hd : 5 ≤ d) (hw : 111 ≤ w) (hS : zO S) (h : if a1 < 0 then (Q (.inl (some (.inl (0 : Int32)))) (ma_put S 94 0 (.inl (1 : Int32)))) else (if (16 : Int32) ≤ a1 then (Q (.inl (some (.inl (0 : Int32)))) (ma_put S 94 0 (.inl (1 : Int32)))) else (if (mI S 94 8) = 0 then (Q (.inl (some (.inl (0 : Int32)))) (ma_put S 94 0 (.inl (2 : Int32)))) else (if (mI S 94 55) = 0 then (Q (.inl (some (.inl (-1 : Int32)))) (ma_put S 94 0 (.inl (0 : Int32)))) else (ma_wp X d w 255 61 [(0, .inr (.inr (some 94))), (1, .inl a1), (2, .inl (mI S 114 0)), (3, .inl (0 : Int32))] [] (ma_put (ma_put S 94 0 (.inl (0 : Int32))) 94 55 (.inl ((mI S 94 55) - (1 : Int32)))) Q))))) : ma_wp X d w 255 0 [(0, .inr (.inr (some 94))), (1, .inl a1)] [] S Q := by
  refine zw_push hm_255 dX12_granted_0 (v := .inr (.inr (some 94))) rfl ?_
  refine zw_push hm_255 dX12_granted_1 (v := .inr (.inr (some 94))) rfl ?_
  refine zw_push hm_255 dX12_granted_2 (v := .inl a1) rfl ?_
  refine zw_cv hm_255 dX12_granted_3 v_12_493_12 hm_182 [.inl a1] [.inr (.inr (some 94))] rfl (zO_rt hS s_94 rfl) ⟨by omega, by omega⟩ rfl ?_
  show ma_wp X (d - 1) (w - 21) 182 0 [(0, .inr (.inr (some 94))), (1, .inl a1)] [] S _
  refine zw_push hm_182 dX12_isNamed_0 (v := .inl a1) rfl ?_
  refine zw_if0 hm_182 dX12_isNamed_1 (t := 14) rfl zc0_lt ?_ ?_
  · intro hc
    rw [if_pos hc] at h
    refine zw_push hm_182 dX12_isNamed_14 (v := .inl (0 : Int32)) rfl ?_
    refine zw_bret hm_182 dX12_isNamed_15 (by decide) ?_
    show ma_wp X d w 255 6 [(0, .inr (.inr (some 94))), (1, .inl a1)] [.inl (0 : Int32), .inr (.inr (some 94))] S Q
    refine zw_if0 hm_255 dX12_granted_6 (t := 13) rfl zc0_ne (fun hc => absurd hc (by decide)) (fun _ => ?_)
    refine zw_push hm_255 dX12_granted_9 (v := .inl (1 : Int32)) rfl ?_
    refine zw_goto hm_255 dX12_granted_10 (t := 25) rfl ?_
    refine zw_cv hm_255 dX12_granted_25 v_12_110_12 hm_167 [.inl (1 : Int32)] [] rfl (zO_rt hS s_94 rfl) ⟨by omega, by omega⟩ rfl ?_
    show ma_wp X (d - 1) (w - 21) 167 0 [(0, .inr (.inr (some 94))), (1, .inl (1 : Int32))] [] S _
    refine zw_push hm_167 dX12_fails_0 (v := .inr (.inr (some 94))) rfl ?_
    refine zw_push hm_167 dX12_fails_1 (v := .inl (1 : Int32)) rfl ?_
    refine zw_pf hm_167 dX12_fails_2 (zO_is hS s_94) (zO_t hS s_94) p_12_1_12 zk_int ?_
    refine zw_push hm_167 dX12_fails_5 (v := .inl (1 : Int32)) rfl ?_
    refine zw_if0 hm_167 dX12_fails_6 (t := 13) rfl zc0_eq (fun hc => absurd hc (by decide)) (fun _ => ?_)
    refine zw_push hm_167 dX12_fails_9 (v := .inl (1 : Int32)) rfl ?_
    refine zw_goto hm_167 dX12_fails_10 (t := 14) rfl ?_
    refine zw_bret hm_167 dX12_fails_14 (by decide) ?_
    show ma_wp X d w 255 28 [(0, .inr (.inr (some 94))), (1, .inl a1)] [.inl (1 : Int32)] (ma_put S 94 0 (.inl (1 : Int32))) Q
    refine zw_if0 hm_255 dX12_granted_28 (t := 33) rfl zc0_eq (fun hc => absurd hc (by decide)) (fun _ => ?_)
    refine zw_push hm_255 dX12_granted_31 (v := .inl (0 : Int32)) rfl ?_
    exact zw_iret hm_255 dX12_granted_32 h
  · intro hc
    rw [if_neg hc] at h
    refine zw_push hm_182 dX12_isNamed_4 (v := .inl a1) rfl ?_
    refine zw_push hm_182 dX12_isNamed_5 (v := .inl (16 : Int32)) rfl ?_
    refine zw_if2 hm_182 dX12_isNamed_7 (t := 14) rfl zc2_ge ?_ ?_
    · intro hc
      rw [if_pos hc] at h
      refine zw_push hm_182 dX12_isNamed_14 (v := .inl (0 : Int32)) rfl ?_
      refine zw_bret hm_182 dX12_isNamed_15 (by decide) ?_
      show ma_wp X d w 255 6 [(0, .inr (.inr (some 94))), (1, .inl a1)] [.inl (0 : Int32), .inr (.inr (some 94))] S Q
      refine zw_if0 hm_255 dX12_granted_6 (t := 13) rfl zc0_ne (fun hc => absurd hc (by decide)) (fun _ => ?_)
      refine zw_push hm_255 dX12_granted_9 (v := .inl (1 : Int32)) rfl ?_
      refine zw_goto hm_255 dX12_granted_10 (t := 25) rfl ?_
      refine zw_cv hm_255 dX12_granted_25 v_12_110_12 hm_167 [.inl (1 : Int32)] [] rfl (zO_rt hS s_94 rfl) ⟨by omega, by omega⟩ rfl ?_
      show ma_wp X (d - 1) (w - 21) 167 0 [(0, .inr (.inr (some 94))), (1, .inl (1 : Int32))] [] S _
      refine zw_push hm_167 dX12_fails_0 (v := .inr (.inr (some 94))) rfl ?_
      refine zw_push hm_167 dX12_fails_1 (v := .inl (1 : Int32)) rfl ?_
      refine zw_pf hm_167 dX12_fails_2 (zO_is hS s_94) (zO_t hS s_94) p_12_1_12 zk_int ?_
      refine zw_push hm_167 dX12_fails_5 (v := .inl (1 : Int32)) rfl ?_
      refine zw_if0 hm_167 dX12_fails_6 (t := 13) rfl zc0_eq (fun hc => absurd hc (by decide)) (fun _ => ?_)
      refine zw_push hm_167 dX12_fails_9 (v := .inl (1 : Int32)) rfl ?_
      refine zw_goto hm_167 dX12_fails_10 (t := 14) rfl ?_
      refine zw_bret hm_167 dX12_fails_14 (by decide) ?_
      show ma_wp X d w 255 28 [(0, .inr (.inr (some 94))), (1, .inl a1)] [.inl (1 : Int32)] (ma_put S 94 0 (.inl (1 : Int32))) Q
      refine zw_if0 hm_255 dX12_granted_28 (t := 33) rfl zc0_eq (fun hc => absurd hc (by decide)) (fun _ => ?_)
      refine zw_push hm_255 dX12_granted_31 (v := .inl (0 : Int32)) rfl ?_
      exact zw_iret hm_255 dX12_granted_32 h
    · intro hc
      rw [if_neg hc] at h
      refine zw_push hm_182 dX12_isNamed_10 (v := .inl (1 : Int32)) rfl ?_
      refine zw_goto hm_182 dX12_isNamed_11 (t := 15) rfl ?_
      refine zw_bret hm_182 dX12_isNamed_15 (by decide) ?_
      show ma_wp X d w 255 6 [(0, .inr (.inr (some 94))), (1, .inl a1)] [.inl (1 : Int32), .inr (.inr (some 94))] S Q
      refine zw_if0 hm_255 dX12_granted_6 (t := 13) rfl zc0_ne (fun _ => ?_) (fun hc => absurd (by decide) hc)
      refine zw_push hm_255 dX12_granted_13 (v := .inr (.inr (some 94))) rfl ?_
      refine zw_gf hm_255 dX12_granted_14 (v := .inl (mI S 94 8)) (zO_is hS s_94) (zO_t hS s_94) rfl f_12_237_12 rfl ?_
      refine zw_if0 hm_255 dX12_granted_17 (t := 24) rfl zc0_ne ?_ ?_
      · intro hc
        rw [if_neg hc] at h
        refine zw_push hm_255 dX12_granted_24 (v := .inl (0 : Int32)) rfl ?_
        refine zw_cv hm_255 dX12_granted_25 v_12_110_12 hm_167 [.inl (0 : Int32)] [] rfl (zO_rt hS s_94 rfl) ⟨by omega, by omega⟩ rfl ?_
        show ma_wp X (d - 1) (w - 21) 167 0 [(0, .inr (.inr (some 94))), (1, .inl (0 : Int32))] [] S _
        refine zw_push hm_167 dX12_fails_0 (v := .inr (.inr (some 94))) rfl ?_
        refine zw_push hm_167 dX12_fails_1 (v := .inl (0 : Int32)) rfl ?_
        refine zw_pf hm_167 dX12_fails_2 (zO_is hS s_94) (zO_t hS s_94) p_12_1_12 zk_int ?_
        refine zw_push hm_167 dX12_fails_5 (v := .inl (0 : Int32)) rfl ?_
        refine zw_if0 hm_167 dX12_fails_6 (t := 13) rfl zc0_eq (fun _ => ?_) (fun hc => absurd (by decide) hc)
        refine zw_push hm_167 dX12_fails_13 (v := .inl (0 : Int32)) rfl ?_
        refine zw_bret hm_167 dX12_fails_14 (by decide) ?_
        show ma_wp X d w 255 28 [(0, .inr (.inr (some 94))), (1, .inl a1)] [.inl (0 : Int32)] (ma_put S 94 0 (.inl (0 : Int32))) Q
        refine zw_if0 hm_255 dX12_granted_28 (t := 33) rfl zc0_eq (fun _ => ?_) (fun hc => absurd (by decide) hc)
        refine zw_push hm_255 dX12_granted_33 (v := .inr (.inr (some 94))) rfl ?_
        refine zw_gf hm_255 dX12_granted_34 (v := .inl (mI S 94 55)) (zO_is (zO_pi hS) s_94) (zO_t (zO_pi hS) s_94) rfl f_12_261_12 rfl ?_
        refine zw_if0 hm_255 dX12_granted_37 (t := 42) rfl zc0_ne ?_ ?_
        · intro hc
          rw [if_neg hc] at h
          refine zw_push hm_255 dX12_granted_42 (v := .inr (.inr (some 94))) rfl ?_
          refine zw_gf hm_255 dX12_granted_43 (v := .inr (.inr (some 114))) (zO_is (zO_pi hS) s_94) (zO_t (zO_pi hS) s_94) rfl f_12_74_12 (zO_f (zO_pi hS) r_94_53) ?_
          refine zw_push hm_255 dX12_granted_46 (v := .inl (0 : Int32)) rfl ?_
          refine zw_ia hm_255 dX12_granted_47 (zO_is (zO_pi hS) s_114) (zO_h (zO_pi hS) s_114) rfl ⟨by decide, by decide⟩ ?_
          show ma_wp X d w 255 48 [(0, .inr (.inr (some 94))), (1, .inl a1)] [.inl (mI S 114 0)] (ma_put S 94 0 (.inl (0 : Int32))) _
          refine zw_sto hm_255 dX12_granted_48 [(2, .inl (mI S 114 0)), (0, .inr (.inr (some 94))), (1, .inl a1)] rfl rfl rfl ?_
          refine zw_push hm_255 dX12_granted_49 (v := .inr (.inr (some 94))) rfl ?_
          refine zw_stk hm_255 dX12_granted_50 (st' := [.inr (.inr (some 94)), .inr (.inr (some 94))]) rfl rfl ?_
          refine zw_gf hm_255 dX12_granted_51 (v := .inl (mI S 94 55)) (zO_is (zO_pi hS) s_94) (zO_t (zO_pi hS) s_94) rfl f_12_261_12 rfl ?_
          refine zw_push hm_255 dX12_granted_54 (v := .inl (1 : Int32)) rfl ?_
          refine zw_stk hm_255 dX12_granted_55 (st' := [.inl ((mI S 94 55) - (1 : Int32)), .inr (.inr (some 94))]) rfl rfl ?_
          refine zw_pf hm_255 dX12_granted_56 (zO_is (zO_pi hS) s_94) (zO_t (zO_pi hS) s_94) p_12_261_12 zk_int ?_
          refine zw_push hm_255 dX12_granted_59 (v := .inl (0 : Int32)) rfl ?_
          refine zw_sto hm_255 dX12_granted_60 [(3, .inl (0 : Int32)), (2, .inl (mI S 114 0)), (0, .inr (.inr (some 94))), (1, .inl a1)] rfl rfl rfl ?_
          exact zw_sub (ma_nd_of (ks := [0, 1, 2, 3]) rfl (by decide)) (ma_nd_of (ks := [3, 2, 0, 1]) rfl (by decide)) (ma_le_cons rfl (ma_le_cons rfl (ma_le_cons rfl (ma_le_cons rfl (ma_le_nil _))))) h
        · intro hc
          rw [if_pos (Classical.not_not.mp hc)] at h
          refine zw_push hm_255 dX12_granted_40 (v := .inl (-1 : Int32)) rfl ?_
          exact zw_iret hm_255 dX12_granted_41 h
      · intro hc
        rw [if_pos (Classical.not_not.mp hc)] at h
        refine zw_push hm_255 dX12_granted_20 (v := .inl (2 : Int32)) rfl ?_
        refine zw_goto hm_255 dX12_granted_21 (t := 25) rfl ?_
        refine zw_cv hm_255 dX12_granted_25 v_12_110_12 hm_167 [.inl (2 : Int32)] [] rfl (zO_rt hS s_94 rfl) ⟨by omega, by omega⟩ rfl ?_
        show ma_wp X (d - 1) (w - 21) 167 0 [(0, .inr (.inr (some 94))), (1, .inl (2 : Int32))] [] S _
        refine zw_push hm_167 dX12_fails_0 (v := .inr (.inr (some 94))) rfl ?_
        refine zw_push hm_167 dX12_fails_1 (v := .inl (2 : Int32)) rfl ?_
        refine zw_pf hm_167 dX12_fails_2 (zO_is hS s_94) (zO_t hS s_94) p_12_1_12 zk_int ?_
        refine zw_push hm_167 dX12_fails_5 (v := .inl (2 : Int32)) rfl ?_
        refine zw_if0 hm_167 dX12_fails_6 (t := 13) rfl zc0_eq (fun hc => absurd hc (by decide)) (fun _ => ?_)
        refine zw_push hm_167 dX12_fails_9 (v := .inl (1 : Int32)) rfl ?_
        refine zw_goto hm_167 dX12_fails_10 (t := 14) rfl ?_
        refine zw_bret hm_167 dX12_fails_14 (by decide) ?_
        show ma_wp X d w 255 28 [(0, .inr (.inr (some 94))), (1, .inl a1)] [.inl (1 : Int32)] (ma_put S 94 0 (.inl (2 : Int32))) Q
        refine zw_if0 hm_255 dX12_granted_28 (t := 33) rfl zc0_eq (fun hc => absurd hc (by decide)) (fun _ => ?_)
        refine zw_push hm_255 dX12_granted_31 (v := .inl (0 : Int32)) rfl ?_
        exact zw_iret hm_255 dX12_granted_32 h
theorem g_159_0 {X : Nat × (Nat → Int32)} {d w : Nat} {S : ma_S} {Q : Option ma_V ⊕ Nat → ma_S → Prop}  (hd : 7 ≤ d) (hw : 179 ≤ w) (hS : zO S) (h : ((mR S 64 11) = none → Q (.inr 3) (ma_bump S)) ∧ (∀ c1, (mR S 64 11) = some c1 → ma_wp X d w 159 4 [] [.inr (.inr (mR S 64 11))] S Q)) : ma_wp X d w 159 0 [(0, .inr (.inr (some 64)))] [] S Q := by
  refine zw_push hm_159 dX11_clean_0 (v := .inr (.inr (some 64))) rfl ?_
  refine zw_cv hm_159 dX11_clean_1 v_11_119_11 hm_144 [] [] rfl (zO_rt hS s_64 rfl) ⟨by omega, by omega⟩ rfl ?_
  show ma_wp X (d - 1) (w - 20) 144 0 [(0, .inr (.inr (some 64)))] [] S _
  refine zw_push hm_144 dX11_needCollector_0 (v := .inr (.inr (some 64))) rfl ?_
  refine zw_gf hm_144 dX11_needCollector_1 (v := .inr (.inr (mR S 64 11))) (zO_is hS s_64) (zO_t hS s_64) rfl f_11_98_11 rfl ?_
  refine zw_ifnonnull hm_144 dX11_needCollector_4 (t := 15) rfl ?_ ?_
  · intro hc
    have h := h.1 hc
    exact zw_thr hm_144 dX11_needCollector_7 dX11_needCollector_10 dX11_needCollector_11 dX11_needCollector_14 x_11_85_87 n_11_85 (by omega) (by show 0 + 81 ≤ (w - 20); omega) ⟨by decide, h⟩
  · intro c1 hc
    have h := h.2 c1 hc
    refine zw_push hm_144 dX11_needCollector_15 (v := .inr (.inr (some 64))) rfl ?_
    refine zw_gf hm_144 dX11_needCollector_16 (v := .inr (.inr (mR S 64 11))) (zO_is hS s_64) (zO_t hS s_64) rfl f_11_98_11 rfl ?_
    refine zw_aret hm_144 dX11_needCollector_19 ?_
    show ma_wp X d w 159 4 [(0, .inr (.inr (some 64)))] [.inr (.inr (mR S 64 11))] S Q
    exact zw_sub (ma_nd_of (ks := []) rfl (by decide)) (ma_nd_of (ks := [0]) rfl (by decide)) (ma_le_nil _) h
theorem g_256_0 {X : Nat × (Nat → Int32)} {d w : Nat} {S : ma_S} {Q : Option ma_V ⊕ Nat → ma_S → Prop}  (hd : 7 ≤ d) (hw : 152 ≤ w) (hS : zO S) (h : if (mI S 94 8) = 0 then (Q (.inl (some (.inl (0 : Int32)))) (ma_put S 94 0 (.inl (1 : Int32)))) else (if (mI S 94 10) = (1 : Int32) then (ma_wp X d w 256 65 [] [.inr (.inr (some 94))] (ma_put S 94 0 (.inl (0 : Int32))) Q) else (if (mI S 94 10) = (2 : Int32) then (ma_wp X d w 256 70 [] [.inr (.inr (some 94))] (ma_put S 94 0 (.inl (0 : Int32))) Q) else (if (mI S 94 10) = (3 : Int32) then (ma_wp X d w 256 75 [(0, .inr (.inr (some 94)))] [.inr (.inr (some 94))] (ma_put S 94 0 (.inl (0 : Int32))) Q) else (if (mI S 94 10) = (4 : Int32) then (ma_wp X d w 256 108 [] [.inr (.inr (some 94))] (ma_put S 94 0 (.inl (0 : Int32))) Q) else (if (mI S 94 10) = (5 : Int32) then (if (mI S 94 58) = 0 then (ma_wp X d w 256 94 [(0, .inr (.inr (some 94)))] [.inr (.inr (some 94))] (ma_put S 94 0 (.inl (0 : Int32))) Q) else (ma_wp X d w 256 98 [] [.inr (.inr (some 94))] (ma_put S 94 0 (.inl (0 : Int32))) Q)) else (if (mI S 94 10) = (6 : Int32) then (ma_wp X d w 256 103 [] [.inr (.inr (some 94))] (ma_put S 94 0 (.inl (0 : Int32))) Q) else (ma_wp X d w 256 108 [] [.inr (.inr (some 94))] (ma_put S 94 0 (.inl (0 : Int32))) Q)))))))) : ma_wp X d w 256 0 [(0, .inr (.inr (some 94)))] [] S Q := by
  refine zw_push hm_256 dX12_clean_0 (v := .inr (.inr (some 94))) rfl ?_
  refine zw_push hm_256 dX12_clean_1 (v := .inr (.inr (some 94))) rfl ?_
  refine zw_gf hm_256 dX12_clean_2 (v := .inl (mI S 94 8)) (zO_is hS s_94) (zO_t hS s_94) rfl f_12_237_12 rfl ?_
  refine zw_if0 hm_256 dX12_clean_5 (t := 12) rfl zc0_ne ?_ ?_
  · intro hc
    rw [if_neg hc] at h
    refine zw_push hm_256 dX12_clean_12 (v := .inl (0 : Int32)) rfl ?_
    refine zw_cv hm_256 dX12_clean_13 v_12_110_12 hm_167 [.inl (0 : Int32)] [] rfl (zO_rt hS s_94 rfl) ⟨by omega, by omega⟩ rfl ?_
    show ma_wp X (d - 1) (w - 21) 167 0 [(0, .inr (.inr (some 94))), (1, .inl (0 : Int32))] [] S _
    refine zw_push hm_167 dX12_fails_0 (v := .inr (.inr (some 94))) rfl ?_
    refine zw_push hm_167 dX12_fails_1 (v := .inl (0 : Int32)) rfl ?_
    refine zw_pf hm_167 dX12_fails_2 (zO_is hS s_94) (zO_t hS s_94) p_12_1_12 zk_int ?_
    refine zw_push hm_167 dX12_fails_5 (v := .inl (0 : Int32)) rfl ?_
    refine zw_if0 hm_167 dX12_fails_6 (t := 13) rfl zc0_eq (fun _ => ?_) (fun hc => absurd (by decide) hc)
    refine zw_push hm_167 dX12_fails_13 (v := .inl (0 : Int32)) rfl ?_
    refine zw_bret hm_167 dX12_fails_14 (by decide) ?_
    show ma_wp X d w 256 16 [(0, .inr (.inr (some 94)))] [.inl (0 : Int32)] (ma_put S 94 0 (.inl (0 : Int32))) Q
    refine zw_if0 hm_256 dX12_clean_16 (t := 21) rfl zc0_eq (fun _ => ?_) (fun hc => absurd (by decide) hc)
    refine zw_push hm_256 dX12_clean_21 (v := .inr (.inr (some 94))) rfl ?_
    refine zw_gf hm_256 dX12_clean_22 (v := .inl (mI S 94 10)) (zO_is (zO_pi hS) s_94) (zO_t (zO_pi hS) s_94) rfl f_12_199_12 rfl ?_
    by_cases hc0 : (mI S 94 10) = (1 : Int32)
    · rw [if_pos hc0] at h
      refine zw_jmp hm_256 dX12_clean_25 (t := 64) (st' := []) rfl rfl rfl (ma_jmp_tab (by rw [hc0]; decide +kernel)) ?_
      refine zw_push hm_256 dX12_clean_64 (v := .inr (.inr (some 94))) rfl ?_
      exact zw_sub (ma_nd_of (ks := []) rfl (by decide)) (ma_nd_of (ks := [0]) rfl (by decide)) (ma_le_nil _) h
    rw [if_neg hc0] at h
    by_cases hc1 : (mI S 94 10) = (2 : Int32)
    · rw [if_pos hc1] at h
      refine zw_jmp hm_256 dX12_clean_25 (t := 69) (st' := []) rfl rfl rfl (ma_jmp_tab (by rw [hc1]; decide +kernel)) ?_
      refine zw_push hm_256 dX12_clean_69 (v := .inr (.inr (some 94))) rfl ?_
      exact zw_sub (ma_nd_of (ks := []) rfl (by decide)) (ma_nd_of (ks := [0]) rfl (by decide)) (ma_le_nil _) h
    rw [if_neg hc1] at h
    by_cases hc2 : (mI S 94 10) = (3 : Int32)
    · rw [if_pos hc2] at h
      refine zw_jmp hm_256 dX12_clean_25 (t := 74) (st' := []) rfl rfl rfl (ma_jmp_tab (by rw [hc2]; decide +kernel)) ?_
      refine zw_push hm_256 dX12_clean_74 (v := .inr (.inr (some 94))) rfl ?_
      exact h
    rw [if_neg hc2] at h
    by_cases hc3 : (mI S 94 10) = (4 : Int32)
    · rw [if_pos hc3] at h
      refine zw_jmp hm_256 dX12_clean_25 (t := 107) (st' := []) rfl rfl rfl (ma_jmp_tab (by rw [hc3]; decide +kernel)) ?_
      refine zw_push hm_256 dX12_clean_107 (v := .inr (.inr (some 94))) rfl ?_
      exact zw_sub (ma_nd_of (ks := []) rfl (by decide)) (ma_nd_of (ks := [0]) rfl (by decide)) (ma_le_nil _) h
    rw [if_neg hc3] at h
    by_cases hc4 : (mI S 94 10) = (5 : Int32)
    · rw [if_pos hc4] at h
      refine zw_jmp hm_256 dX12_clean_25 (t := 86) (st' := []) rfl rfl rfl (ma_jmp_tab (by rw [hc4]; decide +kernel)) ?_
      refine zw_push hm_256 dX12_clean_86 (v := .inr (.inr (some 94))) rfl ?_
      refine zw_gf hm_256 dX12_clean_87 (v := .inl (mI S 94 58)) (zO_is (zO_pi hS) s_94) (zO_t (zO_pi hS) s_94) rfl f_12_270_12 rfl ?_
      refine zw_if0 hm_256 dX12_clean_90 (t := 97) rfl zc0_ne ?_ ?_
      · intro hc
        rw [if_neg hc] at h
        refine zw_push hm_256 dX12_clean_97 (v := .inr (.inr (some 94))) rfl ?_
        exact zw_sub (ma_nd_of (ks := []) rfl (by decide)) (ma_nd_of (ks := [0]) rfl (by decide)) (ma_le_nil _) h
      · intro hc
        rw [if_pos (Classical.not_not.mp hc)] at h
        refine zw_push hm_256 dX12_clean_93 (v := .inr (.inr (some 94))) rfl ?_
        exact h
    rw [if_neg hc4] at h
    by_cases hc5 : (mI S 94 10) = (6 : Int32)
    · rw [if_pos hc5] at h
      refine zw_jmp hm_256 dX12_clean_25 (t := 102) (st' := []) rfl rfl rfl (ma_jmp_tab (by rw [hc5]; decide +kernel)) ?_
      refine zw_push hm_256 dX12_clean_102 (v := .inr (.inr (some 94))) rfl ?_
      exact zw_sub (ma_nd_of (ks := []) rfl (by decide)) (ma_nd_of (ks := [0]) rfl (by decide)) (ma_le_nil _) h
    rw [if_neg hc5] at h
    refine zw_jmp hm_256 dX12_clean_25 (t := 107) (st' := []) rfl rfl rfl (ma_jmp_def (m := 6) (by decide) (fun j hj => by
        have hj2 : j = 0 ∨ j = 1 ∨ j = 2 ∨ j = 3 ∨ j = 4 ∨ j = 5 := by omega
        rcases hj2 with rfl | rfl | rfl | rfl | rfl | rfl
        · exact hc0
        · exact hc1
        · exact hc2
        · exact hc3
        · exact hc4
        · exact hc5
        ) rfl) ?_
    refine zw_push hm_256 dX12_clean_107 (v := .inr (.inr (some 94))) rfl ?_
    exact zw_sub (ma_nd_of (ks := []) rfl (by decide)) (ma_nd_of (ks := [0]) rfl (by decide)) (ma_le_nil _) h
  · intro hc
    rw [if_pos (Classical.not_not.mp hc)] at h
    refine zw_push hm_256 dX12_clean_8 (v := .inl (1 : Int32)) rfl ?_
    refine zw_goto hm_256 dX12_clean_9 (t := 13) rfl ?_
    refine zw_cv hm_256 dX12_clean_13 v_12_110_12 hm_167 [.inl (1 : Int32)] [] rfl (zO_rt hS s_94 rfl) ⟨by omega, by omega⟩ rfl ?_
    show ma_wp X (d - 1) (w - 21) 167 0 [(0, .inr (.inr (some 94))), (1, .inl (1 : Int32))] [] S _
    refine zw_push hm_167 dX12_fails_0 (v := .inr (.inr (some 94))) rfl ?_
    refine zw_push hm_167 dX12_fails_1 (v := .inl (1 : Int32)) rfl ?_
    refine zw_pf hm_167 dX12_fails_2 (zO_is hS s_94) (zO_t hS s_94) p_12_1_12 zk_int ?_
    refine zw_push hm_167 dX12_fails_5 (v := .inl (1 : Int32)) rfl ?_
    refine zw_if0 hm_167 dX12_fails_6 (t := 13) rfl zc0_eq (fun hc => absurd hc (by decide)) (fun _ => ?_)
    refine zw_push hm_167 dX12_fails_9 (v := .inl (1 : Int32)) rfl ?_
    refine zw_goto hm_167 dX12_fails_10 (t := 14) rfl ?_
    refine zw_bret hm_167 dX12_fails_14 (by decide) ?_
    show ma_wp X d w 256 16 [(0, .inr (.inr (some 94)))] [.inl (1 : Int32)] (ma_put S 94 0 (.inl (1 : Int32))) Q
    refine zw_if0 hm_256 dX12_clean_16 (t := 21) rfl zc0_eq (fun hc => absurd hc (by decide)) (fun _ => ?_)
    refine zw_push hm_256 dX12_clean_19 (v := .inl (0 : Int32)) rfl ?_
    exact zw_iret hm_256 dX12_clean_20 h
theorem g_160_0 {X : Nat × (Nat → Int32)} {d w : Nat} {S : ma_S} {Q : Option ma_V ⊕ Nat → ma_S → Prop} (a1 : Int32) (hd : 7 ≤ d) (hw : 114 ≤ w) (hS : zO S) (h : if a1 < 0 then (Q (.inr 2) (ma_bump S)) else (if a1 ≤ (1000 : Int32) then (((mR S 64 11) = none → Q (.inr 3) (ma_bump S)) ∧ (∀ c1, (mR S 64 11) = some c1 → ma_wp X d w 160 25 [(1, .inl a1), (3, .inr (.inr (mR S 64 11)))] [.inr (.inr (mR S 64 11))] S Q)) else (Q (.inr 2) (ma_bump S)))) : ma_wp X d w 160 0 [(0, .inr (.inr (some 64))), (1, .inl a1)] [] S Q := by
  refine zw_push hm_160 dX11_step_0 (v := .inl a1) rfl ?_
  refine zw_if0 hm_160 dX11_step_1 (t := 11) rfl zc0_lt ?_ ?_
  · intro hc
    rw [if_pos hc] at h
    exact zw_thr hm_160 dX11_step_11 dX11_step_14 dX11_step_15 dX11_step_18 x_11_79_81 n_11_79 (by omega) (by show 0 + 81 ≤ w; omega) h
  · intro hc
    rw [if_neg hc] at h
    refine zw_push hm_160 dX11_step_4 (v := .inl a1) rfl ?_
    refine zw_push hm_160 dX11_step_5 (v := .inl (1000 : Int32)) rfl ?_
    refine zw_if2 hm_160 dX11_step_8 (t := 19) rfl zc2_le ?_ ?_
    · intro hc
      rw [if_pos hc] at h
      refine zw_push hm_160 dX11_step_19 (v := .inr (.inr (some 64))) rfl ?_
      refine zw_cv hm_160 dX11_step_20 v_11_119_11 hm_144 [] [] rfl (zO_rt hS s_64 rfl) ⟨by omega, by omega⟩ rfl ?_
      show ma_wp X (d - 1) (w - 20) 144 0 [(0, .inr (.inr (some 64)))] [] S _
      refine zw_push hm_144 dX11_needCollector_0 (v := .inr (.inr (some 64))) rfl ?_
      refine zw_gf hm_144 dX11_needCollector_1 (v := .inr (.inr (mR S 64 11))) (zO_is hS s_64) (zO_t hS s_64) rfl f_11_98_11 rfl ?_
      refine zw_ifnonnull hm_144 dX11_needCollector_4 (t := 15) rfl ?_ ?_
      · intro hc
        have h := h.1 hc
        exact zw_thr hm_144 dX11_needCollector_7 dX11_needCollector_10 dX11_needCollector_11 dX11_needCollector_14 x_11_85_87 n_11_85 (by omega) (by show 0 + 81 ≤ (w - 20); omega) ⟨by decide, h⟩
      · intro c1 hc
        have h := h.2 c1 hc
        refine zw_push hm_144 dX11_needCollector_15 (v := .inr (.inr (some 64))) rfl ?_
        refine zw_gf hm_144 dX11_needCollector_16 (v := .inr (.inr (mR S 64 11))) (zO_is hS s_64) (zO_t hS s_64) rfl f_11_98_11 rfl ?_
        refine zw_aret hm_144 dX11_needCollector_19 ?_
        show ma_wp X d w 160 23 [(0, .inr (.inr (some 64))), (1, .inl a1)] [.inr (.inr (mR S 64 11))] S Q
        refine zw_sto hm_160 dX11_step_23 [(3, .inr (.inr (mR S 64 11))), (0, .inr (.inr (some 64))), (1, .inl a1)] rfl rfl rfl ?_
        refine zw_push hm_160 dX11_step_24 (v := .inr (.inr (mR S 64 11))) rfl ?_
        exact zw_sub (ma_nd_of (ks := [1, 3]) rfl (by decide)) (ma_nd_of (ks := [3, 0, 1]) rfl (by decide)) (ma_le_cons rfl (ma_le_cons rfl (ma_le_nil _))) h
    · intro hc
      rw [if_neg hc] at h
      exact zw_thr hm_160 dX11_step_11 dX11_step_14 dX11_step_15 dX11_step_18 x_11_79_81 n_11_79 (by omega) (by show 0 + 81 ≤ w; omega) h
theorem g_257_0 {X : Nat × (Nat → Int32)} {d w : Nat} {S : ma_S} {Q : Option ma_V ⊕ Nat → ma_S → Prop} (a1 : Int32) (hd : 5 ≤ d) (hw : 109 ≤ w) (hS : zO S) (h : if a1 < 0 then (Q (.inl (some (.inl (0 : Int32)))) (ma_put S 94 0 (.inl (1 : Int32)))) else (if a1 ≤ (1000 : Int32) then (if (mI S 94 8) = 0 then (Q (.inl (some (.inl (0 : Int32)))) (ma_put S 94 0 (.inl (2 : Int32)))) else (if (mI S 94 10) = (5 : Int32) then (if (mI S 94 58) = 0 then (Q (.inl (some (.inl (0 : Int32)))) (ma_put S 94 0 (.inl (0 : Int32)))) else (ma_wp X d w 257 59 [(0, .inr (.inr (some 94)))] [.inl a1, .inr (.inr (some 94))] (ma_put S 94 0 (.inl (0 : Int32))) Q)) else (Q (.inl (some (.inl (0 : Int32)))) (ma_put S 94 0 (.inl (3 : Int32)))))) else (Q (.inl (some (.inl (0 : Int32)))) (ma_put S 94 0 (.inl (1 : Int32)))))) : ma_wp X d w 257 0 [(0, .inr (.inr (some 94))), (1, .inl a1)] [] S Q := by
  refine zw_push hm_257 dX12_step_0 (v := .inr (.inr (some 94))) rfl ?_
  refine zw_push hm_257 dX12_step_1 (v := .inl a1) rfl ?_
  refine zw_if0 hm_257 dX12_step_2 (t := 12) rfl zc0_lt ?_ ?_
  · intro hc
    rw [if_pos hc] at h
    refine zw_push hm_257 dX12_step_12 (v := .inl (1 : Int32)) rfl ?_
    refine zw_goto hm_257 dX12_step_13 (t := 40) rfl ?_
    refine zw_cv hm_257 dX12_step_40 v_12_110_12 hm_167 [.inl (1 : Int32)] [] rfl (zO_rt hS s_94 rfl) ⟨by omega, by omega⟩ rfl ?_
    show ma_wp X (d - 1) (w - 21) 167 0 [(0, .inr (.inr (some 94))), (1, .inl (1 : Int32))] [] S _
    refine zw_push hm_167 dX12_fails_0 (v := .inr (.inr (some 94))) rfl ?_
    refine zw_push hm_167 dX12_fails_1 (v := .inl (1 : Int32)) rfl ?_
    refine zw_pf hm_167 dX12_fails_2 (zO_is hS s_94) (zO_t hS s_94) p_12_1_12 zk_int ?_
    refine zw_push hm_167 dX12_fails_5 (v := .inl (1 : Int32)) rfl ?_
    refine zw_if0 hm_167 dX12_fails_6 (t := 13) rfl zc0_eq (fun hc => absurd hc (by decide)) (fun _ => ?_)
    refine zw_push hm_167 dX12_fails_9 (v := .inl (1 : Int32)) rfl ?_
    refine zw_goto hm_167 dX12_fails_10 (t := 14) rfl ?_
    refine zw_bret hm_167 dX12_fails_14 (by decide) ?_
    show ma_wp X d w 257 43 [(0, .inr (.inr (some 94))), (1, .inl a1)] [.inl (1 : Int32)] (ma_put S 94 0 (.inl (1 : Int32))) Q
    refine zw_if0 hm_257 dX12_step_43 (t := 48) rfl zc0_eq (fun hc => absurd hc (by decide)) (fun _ => ?_)
    refine zw_push hm_257 dX12_step_46 (v := .inl (0 : Int32)) rfl ?_
    exact zw_iret hm_257 dX12_step_47 h
  · intro hc
    rw [if_neg hc] at h
    refine zw_push hm_257 dX12_step_5 (v := .inl a1) rfl ?_
    refine zw_push hm_257 dX12_step_6 (v := .inl (1000 : Int32)) rfl ?_
    refine zw_if2 hm_257 dX12_step_9 (t := 16) rfl zc2_le ?_ ?_
    · intro hc
      rw [if_pos hc] at h
      refine zw_push hm_257 dX12_step_16 (v := .inr (.inr (some 94))) rfl ?_
      refine zw_gf hm_257 dX12_step_17 (v := .inl (mI S 94 8)) (zO_is hS s_94) (zO_t hS s_94) rfl f_12_237_12 rfl ?_
      refine zw_if0 hm_257 dX12_step_20 (t := 27) rfl zc0_ne ?_ ?_
      · intro hc
        rw [if_neg hc] at h
        refine zw_push hm_257 dX12_step_27 (v := .inr (.inr (some 94))) rfl ?_
        refine zw_gf hm_257 dX12_step_28 (v := .inl (mI S 94 10)) (zO_is hS s_94) (zO_t hS s_94) rfl f_12_199_12 rfl ?_
        refine zw_push hm_257 dX12_step_31 (v := .inl (5 : Int32)) rfl ?_
        refine zw_if2 hm_257 dX12_step_32 (t := 39) rfl zc2_eq ?_ ?_
        · intro hc
          rw [if_pos hc] at h
          refine zw_push hm_257 dX12_step_39 (v := .inl (0 : Int32)) rfl ?_
          refine zw_cv hm_257 dX12_step_40 v_12_110_12 hm_167 [.inl (0 : Int32)] [] rfl (zO_rt hS s_94 rfl) ⟨by omega, by omega⟩ rfl ?_
          show ma_wp X (d - 1) (w - 21) 167 0 [(0, .inr (.inr (some 94))), (1, .inl (0 : Int32))] [] S _
          refine zw_push hm_167 dX12_fails_0 (v := .inr (.inr (some 94))) rfl ?_
          refine zw_push hm_167 dX12_fails_1 (v := .inl (0 : Int32)) rfl ?_
          refine zw_pf hm_167 dX12_fails_2 (zO_is hS s_94) (zO_t hS s_94) p_12_1_12 zk_int ?_
          refine zw_push hm_167 dX12_fails_5 (v := .inl (0 : Int32)) rfl ?_
          refine zw_if0 hm_167 dX12_fails_6 (t := 13) rfl zc0_eq (fun _ => ?_) (fun hc => absurd (by decide) hc)
          refine zw_push hm_167 dX12_fails_13 (v := .inl (0 : Int32)) rfl ?_
          refine zw_bret hm_167 dX12_fails_14 (by decide) ?_
          show ma_wp X d w 257 43 [(0, .inr (.inr (some 94))), (1, .inl a1)] [.inl (0 : Int32)] (ma_put S 94 0 (.inl (0 : Int32))) Q
          refine zw_if0 hm_257 dX12_step_43 (t := 48) rfl zc0_eq (fun _ => ?_) (fun hc => absurd (by decide) hc)
          refine zw_push hm_257 dX12_step_48 (v := .inr (.inr (some 94))) rfl ?_
          refine zw_gf hm_257 dX12_step_49 (v := .inl (mI S 94 58)) (zO_is (zO_pi hS) s_94) (zO_t (zO_pi hS) s_94) rfl f_12_270_12 rfl ?_
          refine zw_if0 hm_257 dX12_step_52 (t := 57) rfl zc0_ne ?_ ?_
          · intro hc
            rw [if_neg hc] at h
            refine zw_push hm_257 dX12_step_57 (v := .inr (.inr (some 94))) rfl ?_
            refine zw_push hm_257 dX12_step_58 (v := .inl a1) rfl ?_
            exact zw_sub (ma_nd_of (ks := [0]) rfl (by decide)) (ma_nd_of (ks := [0, 1]) rfl (by decide)) (ma_le_cons rfl (ma_le_nil _)) h
          · intro hc
            rw [if_pos (Classical.not_not.mp hc)] at h
            refine zw_push hm_257 dX12_step_55 (v := .inl (0 : Int32)) rfl ?_
            exact zw_iret hm_257 dX12_step_56 h
        · intro hc
          rw [if_neg hc] at h
          refine zw_push hm_257 dX12_step_35 (v := .inl (3 : Int32)) rfl ?_
          refine zw_goto hm_257 dX12_step_36 (t := 40) rfl ?_
          refine zw_cv hm_257 dX12_step_40 v_12_110_12 hm_167 [.inl (3 : Int32)] [] rfl (zO_rt hS s_94 rfl) ⟨by omega, by omega⟩ rfl ?_
          show ma_wp X (d - 1) (w - 21) 167 0 [(0, .inr (.inr (some 94))), (1, .inl (3 : Int32))] [] S _
          refine zw_push hm_167 dX12_fails_0 (v := .inr (.inr (some 94))) rfl ?_
          refine zw_push hm_167 dX12_fails_1 (v := .inl (3 : Int32)) rfl ?_
          refine zw_pf hm_167 dX12_fails_2 (zO_is hS s_94) (zO_t hS s_94) p_12_1_12 zk_int ?_
          refine zw_push hm_167 dX12_fails_5 (v := .inl (3 : Int32)) rfl ?_
          refine zw_if0 hm_167 dX12_fails_6 (t := 13) rfl zc0_eq (fun hc => absurd hc (by decide)) (fun _ => ?_)
          refine zw_push hm_167 dX12_fails_9 (v := .inl (1 : Int32)) rfl ?_
          refine zw_goto hm_167 dX12_fails_10 (t := 14) rfl ?_
          refine zw_bret hm_167 dX12_fails_14 (by decide) ?_
          show ma_wp X d w 257 43 [(0, .inr (.inr (some 94))), (1, .inl a1)] [.inl (1 : Int32)] (ma_put S 94 0 (.inl (3 : Int32))) Q
          refine zw_if0 hm_257 dX12_step_43 (t := 48) rfl zc0_eq (fun hc => absurd hc (by decide)) (fun _ => ?_)
          refine zw_push hm_257 dX12_step_46 (v := .inl (0 : Int32)) rfl ?_
          exact zw_iret hm_257 dX12_step_47 h
      · intro hc
        rw [if_pos (Classical.not_not.mp hc)] at h
        refine zw_push hm_257 dX12_step_23 (v := .inl (2 : Int32)) rfl ?_
        refine zw_goto hm_257 dX12_step_24 (t := 40) rfl ?_
        refine zw_cv hm_257 dX12_step_40 v_12_110_12 hm_167 [.inl (2 : Int32)] [] rfl (zO_rt hS s_94 rfl) ⟨by omega, by omega⟩ rfl ?_
        show ma_wp X (d - 1) (w - 21) 167 0 [(0, .inr (.inr (some 94))), (1, .inl (2 : Int32))] [] S _
        refine zw_push hm_167 dX12_fails_0 (v := .inr (.inr (some 94))) rfl ?_
        refine zw_push hm_167 dX12_fails_1 (v := .inl (2 : Int32)) rfl ?_
        refine zw_pf hm_167 dX12_fails_2 (zO_is hS s_94) (zO_t hS s_94) p_12_1_12 zk_int ?_
        refine zw_push hm_167 dX12_fails_5 (v := .inl (2 : Int32)) rfl ?_
        refine zw_if0 hm_167 dX12_fails_6 (t := 13) rfl zc0_eq (fun hc => absurd hc (by decide)) (fun _ => ?_)
        refine zw_push hm_167 dX12_fails_9 (v := .inl (1 : Int32)) rfl ?_
        refine zw_goto hm_167 dX12_fails_10 (t := 14) rfl ?_
        refine zw_bret hm_167 dX12_fails_14 (by decide) ?_
        show ma_wp X d w 257 43 [(0, .inr (.inr (some 94))), (1, .inl a1)] [.inl (1 : Int32)] (ma_put S 94 0 (.inl (2 : Int32))) Q
        refine zw_if0 hm_257 dX12_step_43 (t := 48) rfl zc0_eq (fun hc => absurd hc (by decide)) (fun _ => ?_)
        refine zw_push hm_257 dX12_step_46 (v := .inl (0 : Int32)) rfl ?_
        exact zw_iret hm_257 dX12_step_47 h
    · intro hc
      rw [if_neg hc] at h
      refine zw_push hm_257 dX12_step_12 (v := .inl (1 : Int32)) rfl ?_
      refine zw_goto hm_257 dX12_step_13 (t := 40) rfl ?_
      refine zw_cv hm_257 dX12_step_40 v_12_110_12 hm_167 [.inl (1 : Int32)] [] rfl (zO_rt hS s_94 rfl) ⟨by omega, by omega⟩ rfl ?_
      show ma_wp X (d - 1) (w - 21) 167 0 [(0, .inr (.inr (some 94))), (1, .inl (1 : Int32))] [] S _
      refine zw_push hm_167 dX12_fails_0 (v := .inr (.inr (some 94))) rfl ?_
      refine zw_push hm_167 dX12_fails_1 (v := .inl (1 : Int32)) rfl ?_
      refine zw_pf hm_167 dX12_fails_2 (zO_is hS s_94) (zO_t hS s_94) p_12_1_12 zk_int ?_
      refine zw_push hm_167 dX12_fails_5 (v := .inl (1 : Int32)) rfl ?_
      refine zw_if0 hm_167 dX12_fails_6 (t := 13) rfl zc0_eq (fun hc => absurd hc (by decide)) (fun _ => ?_)
      refine zw_push hm_167 dX12_fails_9 (v := .inl (1 : Int32)) rfl ?_
      refine zw_goto hm_167 dX12_fails_10 (t := 14) rfl ?_
      refine zw_bret hm_167 dX12_fails_14 (by decide) ?_
      show ma_wp X d w 257 43 [(0, .inr (.inr (some 94))), (1, .inl a1)] [.inl (1 : Int32)] (ma_put S 94 0 (.inl (1 : Int32))) Q
      refine zw_if0 hm_257 dX12_step_43 (t := 48) rfl zc0_eq (fun hc => absurd hc (by decide)) (fun _ => ?_)
      refine zw_push hm_257 dX12_step_46 (v := .inl (0 : Int32)) rfl ?_
      exact zw_iret hm_257 dX12_step_47 h
theorem g_161_0 {X : Nat × (Nat → Int32)} {d w : Nat} {S : ma_S} {Q : Option ma_V ⊕ Nat → ma_S → Prop} (a1 : Int32) (a2 : Int32) (hd : 7 ≤ d) (hw : 111 ≤ w) (hS : zO S) (h : if a2 < 0 then (Q (.inr 2) (ma_bump S)) else (if a2 ≤ (7 : Int32) then (((mR S 64 11) = none → Q (.inr 3) (ma_bump S)) ∧ (∀ c1, (mR S 64 11) = some c1 → ma_wp X d w 161 25 [(2, .inl a2), (3, .inr (.inr (mR S 64 11)))] [.inl a1, .inr (.inr (some 64))] S Q)) else (Q (.inr 2) (ma_bump S)))) : ma_wp X d w 161 0 [(0, .inr (.inr (some 64))), (1, .inl a1), (2, .inl a2)] [] S Q := by
  refine zw_push hm_161 dX11_about_0 (v := .inl a2) rfl ?_
  refine zw_if0 hm_161 dX11_about_1 (t := 10) rfl zc0_lt ?_ ?_
  · intro hc
    rw [if_pos hc] at h
    exact zw_thr hm_161 dX11_about_10 dX11_about_13 dX11_about_14 dX11_about_17 x_11_79_81 n_11_79 (by omega) (by show 0 + 81 ≤ w; omega) h
  · intro hc
    rw [if_neg hc] at h
    refine zw_push hm_161 dX11_about_4 (v := .inl a2) rfl ?_
    refine zw_push hm_161 dX11_about_5 (v := .inl (7 : Int32)) rfl ?_
    refine zw_if2 hm_161 dX11_about_7 (t := 18) rfl zc2_le ?_ ?_
    · intro hc
      rw [if_pos hc] at h
      refine zw_push hm_161 dX11_about_18 (v := .inr (.inr (some 64))) rfl ?_
      refine zw_cv hm_161 dX11_about_19 v_11_119_11 hm_144 [] [] rfl (zO_rt hS s_64 rfl) ⟨by omega, by omega⟩ rfl ?_
      show ma_wp X (d - 1) (w - 20) 144 0 [(0, .inr (.inr (some 64)))] [] S _
      refine zw_push hm_144 dX11_needCollector_0 (v := .inr (.inr (some 64))) rfl ?_
      refine zw_gf hm_144 dX11_needCollector_1 (v := .inr (.inr (mR S 64 11))) (zO_is hS s_64) (zO_t hS s_64) rfl f_11_98_11 rfl ?_
      refine zw_ifnonnull hm_144 dX11_needCollector_4 (t := 15) rfl ?_ ?_
      · intro hc
        have h := h.1 hc
        exact zw_thr hm_144 dX11_needCollector_7 dX11_needCollector_10 dX11_needCollector_11 dX11_needCollector_14 x_11_85_87 n_11_85 (by omega) (by show 0 + 81 ≤ (w - 20); omega) ⟨by decide, h⟩
      · intro c1 hc
        have h := h.2 c1 hc
        refine zw_push hm_144 dX11_needCollector_15 (v := .inr (.inr (some 64))) rfl ?_
        refine zw_gf hm_144 dX11_needCollector_16 (v := .inr (.inr (mR S 64 11))) (zO_is hS s_64) (zO_t hS s_64) rfl f_11_98_11 rfl ?_
        refine zw_aret hm_144 dX11_needCollector_19 ?_
        show ma_wp X d w 161 22 [(0, .inr (.inr (some 64))), (1, .inl a1), (2, .inl a2)] [.inr (.inr (mR S 64 11))] S Q
        refine zw_sto hm_161 dX11_about_22 [(3, .inr (.inr (mR S 64 11))), (0, .inr (.inr (some 64))), (1, .inl a1), (2, .inl a2)] rfl rfl rfl ?_
        refine zw_push hm_161 dX11_about_23 (v := .inr (.inr (some 64))) rfl ?_
        refine zw_push hm_161 dX11_about_24 (v := .inl a1) rfl ?_
        exact zw_sub (ma_nd_of (ks := [2, 3]) rfl (by decide)) (ma_nd_of (ks := [3, 0, 1, 2]) rfl (by decide)) (ma_le_cons rfl (ma_le_cons rfl (ma_le_nil _))) h
    · intro hc
      rw [if_neg hc] at h
      exact zw_thr hm_161 dX11_about_10 dX11_about_13 dX11_about_14 dX11_about_17 x_11_79_81 n_11_79 (by omega) (by show 0 + 81 ≤ w; omega) h
theorem g_258_0 {X : Nat × (Nat → Int32)} {d w : Nat} {S : ma_S} {Q : Option ma_V ⊕ Nat → ma_S → Prop} (a1 : Int32) (a2 : Int32) (hd : 5 ≤ d) (hw : 109 ≤ w) (hS : zO S) (h : if a2 < 0 then (Q (.inl (some (.inl (0 : Int32)))) (ma_put S 94 0 (.inl (1 : Int32)))) else (if a2 ≤ (7 : Int32) then (if (mI S 94 8) = 0 then (Q (.inl (some (.inl (0 : Int32)))) (ma_put S 94 0 (.inl (2 : Int32)))) else (ma_wp X d w 258 37 [(0, .inr (.inr (some 94))), (2, .inl a2)] [.inl a1, .inr (.inr (some 94))] (ma_put S 94 0 (.inl (0 : Int32))) Q)) else (Q (.inl (some (.inl (0 : Int32)))) (ma_put S 94 0 (.inl (1 : Int32)))))) : ma_wp X d w 258 0 [(0, .inr (.inr (some 94))), (1, .inl a1), (2, .inl a2)] [] S Q := by
  refine zw_push hm_258 dX12_about_0 (v := .inr (.inr (some 94))) rfl ?_
  refine zw_push hm_258 dX12_about_1 (v := .inl a2) rfl ?_
  refine zw_if0 hm_258 dX12_about_2 (t := 11) rfl zc0_lt ?_ ?_
  · intro hc
    rw [if_pos hc] at h
    refine zw_push hm_258 dX12_about_11 (v := .inl (1 : Int32)) rfl ?_
    refine zw_goto hm_258 dX12_about_12 (t := 27) rfl ?_
    refine zw_cv hm_258 dX12_about_27 v_12_110_12 hm_167 [.inl (1 : Int32)] [] rfl (zO_rt hS s_94 rfl) ⟨by omega, by omega⟩ rfl ?_
    show ma_wp X (d - 1) (w - 21) 167 0 [(0, .inr (.inr (some 94))), (1, .inl (1 : Int32))] [] S _
    refine zw_push hm_167 dX12_fails_0 (v := .inr (.inr (some 94))) rfl ?_
    refine zw_push hm_167 dX12_fails_1 (v := .inl (1 : Int32)) rfl ?_
    refine zw_pf hm_167 dX12_fails_2 (zO_is hS s_94) (zO_t hS s_94) p_12_1_12 zk_int ?_
    refine zw_push hm_167 dX12_fails_5 (v := .inl (1 : Int32)) rfl ?_
    refine zw_if0 hm_167 dX12_fails_6 (t := 13) rfl zc0_eq (fun hc => absurd hc (by decide)) (fun _ => ?_)
    refine zw_push hm_167 dX12_fails_9 (v := .inl (1 : Int32)) rfl ?_
    refine zw_goto hm_167 dX12_fails_10 (t := 14) rfl ?_
    refine zw_bret hm_167 dX12_fails_14 (by decide) ?_
    show ma_wp X d w 258 30 [(0, .inr (.inr (some 94))), (1, .inl a1), (2, .inl a2)] [.inl (1 : Int32)] (ma_put S 94 0 (.inl (1 : Int32))) Q
    refine zw_if0 hm_258 dX12_about_30 (t := 35) rfl zc0_eq (fun hc => absurd hc (by decide)) (fun _ => ?_)
    refine zw_push hm_258 dX12_about_33 (v := .inl (0 : Int32)) rfl ?_
    exact zw_iret hm_258 dX12_about_34 h
  · intro hc
    rw [if_neg hc] at h
    refine zw_push hm_258 dX12_about_5 (v := .inl a2) rfl ?_
    refine zw_push hm_258 dX12_about_6 (v := .inl (7 : Int32)) rfl ?_
    refine zw_if2 hm_258 dX12_about_8 (t := 15) rfl zc2_le ?_ ?_
    · intro hc
      rw [if_pos hc] at h
      refine zw_push hm_258 dX12_about_15 (v := .inr (.inr (some 94))) rfl ?_
      refine zw_gf hm_258 dX12_about_16 (v := .inl (mI S 94 8)) (zO_is hS s_94) (zO_t hS s_94) rfl f_12_237_12 rfl ?_
      refine zw_if0 hm_258 dX12_about_19 (t := 26) rfl zc0_ne ?_ ?_
      · intro hc
        rw [if_neg hc] at h
        refine zw_push hm_258 dX12_about_26 (v := .inl (0 : Int32)) rfl ?_
        refine zw_cv hm_258 dX12_about_27 v_12_110_12 hm_167 [.inl (0 : Int32)] [] rfl (zO_rt hS s_94 rfl) ⟨by omega, by omega⟩ rfl ?_
        show ma_wp X (d - 1) (w - 21) 167 0 [(0, .inr (.inr (some 94))), (1, .inl (0 : Int32))] [] S _
        refine zw_push hm_167 dX12_fails_0 (v := .inr (.inr (some 94))) rfl ?_
        refine zw_push hm_167 dX12_fails_1 (v := .inl (0 : Int32)) rfl ?_
        refine zw_pf hm_167 dX12_fails_2 (zO_is hS s_94) (zO_t hS s_94) p_12_1_12 zk_int ?_
        refine zw_push hm_167 dX12_fails_5 (v := .inl (0 : Int32)) rfl ?_
        refine zw_if0 hm_167 dX12_fails_6 (t := 13) rfl zc0_eq (fun _ => ?_) (fun hc => absurd (by decide) hc)
        refine zw_push hm_167 dX12_fails_13 (v := .inl (0 : Int32)) rfl ?_
        refine zw_bret hm_167 dX12_fails_14 (by decide) ?_
        show ma_wp X d w 258 30 [(0, .inr (.inr (some 94))), (1, .inl a1), (2, .inl a2)] [.inl (0 : Int32)] (ma_put S 94 0 (.inl (0 : Int32))) Q
        refine zw_if0 hm_258 dX12_about_30 (t := 35) rfl zc0_eq (fun _ => ?_) (fun hc => absurd (by decide) hc)
        refine zw_push hm_258 dX12_about_35 (v := .inr (.inr (some 94))) rfl ?_
        refine zw_push hm_258 dX12_about_36 (v := .inl a1) rfl ?_
        exact zw_sub (ma_nd_of (ks := [0, 2]) rfl (by decide)) (ma_nd_of (ks := [0, 1, 2]) rfl (by decide)) (ma_le_cons rfl (ma_le_cons rfl (ma_le_nil _))) h
      · intro hc
        rw [if_pos (Classical.not_not.mp hc)] at h
        refine zw_push hm_258 dX12_about_22 (v := .inl (2 : Int32)) rfl ?_
        refine zw_goto hm_258 dX12_about_23 (t := 27) rfl ?_
        refine zw_cv hm_258 dX12_about_27 v_12_110_12 hm_167 [.inl (2 : Int32)] [] rfl (zO_rt hS s_94 rfl) ⟨by omega, by omega⟩ rfl ?_
        show ma_wp X (d - 1) (w - 21) 167 0 [(0, .inr (.inr (some 94))), (1, .inl (2 : Int32))] [] S _
        refine zw_push hm_167 dX12_fails_0 (v := .inr (.inr (some 94))) rfl ?_
        refine zw_push hm_167 dX12_fails_1 (v := .inl (2 : Int32)) rfl ?_
        refine zw_pf hm_167 dX12_fails_2 (zO_is hS s_94) (zO_t hS s_94) p_12_1_12 zk_int ?_
        refine zw_push hm_167 dX12_fails_5 (v := .inl (2 : Int32)) rfl ?_
        refine zw_if0 hm_167 dX12_fails_6 (t := 13) rfl zc0_eq (fun hc => absurd hc (by decide)) (fun _ => ?_)
        refine zw_push hm_167 dX12_fails_9 (v := .inl (1 : Int32)) rfl ?_
        refine zw_goto hm_167 dX12_fails_10 (t := 14) rfl ?_
        refine zw_bret hm_167 dX12_fails_14 (by decide) ?_
        show ma_wp X d w 258 30 [(0, .inr (.inr (some 94))), (1, .inl a1), (2, .inl a2)] [.inl (1 : Int32)] (ma_put S 94 0 (.inl (2 : Int32))) Q
        refine zw_if0 hm_258 dX12_about_30 (t := 35) rfl zc0_eq (fun hc => absurd hc (by decide)) (fun _ => ?_)
        refine zw_push hm_258 dX12_about_33 (v := .inl (0 : Int32)) rfl ?_
        exact zw_iret hm_258 dX12_about_34 h
    · intro hc
      rw [if_neg hc] at h
      refine zw_push hm_258 dX12_about_11 (v := .inl (1 : Int32)) rfl ?_
      refine zw_goto hm_258 dX12_about_12 (t := 27) rfl ?_
      refine zw_cv hm_258 dX12_about_27 v_12_110_12 hm_167 [.inl (1 : Int32)] [] rfl (zO_rt hS s_94 rfl) ⟨by omega, by omega⟩ rfl ?_
      show ma_wp X (d - 1) (w - 21) 167 0 [(0, .inr (.inr (some 94))), (1, .inl (1 : Int32))] [] S _
      refine zw_push hm_167 dX12_fails_0 (v := .inr (.inr (some 94))) rfl ?_
      refine zw_push hm_167 dX12_fails_1 (v := .inl (1 : Int32)) rfl ?_
      refine zw_pf hm_167 dX12_fails_2 (zO_is hS s_94) (zO_t hS s_94) p_12_1_12 zk_int ?_
      refine zw_push hm_167 dX12_fails_5 (v := .inl (1 : Int32)) rfl ?_
      refine zw_if0 hm_167 dX12_fails_6 (t := 13) rfl zc0_eq (fun hc => absurd hc (by decide)) (fun _ => ?_)
      refine zw_push hm_167 dX12_fails_9 (v := .inl (1 : Int32)) rfl ?_
      refine zw_goto hm_167 dX12_fails_10 (t := 14) rfl ?_
      refine zw_bret hm_167 dX12_fails_14 (by decide) ?_
      show ma_wp X d w 258 30 [(0, .inr (.inr (some 94))), (1, .inl a1), (2, .inl a2)] [.inl (1 : Int32)] (ma_put S 94 0 (.inl (1 : Int32))) Q
      refine zw_if0 hm_258 dX12_about_30 (t := 35) rfl zc0_eq (fun hc => absurd hc (by decide)) (fun _ => ?_)
      refine zw_push hm_258 dX12_about_33 (v := .inl (0 : Int32)) rfl ?_
      exact zw_iret hm_258 dX12_about_34 h
theorem g_162_0 {X : Nat × (Nat → Int32)} {d w : Nat} {S : ma_S} {Q : Option ma_V ⊕ Nat → ma_S → Prop} (a1 : Int32) (a2 : Int32) (hd : 7 ≤ d) (hw : 109 ≤ w) (hS : zO S) (h : if a2 < 0 then (Q (.inr 2) (ma_bump S)) else (if a2 ≤ (1 : Int32) then (((mR S 64 11) = none → Q (.inr 3) (ma_bump S)) ∧ (∀ c1, (mR S 64 11) = some c1 → ma_wp X d w 162 25 [(1, .inl a1), (2, .inl a2), (4, .inr (.inr (mR S 64 11)))] [.inr (.inr (mR S 64 11))] S Q)) else (Q (.inr 2) (ma_bump S)))) : ma_wp X d w 162 0 [(0, .inr (.inr (some 64))), (1, .inl a1), (2, .inl a2)] [] S Q := by
  refine zw_push hm_162 dX11_block_0 (v := .inl a2) rfl ?_
  refine zw_if0 hm_162 dX11_block_1 (t := 9) rfl zc0_lt ?_ ?_
  · intro hc
    rw [if_pos hc] at h
    exact zw_thr hm_162 dX11_block_9 dX11_block_12 dX11_block_13 dX11_block_16 x_11_79_81 n_11_79 (by omega) (by show 0 + 81 ≤ w; omega) h
  · intro hc
    rw [if_neg hc] at h
    refine zw_push hm_162 dX11_block_4 (v := .inl a2) rfl ?_
    refine zw_push hm_162 dX11_block_5 (v := .inl (1 : Int32)) rfl ?_
    refine zw_if2 hm_162 dX11_block_6 (t := 17) rfl zc2_le ?_ ?_
    · intro hc
      rw [if_pos hc] at h
      refine zw_push hm_162 dX11_block_17 (v := .inr (.inr (some 64))) rfl ?_
      refine zw_cv hm_162 dX11_block_18 v_11_119_11 hm_144 [] [] rfl (zO_rt hS s_64 rfl) ⟨by omega, by omega⟩ rfl ?_
      show ma_wp X (d - 1) (w - 20) 144 0 [(0, .inr (.inr (some 64)))] [] S _
      refine zw_push hm_144 dX11_needCollector_0 (v := .inr (.inr (some 64))) rfl ?_
      refine zw_gf hm_144 dX11_needCollector_1 (v := .inr (.inr (mR S 64 11))) (zO_is hS s_64) (zO_t hS s_64) rfl f_11_98_11 rfl ?_
      refine zw_ifnonnull hm_144 dX11_needCollector_4 (t := 15) rfl ?_ ?_
      · intro hc
        have h := h.1 hc
        exact zw_thr hm_144 dX11_needCollector_7 dX11_needCollector_10 dX11_needCollector_11 dX11_needCollector_14 x_11_85_87 n_11_85 (by omega) (by show 0 + 81 ≤ (w - 20); omega) ⟨by decide, h⟩
      · intro c1 hc
        have h := h.2 c1 hc
        refine zw_push hm_144 dX11_needCollector_15 (v := .inr (.inr (some 64))) rfl ?_
        refine zw_gf hm_144 dX11_needCollector_16 (v := .inr (.inr (mR S 64 11))) (zO_is hS s_64) (zO_t hS s_64) rfl f_11_98_11 rfl ?_
        refine zw_aret hm_144 dX11_needCollector_19 ?_
        show ma_wp X d w 162 21 [(0, .inr (.inr (some 64))), (1, .inl a1), (2, .inl a2)] [.inr (.inr (mR S 64 11))] S Q
        refine zw_sto hm_162 dX11_block_21 [(4, .inr (.inr (mR S 64 11))), (0, .inr (.inr (some 64))), (1, .inl a1), (2, .inl a2)] rfl rfl rfl ?_
        refine zw_push hm_162 dX11_block_23 (v := .inr (.inr (mR S 64 11))) rfl ?_
        exact zw_sub (ma_nd_of (ks := [1, 2, 4]) rfl (by decide)) (ma_nd_of (ks := [4, 0, 1, 2]) rfl (by decide)) (ma_le_cons rfl (ma_le_cons rfl (ma_le_cons rfl (ma_le_nil _)))) h
    · intro hc
      rw [if_neg hc] at h
      exact zw_thr hm_162 dX11_block_9 dX11_block_12 dX11_block_13 dX11_block_16 x_11_79_81 n_11_79 (by omega) (by show 0 + 81 ≤ w; omega) h
theorem g_259_0 {X : Nat × (Nat → Int32)} {d w : Nat} {S : ma_S} {Q : Option ma_V ⊕ Nat → ma_S → Prop} (a1 : Int32) (a2 : Int32) (hd : 2 ≤ d) (hw : 45 ≤ w) (hS : zO S) (h : if (mI S 94 10) = 0 then (if a2 < 0 then (Q (.inl (some (.inl (0 : Int32)))) (ma_put S 94 0 (.inl (1 : Int32)))) else (if a2 ≤ (1 : Int32) then (if (mI S 94 8) = 0 then (Q (.inl (some (.inl (0 : Int32)))) (ma_put S 94 0 (.inl (2 : Int32)))) else (ma_wp X d w 259 77 [(0, .inr (.inr (some 94))), (1, .inl a1), (2, .inl a2)] [.inl (mI S 94 11), .inl (0 : Int32), .inr (.inr (some 94))] (ma_put S 94 0 (.inl (0 : Int32))) Q)) else (Q (.inl (some (.inl (0 : Int32)))) (ma_put S 94 0 (.inl (1 : Int32)))))) else (if (mI S 94 10) = (4 : Int32) then (if a2 < 0 then (Q (.inl (some (.inl (0 : Int32)))) (ma_put S 94 0 (.inl (1 : Int32)))) else (if a2 ≤ (1 : Int32) then (if (mI S 94 8) = 0 then (Q (.inl (some (.inl (0 : Int32)))) (ma_put S 94 0 (.inl (2 : Int32)))) else (ma_wp X d w 259 77 [(0, .inr (.inr (some 94))), (1, .inl a1), (2, .inl a2)] [.inl (mI S 94 11), .inl (0 : Int32), .inr (.inr (some 94))] (ma_put S 94 0 (.inl (0 : Int32))) Q)) else (Q (.inl (some (.inl (0 : Int32)))) (ma_put S 94 0 (.inl (1 : Int32)))))) else (if (mI S 94 10) = (5 : Int32) then (if a2 < 0 then (Q (.inl (some (.inl (0 : Int32)))) (ma_put S 94 0 (.inl (1 : Int32)))) else (if a2 ≤ (1 : Int32) then (if (mI S 94 8) = 0 then (Q (.inl (some (.inl (0 : Int32)))) (ma_put S 94 0 (.inl (2 : Int32)))) else (ma_wp X d w 259 77 [(0, .inr (.inr (some 94))), (1, .inl a1), (2, .inl a2)] [.inl (mI S 94 11), .inl (0 : Int32), .inr (.inr (some 94))] (ma_put S 94 0 (.inl (0 : Int32))) Q)) else (Q (.inl (some (.inl (0 : Int32)))) (ma_put S 94 0 (.inl (1 : Int32)))))) else (if a2 < 0 then (Q (.inl (some (.inl (0 : Int32)))) (ma_put S 94 0 (.inl (1 : Int32)))) else (if a2 ≤ (1 : Int32) then (if (mI S 94 8) = 0 then (Q (.inl (some (.inl (0 : Int32)))) (ma_put S 94 0 (.inl (2 : Int32)))) else (Q (.inl (some (.inl (0 : Int32)))) (ma_put S 94 0 (.inl (3 : Int32))))) else (Q (.inl (some (.inl (0 : Int32)))) (ma_put S 94 0 (.inl (1 : Int32))))))))) : ma_wp X d w 259 0 [(0, .inr (.inr (some 94))), (1, .inl a1), (2, .inl a2)] [] S Q := by
  refine zw_push hm_259 dX12_block_0 (v := .inr (.inr (some 94))) rfl ?_
  refine zw_gf hm_259 dX12_block_1 (v := .inl (mI S 94 10)) (zO_is hS s_94) (zO_t hS s_94) rfl f_12_199_12 rfl ?_
  refine zw_if0 hm_259 dX12_block_4 (t := 23) rfl zc0_eq ?_ ?_
  · intro hc
    rw [if_pos hc] at h
    refine zw_push hm_259 dX12_block_23 (v := .inl (1 : Int32)) rfl ?_
    refine zw_goto hm_259 dX12_block_24 (t := 28) rfl ?_
    refine zw_sto hm_259 dX12_block_28 [(3, .inl (1 : Int32)), (0, .inr (.inr (some 94))), (1, .inl a1), (2, .inl a2)] rfl rfl rfl ?_
    refine zw_push hm_259 dX12_block_29 (v := .inr (.inr (some 94))) rfl ?_
    refine zw_push hm_259 dX12_block_30 (v := .inl a2) rfl ?_
    refine zw_if0 hm_259 dX12_block_31 (t := 39) rfl zc0_lt ?_ ?_
    · intro hc
      rw [if_pos hc] at h
      refine zw_push hm_259 dX12_block_39 (v := .inl (1 : Int32)) rfl ?_
      refine zw_goto hm_259 dX12_block_40 (t := 63) rfl ?_
      refine zw_cv hm_259 dX12_block_63 v_12_110_12 hm_167 [.inl (1 : Int32)] [] rfl (zO_rt hS s_94 rfl) ⟨by omega, by omega⟩ rfl ?_
      show ma_wp X (d - 1) (w - 21) 167 0 [(0, .inr (.inr (some 94))), (1, .inl (1 : Int32))] [] S _
      refine zw_push hm_167 dX12_fails_0 (v := .inr (.inr (some 94))) rfl ?_
      refine zw_push hm_167 dX12_fails_1 (v := .inl (1 : Int32)) rfl ?_
      refine zw_pf hm_167 dX12_fails_2 (zO_is hS s_94) (zO_t hS s_94) p_12_1_12 zk_int ?_
      refine zw_push hm_167 dX12_fails_5 (v := .inl (1 : Int32)) rfl ?_
      refine zw_if0 hm_167 dX12_fails_6 (t := 13) rfl zc0_eq (fun hc => absurd hc (by decide)) (fun _ => ?_)
      refine zw_push hm_167 dX12_fails_9 (v := .inl (1 : Int32)) rfl ?_
      refine zw_goto hm_167 dX12_fails_10 (t := 14) rfl ?_
      refine zw_bret hm_167 dX12_fails_14 (by decide) ?_
      show ma_wp X d w 259 66 [(3, .inl (1 : Int32)), (0, .inr (.inr (some 94))), (1, .inl a1), (2, .inl a2)] [.inl (1 : Int32)] (ma_put S 94 0 (.inl (1 : Int32))) Q
      refine zw_if0 hm_259 dX12_block_66 (t := 71) rfl zc0_eq (fun hc => absurd hc (by decide)) (fun _ => ?_)
      refine zw_push hm_259 dX12_block_69 (v := .inl (0 : Int32)) rfl ?_
      exact zw_iret hm_259 dX12_block_70 h
    · intro hc
      rw [if_neg hc] at h
      refine zw_push hm_259 dX12_block_34 (v := .inl a2) rfl ?_
      refine zw_push hm_259 dX12_block_35 (v := .inl (1 : Int32)) rfl ?_
      refine zw_if2 hm_259 dX12_block_36 (t := 43) rfl zc2_le ?_ ?_
      · intro hc
        rw [if_pos hc] at h
        refine zw_push hm_259 dX12_block_43 (v := .inr (.inr (some 94))) rfl ?_
        refine zw_gf hm_259 dX12_block_44 (v := .inl (mI S 94 8)) (zO_is hS s_94) (zO_t hS s_94) rfl f_12_237_12 rfl ?_
        refine zw_if0 hm_259 dX12_block_47 (t := 54) rfl zc0_ne ?_ ?_
        · intro hc
          rw [if_neg hc] at h
          refine zw_push hm_259 dX12_block_54 (v := .inl (1 : Int32)) rfl ?_
          refine zw_if0 hm_259 dX12_block_55 (t := 62) rfl zc0_ne (fun _ => ?_) (fun hc => absurd (by decide) hc)
          refine zw_push hm_259 dX12_block_62 (v := .inl (0 : Int32)) rfl ?_
          refine zw_cv hm_259 dX12_block_63 v_12_110_12 hm_167 [.inl (0 : Int32)] [] rfl (zO_rt hS s_94 rfl) ⟨by omega, by omega⟩ rfl ?_
          show ma_wp X (d - 1) (w - 21) 167 0 [(0, .inr (.inr (some 94))), (1, .inl (0 : Int32))] [] S _
          refine zw_push hm_167 dX12_fails_0 (v := .inr (.inr (some 94))) rfl ?_
          refine zw_push hm_167 dX12_fails_1 (v := .inl (0 : Int32)) rfl ?_
          refine zw_pf hm_167 dX12_fails_2 (zO_is hS s_94) (zO_t hS s_94) p_12_1_12 zk_int ?_
          refine zw_push hm_167 dX12_fails_5 (v := .inl (0 : Int32)) rfl ?_
          refine zw_if0 hm_167 dX12_fails_6 (t := 13) rfl zc0_eq (fun _ => ?_) (fun hc => absurd (by decide) hc)
          refine zw_push hm_167 dX12_fails_13 (v := .inl (0 : Int32)) rfl ?_
          refine zw_bret hm_167 dX12_fails_14 (by decide) ?_
          show ma_wp X d w 259 66 [(3, .inl (1 : Int32)), (0, .inr (.inr (some 94))), (1, .inl a1), (2, .inl a2)] [.inl (0 : Int32)] (ma_put S 94 0 (.inl (0 : Int32))) Q
          refine zw_if0 hm_259 dX12_block_66 (t := 71) rfl zc0_eq (fun _ => ?_) (fun hc => absurd (by decide) hc)
          refine zw_push hm_259 dX12_block_71 (v := .inr (.inr (some 94))) rfl ?_
          refine zw_push hm_259 dX12_block_72 (v := .inl (0 : Int32)) rfl ?_
          refine zw_push hm_259 dX12_block_73 (v := .inr (.inr (some 94))) rfl ?_
          refine zw_gf hm_259 dX12_block_74 (v := .inl (mI S 94 11)) (zO_is (zO_pi hS) s_94) (zO_t (zO_pi hS) s_94) rfl f_12_202_12 rfl ?_
          exact zw_sub (ma_nd_of (ks := [0, 1, 2]) rfl (by decide)) (ma_nd_of (ks := [3, 0, 1, 2]) rfl (by decide)) (ma_le_cons rfl (ma_le_cons rfl (ma_le_cons rfl (ma_le_nil _)))) h
        · intro hc
          rw [if_pos (Classical.not_not.mp hc)] at h
          refine zw_push hm_259 dX12_block_50 (v := .inl (2 : Int32)) rfl ?_
          refine zw_goto hm_259 dX12_block_51 (t := 63) rfl ?_
          refine zw_cv hm_259 dX12_block_63 v_12_110_12 hm_167 [.inl (2 : Int32)] [] rfl (zO_rt hS s_94 rfl) ⟨by omega, by omega⟩ rfl ?_
          show ma_wp X (d - 1) (w - 21) 167 0 [(0, .inr (.inr (some 94))), (1, .inl (2 : Int32))] [] S _
          refine zw_push hm_167 dX12_fails_0 (v := .inr (.inr (some 94))) rfl ?_
          refine zw_push hm_167 dX12_fails_1 (v := .inl (2 : Int32)) rfl ?_
          refine zw_pf hm_167 dX12_fails_2 (zO_is hS s_94) (zO_t hS s_94) p_12_1_12 zk_int ?_
          refine zw_push hm_167 dX12_fails_5 (v := .inl (2 : Int32)) rfl ?_
          refine zw_if0 hm_167 dX12_fails_6 (t := 13) rfl zc0_eq (fun hc => absurd hc (by decide)) (fun _ => ?_)
          refine zw_push hm_167 dX12_fails_9 (v := .inl (1 : Int32)) rfl ?_
          refine zw_goto hm_167 dX12_fails_10 (t := 14) rfl ?_
          refine zw_bret hm_167 dX12_fails_14 (by decide) ?_
          show ma_wp X d w 259 66 [(3, .inl (1 : Int32)), (0, .inr (.inr (some 94))), (1, .inl a1), (2, .inl a2)] [.inl (1 : Int32)] (ma_put S 94 0 (.inl (2 : Int32))) Q
          refine zw_if0 hm_259 dX12_block_66 (t := 71) rfl zc0_eq (fun hc => absurd hc (by decide)) (fun _ => ?_)
          refine zw_push hm_259 dX12_block_69 (v := .inl (0 : Int32)) rfl ?_
          exact zw_iret hm_259 dX12_block_70 h
      · intro hc
        rw [if_neg hc] at h
        refine zw_push hm_259 dX12_block_39 (v := .inl (1 : Int32)) rfl ?_
        refine zw_goto hm_259 dX12_block_40 (t := 63) rfl ?_
        refine zw_cv hm_259 dX12_block_63 v_12_110_12 hm_167 [.inl (1 : Int32)] [] rfl (zO_rt hS s_94 rfl) ⟨by omega, by omega⟩ rfl ?_
        show ma_wp X (d - 1) (w - 21) 167 0 [(0, .inr (.inr (some 94))), (1, .inl (1 : Int32))] [] S _
        refine zw_push hm_167 dX12_fails_0 (v := .inr (.inr (some 94))) rfl ?_
        refine zw_push hm_167 dX12_fails_1 (v := .inl (1 : Int32)) rfl ?_
        refine zw_pf hm_167 dX12_fails_2 (zO_is hS s_94) (zO_t hS s_94) p_12_1_12 zk_int ?_
        refine zw_push hm_167 dX12_fails_5 (v := .inl (1 : Int32)) rfl ?_
        refine zw_if0 hm_167 dX12_fails_6 (t := 13) rfl zc0_eq (fun hc => absurd hc (by decide)) (fun _ => ?_)
        refine zw_push hm_167 dX12_fails_9 (v := .inl (1 : Int32)) rfl ?_
        refine zw_goto hm_167 dX12_fails_10 (t := 14) rfl ?_
        refine zw_bret hm_167 dX12_fails_14 (by decide) ?_
        show ma_wp X d w 259 66 [(3, .inl (1 : Int32)), (0, .inr (.inr (some 94))), (1, .inl a1), (2, .inl a2)] [.inl (1 : Int32)] (ma_put S 94 0 (.inl (1 : Int32))) Q
        refine zw_if0 hm_259 dX12_block_66 (t := 71) rfl zc0_eq (fun hc => absurd hc (by decide)) (fun _ => ?_)
        refine zw_push hm_259 dX12_block_69 (v := .inl (0 : Int32)) rfl ?_
        exact zw_iret hm_259 dX12_block_70 h
  · intro hc
    rw [if_neg hc] at h
    refine zw_push hm_259 dX12_block_7 (v := .inr (.inr (some 94))) rfl ?_
    refine zw_gf hm_259 dX12_block_8 (v := .inl (mI S 94 10)) (zO_is hS s_94) (zO_t hS s_94) rfl f_12_199_12 rfl ?_
    refine zw_push hm_259 dX12_block_11 (v := .inl (4 : Int32)) rfl ?_
    refine zw_if2 hm_259 dX12_block_12 (t := 23) rfl zc2_eq ?_ ?_
    · intro hc
      rw [if_pos hc] at h
      refine zw_push hm_259 dX12_block_23 (v := .inl (1 : Int32)) rfl ?_
      refine zw_goto hm_259 dX12_block_24 (t := 28) rfl ?_
      refine zw_sto hm_259 dX12_block_28 [(3, .inl (1 : Int32)), (0, .inr (.inr (some 94))), (1, .inl a1), (2, .inl a2)] rfl rfl rfl ?_
      refine zw_push hm_259 dX12_block_29 (v := .inr (.inr (some 94))) rfl ?_
      refine zw_push hm_259 dX12_block_30 (v := .inl a2) rfl ?_
      refine zw_if0 hm_259 dX12_block_31 (t := 39) rfl zc0_lt ?_ ?_
      · intro hc
        rw [if_pos hc] at h
        refine zw_push hm_259 dX12_block_39 (v := .inl (1 : Int32)) rfl ?_
        refine zw_goto hm_259 dX12_block_40 (t := 63) rfl ?_
        refine zw_cv hm_259 dX12_block_63 v_12_110_12 hm_167 [.inl (1 : Int32)] [] rfl (zO_rt hS s_94 rfl) ⟨by omega, by omega⟩ rfl ?_
        show ma_wp X (d - 1) (w - 21) 167 0 [(0, .inr (.inr (some 94))), (1, .inl (1 : Int32))] [] S _
        refine zw_push hm_167 dX12_fails_0 (v := .inr (.inr (some 94))) rfl ?_
        refine zw_push hm_167 dX12_fails_1 (v := .inl (1 : Int32)) rfl ?_
        refine zw_pf hm_167 dX12_fails_2 (zO_is hS s_94) (zO_t hS s_94) p_12_1_12 zk_int ?_
        refine zw_push hm_167 dX12_fails_5 (v := .inl (1 : Int32)) rfl ?_
        refine zw_if0 hm_167 dX12_fails_6 (t := 13) rfl zc0_eq (fun hc => absurd hc (by decide)) (fun _ => ?_)
        refine zw_push hm_167 dX12_fails_9 (v := .inl (1 : Int32)) rfl ?_
        refine zw_goto hm_167 dX12_fails_10 (t := 14) rfl ?_
        refine zw_bret hm_167 dX12_fails_14 (by decide) ?_
        show ma_wp X d w 259 66 [(3, .inl (1 : Int32)), (0, .inr (.inr (some 94))), (1, .inl a1), (2, .inl a2)] [.inl (1 : Int32)] (ma_put S 94 0 (.inl (1 : Int32))) Q
        refine zw_if0 hm_259 dX12_block_66 (t := 71) rfl zc0_eq (fun hc => absurd hc (by decide)) (fun _ => ?_)
        refine zw_push hm_259 dX12_block_69 (v := .inl (0 : Int32)) rfl ?_
        exact zw_iret hm_259 dX12_block_70 h
      · intro hc
        rw [if_neg hc] at h
        refine zw_push hm_259 dX12_block_34 (v := .inl a2) rfl ?_
        refine zw_push hm_259 dX12_block_35 (v := .inl (1 : Int32)) rfl ?_
        refine zw_if2 hm_259 dX12_block_36 (t := 43) rfl zc2_le ?_ ?_
        · intro hc
          rw [if_pos hc] at h
          refine zw_push hm_259 dX12_block_43 (v := .inr (.inr (some 94))) rfl ?_
          refine zw_gf hm_259 dX12_block_44 (v := .inl (mI S 94 8)) (zO_is hS s_94) (zO_t hS s_94) rfl f_12_237_12 rfl ?_
          refine zw_if0 hm_259 dX12_block_47 (t := 54) rfl zc0_ne ?_ ?_
          · intro hc
            rw [if_neg hc] at h
            refine zw_push hm_259 dX12_block_54 (v := .inl (1 : Int32)) rfl ?_
            refine zw_if0 hm_259 dX12_block_55 (t := 62) rfl zc0_ne (fun _ => ?_) (fun hc => absurd (by decide) hc)
            refine zw_push hm_259 dX12_block_62 (v := .inl (0 : Int32)) rfl ?_
            refine zw_cv hm_259 dX12_block_63 v_12_110_12 hm_167 [.inl (0 : Int32)] [] rfl (zO_rt hS s_94 rfl) ⟨by omega, by omega⟩ rfl ?_
            show ma_wp X (d - 1) (w - 21) 167 0 [(0, .inr (.inr (some 94))), (1, .inl (0 : Int32))] [] S _
            refine zw_push hm_167 dX12_fails_0 (v := .inr (.inr (some 94))) rfl ?_
            refine zw_push hm_167 dX12_fails_1 (v := .inl (0 : Int32)) rfl ?_
            refine zw_pf hm_167 dX12_fails_2 (zO_is hS s_94) (zO_t hS s_94) p_12_1_12 zk_int ?_
            refine zw_push hm_167 dX12_fails_5 (v := .inl (0 : Int32)) rfl ?_
            refine zw_if0 hm_167 dX12_fails_6 (t := 13) rfl zc0_eq (fun _ => ?_) (fun hc => absurd (by decide) hc)
            refine zw_push hm_167 dX12_fails_13 (v := .inl (0 : Int32)) rfl ?_
            refine zw_bret hm_167 dX12_fails_14 (by decide) ?_
            show ma_wp X d w 259 66 [(3, .inl (1 : Int32)), (0, .inr (.inr (some 94))), (1, .inl a1), (2, .inl a2)] [.inl (0 : Int32)] (ma_put S 94 0 (.inl (0 : Int32))) Q
            refine zw_if0 hm_259 dX12_block_66 (t := 71) rfl zc0_eq (fun _ => ?_) (fun hc => absurd (by decide) hc)
            refine zw_push hm_259 dX12_block_71 (v := .inr (.inr (some 94))) rfl ?_
            refine zw_push hm_259 dX12_block_72 (v := .inl (0 : Int32)) rfl ?_
            refine zw_push hm_259 dX12_block_73 (v := .inr (.inr (some 94))) rfl ?_
            refine zw_gf hm_259 dX12_block_74 (v := .inl (mI S 94 11)) (zO_is (zO_pi hS) s_94) (zO_t (zO_pi hS) s_94) rfl f_12_202_12 rfl ?_
            exact zw_sub (ma_nd_of (ks := [0, 1, 2]) rfl (by decide)) (ma_nd_of (ks := [3, 0, 1, 2]) rfl (by decide)) (ma_le_cons rfl (ma_le_cons rfl (ma_le_cons rfl (ma_le_nil _)))) h
          · intro hc
            rw [if_pos (Classical.not_not.mp hc)] at h
            refine zw_push hm_259 dX12_block_50 (v := .inl (2 : Int32)) rfl ?_
            refine zw_goto hm_259 dX12_block_51 (t := 63) rfl ?_
            refine zw_cv hm_259 dX12_block_63 v_12_110_12 hm_167 [.inl (2 : Int32)] [] rfl (zO_rt hS s_94 rfl) ⟨by omega, by omega⟩ rfl ?_
            show ma_wp X (d - 1) (w - 21) 167 0 [(0, .inr (.inr (some 94))), (1, .inl (2 : Int32))] [] S _
            refine zw_push hm_167 dX12_fails_0 (v := .inr (.inr (some 94))) rfl ?_
            refine zw_push hm_167 dX12_fails_1 (v := .inl (2 : Int32)) rfl ?_
            refine zw_pf hm_167 dX12_fails_2 (zO_is hS s_94) (zO_t hS s_94) p_12_1_12 zk_int ?_
            refine zw_push hm_167 dX12_fails_5 (v := .inl (2 : Int32)) rfl ?_
            refine zw_if0 hm_167 dX12_fails_6 (t := 13) rfl zc0_eq (fun hc => absurd hc (by decide)) (fun _ => ?_)
            refine zw_push hm_167 dX12_fails_9 (v := .inl (1 : Int32)) rfl ?_
            refine zw_goto hm_167 dX12_fails_10 (t := 14) rfl ?_
            refine zw_bret hm_167 dX12_fails_14 (by decide) ?_
            show ma_wp X d w 259 66 [(3, .inl (1 : Int32)), (0, .inr (.inr (some 94))), (1, .inl a1), (2, .inl a2)] [.inl (1 : Int32)] (ma_put S 94 0 (.inl (2 : Int32))) Q
            refine zw_if0 hm_259 dX12_block_66 (t := 71) rfl zc0_eq (fun hc => absurd hc (by decide)) (fun _ => ?_)
            refine zw_push hm_259 dX12_block_69 (v := .inl (0 : Int32)) rfl ?_
            exact zw_iret hm_259 dX12_block_70 h
        · intro hc
          rw [if_neg hc] at h
          refine zw_push hm_259 dX12_block_39 (v := .inl (1 : Int32)) rfl ?_
          refine zw_goto hm_259 dX12_block_40 (t := 63) rfl ?_
          refine zw_cv hm_259 dX12_block_63 v_12_110_12 hm_167 [.inl (1 : Int32)] [] rfl (zO_rt hS s_94 rfl) ⟨by omega, by omega⟩ rfl ?_
          show ma_wp X (d - 1) (w - 21) 167 0 [(0, .inr (.inr (some 94))), (1, .inl (1 : Int32))] [] S _
          refine zw_push hm_167 dX12_fails_0 (v := .inr (.inr (some 94))) rfl ?_
          refine zw_push hm_167 dX12_fails_1 (v := .inl (1 : Int32)) rfl ?_
          refine zw_pf hm_167 dX12_fails_2 (zO_is hS s_94) (zO_t hS s_94) p_12_1_12 zk_int ?_
          refine zw_push hm_167 dX12_fails_5 (v := .inl (1 : Int32)) rfl ?_
          refine zw_if0 hm_167 dX12_fails_6 (t := 13) rfl zc0_eq (fun hc => absurd hc (by decide)) (fun _ => ?_)
          refine zw_push hm_167 dX12_fails_9 (v := .inl (1 : Int32)) rfl ?_
          refine zw_goto hm_167 dX12_fails_10 (t := 14) rfl ?_
          refine zw_bret hm_167 dX12_fails_14 (by decide) ?_
          show ma_wp X d w 259 66 [(3, .inl (1 : Int32)), (0, .inr (.inr (some 94))), (1, .inl a1), (2, .inl a2)] [.inl (1 : Int32)] (ma_put S 94 0 (.inl (1 : Int32))) Q
          refine zw_if0 hm_259 dX12_block_66 (t := 71) rfl zc0_eq (fun hc => absurd hc (by decide)) (fun _ => ?_)
          refine zw_push hm_259 dX12_block_69 (v := .inl (0 : Int32)) rfl ?_
          exact zw_iret hm_259 dX12_block_70 h
    · intro hc
      rw [if_neg hc] at h
      refine zw_push hm_259 dX12_block_15 (v := .inr (.inr (some 94))) rfl ?_
      refine zw_gf hm_259 dX12_block_16 (v := .inl (mI S 94 10)) (zO_is hS s_94) (zO_t hS s_94) rfl f_12_199_12 rfl ?_
      refine zw_push hm_259 dX12_block_19 (v := .inl (5 : Int32)) rfl ?_
      refine zw_if2 hm_259 dX12_block_20 (t := 27) rfl zc2_ne ?_ ?_
      · intro hc
        rw [if_neg hc] at h
        refine zw_push hm_259 dX12_block_27 (v := .inl (0 : Int32)) rfl ?_
        refine zw_sto hm_259 dX12_block_28 [(3, .inl (0 : Int32)), (0, .inr (.inr (some 94))), (1, .inl a1), (2, .inl a2)] rfl rfl rfl ?_
        refine zw_push hm_259 dX12_block_29 (v := .inr (.inr (some 94))) rfl ?_
        refine zw_push hm_259 dX12_block_30 (v := .inl a2) rfl ?_
        refine zw_if0 hm_259 dX12_block_31 (t := 39) rfl zc0_lt ?_ ?_
        · intro hc
          rw [if_pos hc] at h
          refine zw_push hm_259 dX12_block_39 (v := .inl (1 : Int32)) rfl ?_
          refine zw_goto hm_259 dX12_block_40 (t := 63) rfl ?_
          refine zw_cv hm_259 dX12_block_63 v_12_110_12 hm_167 [.inl (1 : Int32)] [] rfl (zO_rt hS s_94 rfl) ⟨by omega, by omega⟩ rfl ?_
          show ma_wp X (d - 1) (w - 21) 167 0 [(0, .inr (.inr (some 94))), (1, .inl (1 : Int32))] [] S _
          refine zw_push hm_167 dX12_fails_0 (v := .inr (.inr (some 94))) rfl ?_
          refine zw_push hm_167 dX12_fails_1 (v := .inl (1 : Int32)) rfl ?_
          refine zw_pf hm_167 dX12_fails_2 (zO_is hS s_94) (zO_t hS s_94) p_12_1_12 zk_int ?_
          refine zw_push hm_167 dX12_fails_5 (v := .inl (1 : Int32)) rfl ?_
          refine zw_if0 hm_167 dX12_fails_6 (t := 13) rfl zc0_eq (fun hc => absurd hc (by decide)) (fun _ => ?_)
          refine zw_push hm_167 dX12_fails_9 (v := .inl (1 : Int32)) rfl ?_
          refine zw_goto hm_167 dX12_fails_10 (t := 14) rfl ?_
          refine zw_bret hm_167 dX12_fails_14 (by decide) ?_
          show ma_wp X d w 259 66 [(3, .inl (0 : Int32)), (0, .inr (.inr (some 94))), (1, .inl a1), (2, .inl a2)] [.inl (1 : Int32)] (ma_put S 94 0 (.inl (1 : Int32))) Q
          refine zw_if0 hm_259 dX12_block_66 (t := 71) rfl zc0_eq (fun hc => absurd hc (by decide)) (fun _ => ?_)
          refine zw_push hm_259 dX12_block_69 (v := .inl (0 : Int32)) rfl ?_
          exact zw_iret hm_259 dX12_block_70 h
        · intro hc
          rw [if_neg hc] at h
          refine zw_push hm_259 dX12_block_34 (v := .inl a2) rfl ?_
          refine zw_push hm_259 dX12_block_35 (v := .inl (1 : Int32)) rfl ?_
          refine zw_if2 hm_259 dX12_block_36 (t := 43) rfl zc2_le ?_ ?_
          · intro hc
            rw [if_pos hc] at h
            refine zw_push hm_259 dX12_block_43 (v := .inr (.inr (some 94))) rfl ?_
            refine zw_gf hm_259 dX12_block_44 (v := .inl (mI S 94 8)) (zO_is hS s_94) (zO_t hS s_94) rfl f_12_237_12 rfl ?_
            refine zw_if0 hm_259 dX12_block_47 (t := 54) rfl zc0_ne ?_ ?_
            · intro hc
              rw [if_neg hc] at h
              refine zw_push hm_259 dX12_block_54 (v := .inl (0 : Int32)) rfl ?_
              refine zw_if0 hm_259 dX12_block_55 (t := 62) rfl zc0_ne (fun hc => absurd hc (by decide)) (fun _ => ?_)
              refine zw_push hm_259 dX12_block_58 (v := .inl (3 : Int32)) rfl ?_
              refine zw_goto hm_259 dX12_block_59 (t := 63) rfl ?_
              refine zw_cv hm_259 dX12_block_63 v_12_110_12 hm_167 [.inl (3 : Int32)] [] rfl (zO_rt hS s_94 rfl) ⟨by omega, by omega⟩ rfl ?_
              show ma_wp X (d - 1) (w - 21) 167 0 [(0, .inr (.inr (some 94))), (1, .inl (3 : Int32))] [] S _
              refine zw_push hm_167 dX12_fails_0 (v := .inr (.inr (some 94))) rfl ?_
              refine zw_push hm_167 dX12_fails_1 (v := .inl (3 : Int32)) rfl ?_
              refine zw_pf hm_167 dX12_fails_2 (zO_is hS s_94) (zO_t hS s_94) p_12_1_12 zk_int ?_
              refine zw_push hm_167 dX12_fails_5 (v := .inl (3 : Int32)) rfl ?_
              refine zw_if0 hm_167 dX12_fails_6 (t := 13) rfl zc0_eq (fun hc => absurd hc (by decide)) (fun _ => ?_)
              refine zw_push hm_167 dX12_fails_9 (v := .inl (1 : Int32)) rfl ?_
              refine zw_goto hm_167 dX12_fails_10 (t := 14) rfl ?_
              refine zw_bret hm_167 dX12_fails_14 (by decide) ?_
              show ma_wp X d w 259 66 [(3, .inl (0 : Int32)), (0, .inr (.inr (some 94))), (1, .inl a1), (2, .inl a2)] [.inl (1 : Int32)] (ma_put S 94 0 (.inl (3 : Int32))) Q
              refine zw_if0 hm_259 dX12_block_66 (t := 71) rfl zc0_eq (fun hc => absurd hc (by decide)) (fun _ => ?_)
              refine zw_push hm_259 dX12_block_69 (v := .inl (0 : Int32)) rfl ?_
              exact zw_iret hm_259 dX12_block_70 h
            · intro hc
              rw [if_pos (Classical.not_not.mp hc)] at h
              refine zw_push hm_259 dX12_block_50 (v := .inl (2 : Int32)) rfl ?_
              refine zw_goto hm_259 dX12_block_51 (t := 63) rfl ?_
              refine zw_cv hm_259 dX12_block_63 v_12_110_12 hm_167 [.inl (2 : Int32)] [] rfl (zO_rt hS s_94 rfl) ⟨by omega, by omega⟩ rfl ?_
              show ma_wp X (d - 1) (w - 21) 167 0 [(0, .inr (.inr (some 94))), (1, .inl (2 : Int32))] [] S _
              refine zw_push hm_167 dX12_fails_0 (v := .inr (.inr (some 94))) rfl ?_
              refine zw_push hm_167 dX12_fails_1 (v := .inl (2 : Int32)) rfl ?_
              refine zw_pf hm_167 dX12_fails_2 (zO_is hS s_94) (zO_t hS s_94) p_12_1_12 zk_int ?_
              refine zw_push hm_167 dX12_fails_5 (v := .inl (2 : Int32)) rfl ?_
              refine zw_if0 hm_167 dX12_fails_6 (t := 13) rfl zc0_eq (fun hc => absurd hc (by decide)) (fun _ => ?_)
              refine zw_push hm_167 dX12_fails_9 (v := .inl (1 : Int32)) rfl ?_
              refine zw_goto hm_167 dX12_fails_10 (t := 14) rfl ?_
              refine zw_bret hm_167 dX12_fails_14 (by decide) ?_
              show ma_wp X d w 259 66 [(3, .inl (0 : Int32)), (0, .inr (.inr (some 94))), (1, .inl a1), (2, .inl a2)] [.inl (1 : Int32)] (ma_put S 94 0 (.inl (2 : Int32))) Q
              refine zw_if0 hm_259 dX12_block_66 (t := 71) rfl zc0_eq (fun hc => absurd hc (by decide)) (fun _ => ?_)
              refine zw_push hm_259 dX12_block_69 (v := .inl (0 : Int32)) rfl ?_
              exact zw_iret hm_259 dX12_block_70 h
          · intro hc
            rw [if_neg hc] at h
            refine zw_push hm_259 dX12_block_39 (v := .inl (1 : Int32)) rfl ?_
            refine zw_goto hm_259 dX12_block_40 (t := 63) rfl ?_
            refine zw_cv hm_259 dX12_block_63 v_12_110_12 hm_167 [.inl (1 : Int32)] [] rfl (zO_rt hS s_94 rfl) ⟨by omega, by omega⟩ rfl ?_
            show ma_wp X (d - 1) (w - 21) 167 0 [(0, .inr (.inr (some 94))), (1, .inl (1 : Int32))] [] S _
            refine zw_push hm_167 dX12_fails_0 (v := .inr (.inr (some 94))) rfl ?_
            refine zw_push hm_167 dX12_fails_1 (v := .inl (1 : Int32)) rfl ?_
            refine zw_pf hm_167 dX12_fails_2 (zO_is hS s_94) (zO_t hS s_94) p_12_1_12 zk_int ?_
            refine zw_push hm_167 dX12_fails_5 (v := .inl (1 : Int32)) rfl ?_
            refine zw_if0 hm_167 dX12_fails_6 (t := 13) rfl zc0_eq (fun hc => absurd hc (by decide)) (fun _ => ?_)
            refine zw_push hm_167 dX12_fails_9 (v := .inl (1 : Int32)) rfl ?_
            refine zw_goto hm_167 dX12_fails_10 (t := 14) rfl ?_
            refine zw_bret hm_167 dX12_fails_14 (by decide) ?_
            show ma_wp X d w 259 66 [(3, .inl (0 : Int32)), (0, .inr (.inr (some 94))), (1, .inl a1), (2, .inl a2)] [.inl (1 : Int32)] (ma_put S 94 0 (.inl (1 : Int32))) Q
            refine zw_if0 hm_259 dX12_block_66 (t := 71) rfl zc0_eq (fun hc => absurd hc (by decide)) (fun _ => ?_)
            refine zw_push hm_259 dX12_block_69 (v := .inl (0 : Int32)) rfl ?_
            exact zw_iret hm_259 dX12_block_70 h
      · intro hc
        rw [if_pos (Classical.not_not.mp hc)] at h
        refine zw_push hm_259 dX12_block_23 (v := .inl (1 : Int32)) rfl ?_
        refine zw_goto hm_259 dX12_block_24 (t := 28) rfl ?_
        refine zw_sto hm_259 dX12_block_28 [(3, .inl (1 : Int32)), (0, .inr (.inr (some 94))), (1, .inl a1), (2, .inl a2)] rfl rfl rfl ?_
        refine zw_push hm_259 dX12_block_29 (v := .inr (.inr (some 94))) rfl ?_
        refine zw_push hm_259 dX12_block_30 (v := .inl a2) rfl ?_
        refine zw_if0 hm_259 dX12_block_31 (t := 39) rfl zc0_lt ?_ ?_
        · intro hc
          rw [if_pos hc] at h
          refine zw_push hm_259 dX12_block_39 (v := .inl (1 : Int32)) rfl ?_
          refine zw_goto hm_259 dX12_block_40 (t := 63) rfl ?_
          refine zw_cv hm_259 dX12_block_63 v_12_110_12 hm_167 [.inl (1 : Int32)] [] rfl (zO_rt hS s_94 rfl) ⟨by omega, by omega⟩ rfl ?_
          show ma_wp X (d - 1) (w - 21) 167 0 [(0, .inr (.inr (some 94))), (1, .inl (1 : Int32))] [] S _
          refine zw_push hm_167 dX12_fails_0 (v := .inr (.inr (some 94))) rfl ?_
          refine zw_push hm_167 dX12_fails_1 (v := .inl (1 : Int32)) rfl ?_
          refine zw_pf hm_167 dX12_fails_2 (zO_is hS s_94) (zO_t hS s_94) p_12_1_12 zk_int ?_
          refine zw_push hm_167 dX12_fails_5 (v := .inl (1 : Int32)) rfl ?_
          refine zw_if0 hm_167 dX12_fails_6 (t := 13) rfl zc0_eq (fun hc => absurd hc (by decide)) (fun _ => ?_)
          refine zw_push hm_167 dX12_fails_9 (v := .inl (1 : Int32)) rfl ?_
          refine zw_goto hm_167 dX12_fails_10 (t := 14) rfl ?_
          refine zw_bret hm_167 dX12_fails_14 (by decide) ?_
          show ma_wp X d w 259 66 [(3, .inl (1 : Int32)), (0, .inr (.inr (some 94))), (1, .inl a1), (2, .inl a2)] [.inl (1 : Int32)] (ma_put S 94 0 (.inl (1 : Int32))) Q
          refine zw_if0 hm_259 dX12_block_66 (t := 71) rfl zc0_eq (fun hc => absurd hc (by decide)) (fun _ => ?_)
          refine zw_push hm_259 dX12_block_69 (v := .inl (0 : Int32)) rfl ?_
          exact zw_iret hm_259 dX12_block_70 h
        · intro hc
          rw [if_neg hc] at h
          refine zw_push hm_259 dX12_block_34 (v := .inl a2) rfl ?_
          refine zw_push hm_259 dX12_block_35 (v := .inl (1 : Int32)) rfl ?_
          refine zw_if2 hm_259 dX12_block_36 (t := 43) rfl zc2_le ?_ ?_
          · intro hc
            rw [if_pos hc] at h
            refine zw_push hm_259 dX12_block_43 (v := .inr (.inr (some 94))) rfl ?_
            refine zw_gf hm_259 dX12_block_44 (v := .inl (mI S 94 8)) (zO_is hS s_94) (zO_t hS s_94) rfl f_12_237_12 rfl ?_
            refine zw_if0 hm_259 dX12_block_47 (t := 54) rfl zc0_ne ?_ ?_
            · intro hc
              rw [if_neg hc] at h
              refine zw_push hm_259 dX12_block_54 (v := .inl (1 : Int32)) rfl ?_
              refine zw_if0 hm_259 dX12_block_55 (t := 62) rfl zc0_ne (fun _ => ?_) (fun hc => absurd (by decide) hc)
              refine zw_push hm_259 dX12_block_62 (v := .inl (0 : Int32)) rfl ?_
              refine zw_cv hm_259 dX12_block_63 v_12_110_12 hm_167 [.inl (0 : Int32)] [] rfl (zO_rt hS s_94 rfl) ⟨by omega, by omega⟩ rfl ?_
              show ma_wp X (d - 1) (w - 21) 167 0 [(0, .inr (.inr (some 94))), (1, .inl (0 : Int32))] [] S _
              refine zw_push hm_167 dX12_fails_0 (v := .inr (.inr (some 94))) rfl ?_
              refine zw_push hm_167 dX12_fails_1 (v := .inl (0 : Int32)) rfl ?_
              refine zw_pf hm_167 dX12_fails_2 (zO_is hS s_94) (zO_t hS s_94) p_12_1_12 zk_int ?_
              refine zw_push hm_167 dX12_fails_5 (v := .inl (0 : Int32)) rfl ?_
              refine zw_if0 hm_167 dX12_fails_6 (t := 13) rfl zc0_eq (fun _ => ?_) (fun hc => absurd (by decide) hc)
              refine zw_push hm_167 dX12_fails_13 (v := .inl (0 : Int32)) rfl ?_
              refine zw_bret hm_167 dX12_fails_14 (by decide) ?_
              show ma_wp X d w 259 66 [(3, .inl (1 : Int32)), (0, .inr (.inr (some 94))), (1, .inl a1), (2, .inl a2)] [.inl (0 : Int32)] (ma_put S 94 0 (.inl (0 : Int32))) Q
              refine zw_if0 hm_259 dX12_block_66 (t := 71) rfl zc0_eq (fun _ => ?_) (fun hc => absurd (by decide) hc)
              refine zw_push hm_259 dX12_block_71 (v := .inr (.inr (some 94))) rfl ?_
              refine zw_push hm_259 dX12_block_72 (v := .inl (0 : Int32)) rfl ?_
              refine zw_push hm_259 dX12_block_73 (v := .inr (.inr (some 94))) rfl ?_
              refine zw_gf hm_259 dX12_block_74 (v := .inl (mI S 94 11)) (zO_is (zO_pi hS) s_94) (zO_t (zO_pi hS) s_94) rfl f_12_202_12 rfl ?_
              exact zw_sub (ma_nd_of (ks := [0, 1, 2]) rfl (by decide)) (ma_nd_of (ks := [3, 0, 1, 2]) rfl (by decide)) (ma_le_cons rfl (ma_le_cons rfl (ma_le_cons rfl (ma_le_nil _)))) h
            · intro hc
              rw [if_pos (Classical.not_not.mp hc)] at h
              refine zw_push hm_259 dX12_block_50 (v := .inl (2 : Int32)) rfl ?_
              refine zw_goto hm_259 dX12_block_51 (t := 63) rfl ?_
              refine zw_cv hm_259 dX12_block_63 v_12_110_12 hm_167 [.inl (2 : Int32)] [] rfl (zO_rt hS s_94 rfl) ⟨by omega, by omega⟩ rfl ?_
              show ma_wp X (d - 1) (w - 21) 167 0 [(0, .inr (.inr (some 94))), (1, .inl (2 : Int32))] [] S _
              refine zw_push hm_167 dX12_fails_0 (v := .inr (.inr (some 94))) rfl ?_
              refine zw_push hm_167 dX12_fails_1 (v := .inl (2 : Int32)) rfl ?_
              refine zw_pf hm_167 dX12_fails_2 (zO_is hS s_94) (zO_t hS s_94) p_12_1_12 zk_int ?_
              refine zw_push hm_167 dX12_fails_5 (v := .inl (2 : Int32)) rfl ?_
              refine zw_if0 hm_167 dX12_fails_6 (t := 13) rfl zc0_eq (fun hc => absurd hc (by decide)) (fun _ => ?_)
              refine zw_push hm_167 dX12_fails_9 (v := .inl (1 : Int32)) rfl ?_
              refine zw_goto hm_167 dX12_fails_10 (t := 14) rfl ?_
              refine zw_bret hm_167 dX12_fails_14 (by decide) ?_
              show ma_wp X d w 259 66 [(3, .inl (1 : Int32)), (0, .inr (.inr (some 94))), (1, .inl a1), (2, .inl a2)] [.inl (1 : Int32)] (ma_put S 94 0 (.inl (2 : Int32))) Q
              refine zw_if0 hm_259 dX12_block_66 (t := 71) rfl zc0_eq (fun hc => absurd hc (by decide)) (fun _ => ?_)
              refine zw_push hm_259 dX12_block_69 (v := .inl (0 : Int32)) rfl ?_
              exact zw_iret hm_259 dX12_block_70 h
          · intro hc
            rw [if_neg hc] at h
            refine zw_push hm_259 dX12_block_39 (v := .inl (1 : Int32)) rfl ?_
            refine zw_goto hm_259 dX12_block_40 (t := 63) rfl ?_
            refine zw_cv hm_259 dX12_block_63 v_12_110_12 hm_167 [.inl (1 : Int32)] [] rfl (zO_rt hS s_94 rfl) ⟨by omega, by omega⟩ rfl ?_
            show ma_wp X (d - 1) (w - 21) 167 0 [(0, .inr (.inr (some 94))), (1, .inl (1 : Int32))] [] S _
            refine zw_push hm_167 dX12_fails_0 (v := .inr (.inr (some 94))) rfl ?_
            refine zw_push hm_167 dX12_fails_1 (v := .inl (1 : Int32)) rfl ?_
            refine zw_pf hm_167 dX12_fails_2 (zO_is hS s_94) (zO_t hS s_94) p_12_1_12 zk_int ?_
            refine zw_push hm_167 dX12_fails_5 (v := .inl (1 : Int32)) rfl ?_
            refine zw_if0 hm_167 dX12_fails_6 (t := 13) rfl zc0_eq (fun hc => absurd hc (by decide)) (fun _ => ?_)
            refine zw_push hm_167 dX12_fails_9 (v := .inl (1 : Int32)) rfl ?_
            refine zw_goto hm_167 dX12_fails_10 (t := 14) rfl ?_
            refine zw_bret hm_167 dX12_fails_14 (by decide) ?_
            show ma_wp X d w 259 66 [(3, .inl (1 : Int32)), (0, .inr (.inr (some 94))), (1, .inl a1), (2, .inl a2)] [.inl (1 : Int32)] (ma_put S 94 0 (.inl (1 : Int32))) Q
            refine zw_if0 hm_259 dX12_block_66 (t := 71) rfl zc0_eq (fun hc => absurd hc (by decide)) (fun _ => ?_)
            refine zw_push hm_259 dX12_block_69 (v := .inl (0 : Int32)) rfl ?_
            exact zw_iret hm_259 dX12_block_70 h
theorem g_163_0 {X : Nat × (Nat → Int32)} {d w : Nat} {S : ma_S} {Q : Option ma_V ⊕ Nat → ma_S → Prop} (a1 : Int32) (hd : 7 ≤ d) (hw : 109 ≤ w) (hS : zO S) (h : if a1 < 0 then (Q (.inr 2) (ma_bump S)) else (if a1 ≤ (13 : Int32) then (if a1 = 0 then (Q (.inl (some (.inl (mI S 64 1)))) S) else (if a1 = (1 : Int32) then (Q (.inl (some (.inl (mI S 64 7)))) S) else (((mR S 64 11) = none → Q (.inr 3) (ma_bump S)) ∧ (∀ c1, (mR S 64 11) = some c1 → if a1 = (2 : Int32) then (Q (.inl (some (.inl (mI S 69 7)))) S) else (if a1 = (3 : Int32) then (Q (.inl (some (.inl (mI S 69 8)))) S) else (if a1 = (4 : Int32) then (Q (.inl (some (.inl (mI S 69 6)))) S) else (if a1 = (5 : Int32) then (Q (.inl (some (.inl (mI S 69 9)))) S) else (if a1 = (6 : Int32) then (Q (.inl (some (.inl (mI S 69 10)))) S) else (if a1 = (7 : Int32) then (Q (.inl (some (.inl (mI S 69 11)))) S) else (if a1 = (8 : Int32) then (Q (.inl (some (.inl (mI S 69 12)))) S) else (if a1 = (9 : Int32) then (Q (.inl (some (.inl (mI S 69 5)))) S) else (if a1 = (10 : Int32) then (ma_wp X d w 163 165 [] [.inr (.inr (mR S 64 11))] S Q) else (if a1 = (11 : Int32) then (ma_wp X d w 163 170 [] [.inr (.inr (mR S 64 11))] S Q) else (if a1 = (12 : Int32) then (ma_wp X d w 163 175 [] [.inr (.inr (mR S 64 11))] S Q) else (ma_wp X d w 163 188 [] [.inr (.inr (mR S 64 11))] S Q))))))))))))))) else (Q (.inr 2) (ma_bump S)))) : ma_wp X d w 163 0 [(0, .inr (.inr (some 64))), (1, .inl a1)] [] S Q := by
  refine zw_push hm_163 dX11_count_0 (v := .inl a1) rfl ?_
  refine zw_if0 hm_163 dX11_count_1 (t := 10) rfl zc0_lt ?_ ?_
  · intro hc
    rw [if_pos hc] at h
    exact zw_thr hm_163 dX11_count_10 dX11_count_13 dX11_count_14 dX11_count_17 x_11_79_81 n_11_79 (by omega) (by show 0 + 81 ≤ w; omega) h
  · intro hc
    rw [if_neg hc] at h
    refine zw_push hm_163 dX11_count_4 (v := .inl a1) rfl ?_
    refine zw_push hm_163 dX11_count_5 (v := .inl (13 : Int32)) rfl ?_
    refine zw_if2 hm_163 dX11_count_7 (t := 18) rfl zc2_le ?_ ?_
    · intro hc
      rw [if_pos hc] at h
      refine zw_push hm_163 dX11_count_18 (v := .inl a1) rfl ?_
      refine zw_if0 hm_163 dX11_count_19 (t := 27) rfl zc0_ne ?_ ?_
      · intro hc
        rw [if_neg hc] at h
        refine zw_push hm_163 dX11_count_27 (v := .inl a1) rfl ?_
        refine zw_push hm_163 dX11_count_28 (v := .inl (1 : Int32)) rfl ?_
        refine zw_if2 hm_163 dX11_count_29 (t := 37) rfl zc2_ne ?_ ?_
        · intro hc
          rw [if_neg hc] at h
          refine zw_push hm_163 dX11_count_37 (v := .inr (.inr (some 64))) rfl ?_
          refine zw_cv hm_163 dX11_count_38 v_11_119_11 hm_144 [] [] rfl (zO_rt hS s_64 rfl) ⟨by omega, by omega⟩ rfl ?_
          show ma_wp X (d - 1) (w - 20) 144 0 [(0, .inr (.inr (some 64)))] [] S _
          refine zw_push hm_144 dX11_needCollector_0 (v := .inr (.inr (some 64))) rfl ?_
          refine zw_gf hm_144 dX11_needCollector_1 (v := .inr (.inr (mR S 64 11))) (zO_is hS s_64) (zO_t hS s_64) rfl f_11_98_11 rfl ?_
          refine zw_ifnonnull hm_144 dX11_needCollector_4 (t := 15) rfl ?_ ?_
          · intro hc
            have h := h.1 hc
            exact zw_thr hm_144 dX11_needCollector_7 dX11_needCollector_10 dX11_needCollector_11 dX11_needCollector_14 x_11_85_87 n_11_85 (by omega) (by show 0 + 81 ≤ (w - 20); omega) ⟨by decide, h⟩
          · intro c1 hc
            have h := h.2 c1 hc
            refine zw_push hm_144 dX11_needCollector_15 (v := .inr (.inr (some 64))) rfl ?_
            refine zw_gf hm_144 dX11_needCollector_16 (v := .inr (.inr (mR S 64 11))) (zO_is hS s_64) (zO_t hS s_64) rfl f_11_98_11 rfl ?_
            refine zw_aret hm_144 dX11_needCollector_19 ?_
            show ma_wp X d w 163 41 [(0, .inr (.inr (some 64))), (1, .inl a1)] [.inr (.inr (mR S 64 11))] S Q
            refine zw_sto hm_163 dX11_count_41 [(2, .inr (.inr (mR S 64 11))), (0, .inr (.inr (some 64))), (1, .inl a1)] rfl rfl rfl ?_
            refine zw_push hm_163 dX11_count_42 (v := .inl a1) rfl ?_
            by_cases hc0 : a1 = (2 : Int32)
            · rw [if_pos hc0] at h
              refine zw_jmp hm_163 dX11_count_43 (t := 100) (st' := []) rfl rfl rfl (ma_jmp_tab (by rw [hc0]; decide +kernel)) ?_
              refine zw_push hm_163 dX11_count_100 (v := .inr (.inr (some 64))) rfl ?_
              refine zw_gf hm_163 dX11_count_101 (v := .inr (.inr (some 69))) (zO_is hS s_64) (zO_t hS s_64) rfl f_11_26_11 (zO_f hS r_64_8) ?_
              refine zw_gf hm_163 dX11_count_104 (v := .inl (mI S 69 7)) (zO_is hS s_69) (zO_t hS s_69) rfl f_11_238_7 rfl ?_
              exact zw_iret hm_163 dX11_count_107 h
            rw [if_neg hc0] at h
            by_cases hc1 : a1 = (3 : Int32)
            · rw [if_pos hc1] at h
              refine zw_jmp hm_163 dX11_count_43 (t := 108) (st' := []) rfl rfl rfl (ma_jmp_tab (by rw [hc1]; decide +kernel)) ?_
              refine zw_push hm_163 dX11_count_108 (v := .inr (.inr (some 64))) rfl ?_
              refine zw_gf hm_163 dX11_count_109 (v := .inr (.inr (some 69))) (zO_is hS s_64) (zO_t hS s_64) rfl f_11_26_11 (zO_f hS r_64_8) ?_
              refine zw_gf hm_163 dX11_count_112 (v := .inl (mI S 69 8)) (zO_is hS s_69) (zO_t hS s_69) rfl f_11_241_7 rfl ?_
              exact zw_iret hm_163 dX11_count_115 h
            rw [if_neg hc1] at h
            by_cases hc2 : a1 = (4 : Int32)
            · rw [if_pos hc2] at h
              refine zw_jmp hm_163 dX11_count_43 (t := 116) (st' := []) rfl rfl rfl (ma_jmp_tab (by rw [hc2]; decide +kernel)) ?_
              refine zw_push hm_163 dX11_count_116 (v := .inr (.inr (some 64))) rfl ?_
              refine zw_gf hm_163 dX11_count_117 (v := .inr (.inr (some 69))) (zO_is hS s_64) (zO_t hS s_64) rfl f_11_26_11 (zO_f hS r_64_8) ?_
              refine zw_gf hm_163 dX11_count_120 (v := .inl (mI S 69 6)) (zO_is hS s_69) (zO_t hS s_69) rfl f_11_244_7 rfl ?_
              exact zw_iret hm_163 dX11_count_123 h
            rw [if_neg hc2] at h
            by_cases hc3 : a1 = (5 : Int32)
            · rw [if_pos hc3] at h
              refine zw_jmp hm_163 dX11_count_43 (t := 124) (st' := []) rfl rfl rfl (ma_jmp_tab (by rw [hc3]; decide +kernel)) ?_
              refine zw_push hm_163 dX11_count_124 (v := .inr (.inr (some 64))) rfl ?_
              refine zw_gf hm_163 dX11_count_125 (v := .inr (.inr (some 69))) (zO_is hS s_64) (zO_t hS s_64) rfl f_11_26_11 (zO_f hS r_64_8) ?_
              refine zw_gf hm_163 dX11_count_128 (v := .inl (mI S 69 9)) (zO_is hS s_69) (zO_t hS s_69) rfl f_11_247_7 rfl ?_
              exact zw_iret hm_163 dX11_count_131 h
            rw [if_neg hc3] at h
            by_cases hc4 : a1 = (6 : Int32)
            · rw [if_pos hc4] at h
              refine zw_jmp hm_163 dX11_count_43 (t := 132) (st' := []) rfl rfl rfl (ma_jmp_tab (by rw [hc4]; decide +kernel)) ?_
              refine zw_push hm_163 dX11_count_132 (v := .inr (.inr (some 64))) rfl ?_
              refine zw_gf hm_163 dX11_count_133 (v := .inr (.inr (some 69))) (zO_is hS s_64) (zO_t hS s_64) rfl f_11_26_11 (zO_f hS r_64_8) ?_
              refine zw_gf hm_163 dX11_count_136 (v := .inl (mI S 69 10)) (zO_is hS s_69) (zO_t hS s_69) rfl f_11_250_7 rfl ?_
              exact zw_iret hm_163 dX11_count_139 h
            rw [if_neg hc4] at h
            by_cases hc5 : a1 = (7 : Int32)
            · rw [if_pos hc5] at h
              refine zw_jmp hm_163 dX11_count_43 (t := 140) (st' := []) rfl rfl rfl (ma_jmp_tab (by rw [hc5]; decide +kernel)) ?_
              refine zw_push hm_163 dX11_count_140 (v := .inr (.inr (some 64))) rfl ?_
              refine zw_gf hm_163 dX11_count_141 (v := .inr (.inr (some 69))) (zO_is hS s_64) (zO_t hS s_64) rfl f_11_26_11 (zO_f hS r_64_8) ?_
              refine zw_gf hm_163 dX11_count_144 (v := .inl (mI S 69 11)) (zO_is hS s_69) (zO_t hS s_69) rfl f_11_253_7 rfl ?_
              exact zw_iret hm_163 dX11_count_147 h
            rw [if_neg hc5] at h
            by_cases hc6 : a1 = (8 : Int32)
            · rw [if_pos hc6] at h
              refine zw_jmp hm_163 dX11_count_43 (t := 148) (st' := []) rfl rfl rfl (ma_jmp_tab (by rw [hc6]; decide +kernel)) ?_
              refine zw_push hm_163 dX11_count_148 (v := .inr (.inr (some 64))) rfl ?_
              refine zw_gf hm_163 dX11_count_149 (v := .inr (.inr (some 69))) (zO_is hS s_64) (zO_t hS s_64) rfl f_11_26_11 (zO_f hS r_64_8) ?_
              refine zw_gf hm_163 dX11_count_152 (v := .inl (mI S 69 12)) (zO_is hS s_69) (zO_t hS s_69) rfl f_11_256_7 rfl ?_
              exact zw_iret hm_163 dX11_count_155 h
            rw [if_neg hc6] at h
            by_cases hc7 : a1 = (9 : Int32)
            · rw [if_pos hc7] at h
              refine zw_jmp hm_163 dX11_count_43 (t := 156) (st' := []) rfl rfl rfl (ma_jmp_tab (by rw [hc7]; decide +kernel)) ?_
              refine zw_push hm_163 dX11_count_156 (v := .inr (.inr (some 64))) rfl ?_
              refine zw_gf hm_163 dX11_count_157 (v := .inr (.inr (some 69))) (zO_is hS s_64) (zO_t hS s_64) rfl f_11_26_11 (zO_f hS r_64_8) ?_
              refine zw_gf hm_163 dX11_count_160 (v := .inl (mI S 69 5)) (zO_is hS s_69) (zO_t hS s_69) rfl f_11_259_7 rfl ?_
              exact zw_iret hm_163 dX11_count_163 h
            rw [if_neg hc7] at h
            by_cases hc8 : a1 = (10 : Int32)
            · rw [if_pos hc8] at h
              refine zw_jmp hm_163 dX11_count_43 (t := 164) (st' := []) rfl rfl rfl (ma_jmp_tab (by rw [hc8]; decide +kernel)) ?_
              refine zw_push hm_163 dX11_count_164 (v := .inr (.inr (mR S 64 11))) rfl ?_
              exact zw_sub (ma_nd_of (ks := []) rfl (by decide)) (ma_nd_of (ks := [2, 0, 1]) rfl (by decide)) (ma_le_nil _) h
            rw [if_neg hc8] at h
            by_cases hc9 : a1 = (11 : Int32)
            · rw [if_pos hc9] at h
              refine zw_jmp hm_163 dX11_count_43 (t := 169) (st' := []) rfl rfl rfl (ma_jmp_tab (by rw [hc9]; decide +kernel)) ?_
              refine zw_push hm_163 dX11_count_169 (v := .inr (.inr (mR S 64 11))) rfl ?_
              exact zw_sub (ma_nd_of (ks := []) rfl (by decide)) (ma_nd_of (ks := [2, 0, 1]) rfl (by decide)) (ma_le_nil _) h
            rw [if_neg hc9] at h
            by_cases hc10 : a1 = (12 : Int32)
            · rw [if_pos hc10] at h
              refine zw_jmp hm_163 dX11_count_43 (t := 174) (st' := []) rfl rfl rfl (ma_jmp_tab (by rw [hc10]; decide +kernel)) ?_
              refine zw_push hm_163 dX11_count_174 (v := .inr (.inr (mR S 64 11))) rfl ?_
              exact zw_sub (ma_nd_of (ks := []) rfl (by decide)) (ma_nd_of (ks := [2, 0, 1]) rfl (by decide)) (ma_le_nil _) h
            rw [if_neg hc10] at h
            refine zw_jmp hm_163 dX11_count_43 (t := 187) (st' := []) rfl rfl rfl (ma_jmp_def (m := 11) (by decide) (fun j hj => by
                have hj2 : j = 0 ∨ j = 1 ∨ j = 2 ∨ j = 3 ∨ j = 4 ∨ j = 5 ∨ j = 6 ∨ j = 7 ∨ j = 8 ∨ j = 9 ∨ j = 10 := by omega
                rcases hj2 with rfl | rfl | rfl | rfl | rfl | rfl | rfl | rfl | rfl | rfl | rfl
                · exact hc0
                · exact hc1
                · exact hc2
                · exact hc3
                · exact hc4
                · exact hc5
                · exact hc6
                · exact hc7
                · exact hc8
                · exact hc9
                · exact hc10
                ) rfl) ?_
            refine zw_push hm_163 dX11_count_187 (v := .inr (.inr (mR S 64 11))) rfl ?_
            exact zw_sub (ma_nd_of (ks := []) rfl (by decide)) (ma_nd_of (ks := [2, 0, 1]) rfl (by decide)) (ma_le_nil _) h
        · intro hc
          rw [if_pos (Classical.not_not.mp hc)] at h
          refine zw_push hm_163 dX11_count_32 (v := .inr (.inr (some 64))) rfl ?_
          refine zw_gf hm_163 dX11_count_33 (v := .inl (mI S 64 7)) (zO_is hS s_64) (zO_t hS s_64) rfl f_11_82_11 rfl ?_
          exact zw_iret hm_163 dX11_count_36 h
      · intro hc
        rw [if_pos (Classical.not_not.mp hc)] at h
        refine zw_push hm_163 dX11_count_22 (v := .inr (.inr (some 64))) rfl ?_
        refine zw_gf hm_163 dX11_count_23 (v := .inl (mI S 64 1)) (zO_is hS s_64) (zO_t hS s_64) rfl f_11_68_11 rfl ?_
        exact zw_iret hm_163 dX11_count_26 h
    · intro hc
      rw [if_neg hc] at h
      exact zw_thr hm_163 dX11_count_10 dX11_count_13 dX11_count_14 dX11_count_17 x_11_79_81 n_11_79 (by omega) (by show 0 + 81 ≤ w; omega) h
theorem g_260_0 {X : Nat × (Nat → Int32)} {d w : Nat} {S : ma_S} {Q : Option ma_V ⊕ Nat → ma_S → Prop} (a1 : Int32) (hd : 1 ≤ d) (hw : 22 ≤ w) (hS : zO S) (h : if a1 < 0 then (Q (.inl (some (.inl (0 : Int32)))) (ma_put S 94 0 (.inl (1 : Int32)))) else (if a1 ≤ (13 : Int32) then (if a1 ≤ (1 : Int32) then (if a1 = (0 : Int32) then (Q (.inl (some (.inl (mI S 94 3)))) (ma_put S 94 0 (.inl (0 : Int32)))) else (if a1 = (1 : Int32) then (Q (.inl (some (.inl (mI S 94 7)))) (ma_put S 94 0 (.inl (0 : Int32)))) else (if a1 = (2 : Int32) then (Q (.inl (some (.inl (mI S 94 44)))) (ma_put S 94 0 (.inl (0 : Int32)))) else (if a1 = (3 : Int32) then (Q (.inl (some (.inl (mI S 94 45)))) (ma_put S 94 0 (.inl (0 : Int32)))) else (if a1 = (4 : Int32) then (Q (.inl (some (.inl (mI S 94 46)))) (ma_put S 94 0 (.inl (0 : Int32)))) else (if a1 = (5 : Int32) then (Q (.inl (some (.inl (mI S 94 47)))) (ma_put S 94 0 (.inl (0 : Int32)))) else (if a1 = (6 : Int32) then (Q (.inl (some (.inl (mI S 94 48)))) (ma_put S 94 0 (.inl (0 : Int32)))) else (if a1 = (7 : Int32) then (Q (.inl (some (.inl (mI S 94 49)))) (ma_put S 94 0 (.inl (0 : Int32)))) else (if a1 = (8 : Int32) then (Q (.inl (some (.inl (mI S 94 50)))) (ma_put S 94 0 (.inl (0 : Int32)))) else (if a1 = (9 : Int32) then (Q (.inl (some (.inl (mI S 94 55)))) (ma_put S 94 0 (.inl (0 : Int32)))) else (if a1 = (10 : Int32) then (if (mI S 94 10) = (3 : Int32) then (ma_wp X d w 260 167 [] [.inr (.inr (some 94))] (ma_put S 94 0 (.inl (0 : Int32))) Q) else (if (mI S 94 10) = (6 : Int32) then (ma_wp X d w 260 183 [] [.inr (.inr (some 94))] (ma_put S 94 0 (.inl (0 : Int32))) Q) else (if (mI S 94 10) = (5 : Int32) then (if (mI S 94 58) = 0 then (Q (.inl (some (.inl (0 : Int32)))) (ma_put S 94 0 (.inl (0 : Int32)))) else (Q (.inl (some (.inl ((mI S 94 56) - (mI S 94 57))))) (ma_put S 94 0 (.inl (0 : Int32))))) else (Q (.inl (some (.inl (0 : Int32)))) (ma_put S 94 0 (.inl (0 : Int32))))))) else (if a1 = (11 : Int32) then (if (mI S 94 10) = (1 : Int32) then (Q (.inl (some (.inl (mI S 94 59)))) (ma_put S 94 0 (.inl (0 : Int32)))) else (if (mI S 94 10) = (2 : Int32) then (Q (.inl (some (.inl (mI S 94 59)))) (ma_put S 94 0 (.inl (0 : Int32)))) else (if (mI S 94 10) = (3 : Int32) then (Q (.inl (some (.inl (mI S 94 59)))) (ma_put S 94 0 (.inl (0 : Int32)))) else (if (mI S 94 10) = (6 : Int32) then ((0 ≤ (mI S 94 63) ∧ (mI S 94 63).toNatClampNeg < 128) ∧ (Q (.inl (some (.inl (((mI S 94 63) * (mI S 94 18)) + (mI S 116 (mI S 94 63).toNatClampNeg))))) (ma_put S 94 0 (.inl (0 : Int32))))) else (Q (.inl (some (.inl (0 : Int32)))) (ma_put S 94 0 (.inl (0 : Int32)))))))) else (if a1 = (12 : Int32) then (if (mI S 94 58) = 0 then (Q (.inl (some (.inl (0 : Int32)))) (ma_put S 94 0 (.inl (0 : Int32)))) else (Q (.inl (some (.inl (1 : Int32)))) (ma_put S 94 0 (.inl (0 : Int32))))) else (if (mI S 94 10) = (3 : Int32) then (Q (.inl (some (.inl (mI S 94 60)))) (ma_put S 94 0 (.inl (0 : Int32)))) else (if (mI S 94 10) = (6 : Int32) then (Q (.inl (some (.inl (mI S 94 63)))) (ma_put S 94 0 (.inl (0 : Int32)))) else (Q (.inl (some (.inl (0 : Int32)))) (ma_put S 94 0 (.inl (0 : Int32))))))))))))))))))) else (if (mI S 94 8) = 0 then (Q (.inl (some (.inl (0 : Int32)))) (ma_put S 94 0 (.inl (2 : Int32)))) else (if a1 = (0 : Int32) then (Q (.inl (some (.inl (mI S 94 3)))) (ma_put S 94 0 (.inl (0 : Int32)))) else (if a1 = (1 : Int32) then (Q (.inl (some (.inl (mI S 94 7)))) (ma_put S 94 0 (.inl (0 : Int32)))) else (if a1 = (2 : Int32) then (Q (.inl (some (.inl (mI S 94 44)))) (ma_put S 94 0 (.inl (0 : Int32)))) else (if a1 = (3 : Int32) then (Q (.inl (some (.inl (mI S 94 45)))) (ma_put S 94 0 (.inl (0 : Int32)))) else (if a1 = (4 : Int32) then (Q (.inl (some (.inl (mI S 94 46)))) (ma_put S 94 0 (.inl (0 : Int32)))) else (if a1 = (5 : Int32) then (Q (.inl (some (.inl (mI S 94 47)))) (ma_put S 94 0 (.inl (0 : Int32)))) else (if a1 = (6 : Int32) then (Q (.inl (some (.inl (mI S 94 48)))) (ma_put S 94 0 (.inl (0 : Int32)))) else (if a1 = (7 : Int32) then (Q (.inl (some (.inl (mI S 94 49)))) (ma_put S 94 0 (.inl (0 : Int32)))) else (if a1 = (8 : Int32) then (Q (.inl (some (.inl (mI S 94 50)))) (ma_put S 94 0 (.inl (0 : Int32)))) else (if a1 = (9 : Int32) then (Q (.inl (some (.inl (mI S 94 55)))) (ma_put S 94 0 (.inl (0 : Int32)))) else (if a1 = (10 : Int32) then (if (mI S 94 10) = (3 : Int32) then (ma_wp X d w 260 167 [] [.inr (.inr (some 94))] (ma_put S 94 0 (.inl (0 : Int32))) Q) else (if (mI S 94 10) = (6 : Int32) then (ma_wp X d w 260 183 [] [.inr (.inr (some 94))] (ma_put S 94 0 (.inl (0 : Int32))) Q) else (if (mI S 94 10) = (5 : Int32) then (if (mI S 94 58) = 0 then (Q (.inl (some (.inl (0 : Int32)))) (ma_put S 94 0 (.inl (0 : Int32)))) else (Q (.inl (some (.inl ((mI S 94 56) - (mI S 94 57))))) (ma_put S 94 0 (.inl (0 : Int32))))) else (Q (.inl (some (.inl (0 : Int32)))) (ma_put S 94 0 (.inl (0 : Int32))))))) else (if a1 = (11 : Int32) then (if (mI S 94 10) = (1 : Int32) then (Q (.inl (some (.inl (mI S 94 59)))) (ma_put S 94 0 (.inl (0 : Int32)))) else (if (mI S 94 10) = (2 : Int32) then (Q (.inl (some (.inl (mI S 94 59)))) (ma_put S 94 0 (.inl (0 : Int32)))) else (if (mI S 94 10) = (3 : Int32) then (Q (.inl (some (.inl (mI S 94 59)))) (ma_put S 94 0 (.inl (0 : Int32)))) else (if (mI S 94 10) = (6 : Int32) then ((0 ≤ (mI S 94 63) ∧ (mI S 94 63).toNatClampNeg < 128) ∧ (Q (.inl (some (.inl (((mI S 94 63) * (mI S 94 18)) + (mI S 116 (mI S 94 63).toNatClampNeg))))) (ma_put S 94 0 (.inl (0 : Int32))))) else (Q (.inl (some (.inl (0 : Int32)))) (ma_put S 94 0 (.inl (0 : Int32)))))))) else (if a1 = (12 : Int32) then (if (mI S 94 58) = 0 then (Q (.inl (some (.inl (0 : Int32)))) (ma_put S 94 0 (.inl (0 : Int32)))) else (Q (.inl (some (.inl (1 : Int32)))) (ma_put S 94 0 (.inl (0 : Int32))))) else (if (mI S 94 10) = (3 : Int32) then (Q (.inl (some (.inl (mI S 94 60)))) (ma_put S 94 0 (.inl (0 : Int32)))) else (if (mI S 94 10) = (6 : Int32) then (Q (.inl (some (.inl (mI S 94 63)))) (ma_put S 94 0 (.inl (0 : Int32)))) else (Q (.inl (some (.inl (0 : Int32)))) (ma_put S 94 0 (.inl (0 : Int32))))))))))))))))))))) else (Q (.inl (some (.inl (0 : Int32)))) (ma_put S 94 0 (.inl (1 : Int32)))))) : ma_wp X d w 260 0 [(0, .inr (.inr (some 94))), (1, .inl a1)] [] S Q := by
  refine zw_push hm_260 dX12_count_0 (v := .inr (.inr (some 94))) rfl ?_
  refine zw_push hm_260 dX12_count_1 (v := .inl a1) rfl ?_
  refine zw_if0 hm_260 dX12_count_2 (t := 11) rfl zc0_lt ?_ ?_
  · intro hc
    rw [if_pos hc] at h
    refine zw_push hm_260 dX12_count_11 (v := .inl (1 : Int32)) rfl ?_
    refine zw_goto hm_260 dX12_count_12 (t := 32) rfl ?_
    refine zw_cv hm_260 dX12_count_32 v_12_110_12 hm_167 [.inl (1 : Int32)] [] rfl (zO_rt hS s_94 rfl) ⟨by omega, by omega⟩ rfl ?_
    show ma_wp X (d - 1) (w - 21) 167 0 [(0, .inr (.inr (some 94))), (1, .inl (1 : Int32))] [] S _
    refine zw_push hm_167 dX12_fails_0 (v := .inr (.inr (some 94))) rfl ?_
    refine zw_push hm_167 dX12_fails_1 (v := .inl (1 : Int32)) rfl ?_
    refine zw_pf hm_167 dX12_fails_2 (zO_is hS s_94) (zO_t hS s_94) p_12_1_12 zk_int ?_
    refine zw_push hm_167 dX12_fails_5 (v := .inl (1 : Int32)) rfl ?_
    refine zw_if0 hm_167 dX12_fails_6 (t := 13) rfl zc0_eq (fun hc => absurd hc (by decide)) (fun _ => ?_)
    refine zw_push hm_167 dX12_fails_9 (v := .inl (1 : Int32)) rfl ?_
    refine zw_goto hm_167 dX12_fails_10 (t := 14) rfl ?_
    refine zw_bret hm_167 dX12_fails_14 (by decide) ?_
    show ma_wp X d w 260 35 [(0, .inr (.inr (some 94))), (1, .inl a1)] [.inl (1 : Int32)] (ma_put S 94 0 (.inl (1 : Int32))) Q
    refine zw_if0 hm_260 dX12_count_35 (t := 40) rfl zc0_eq (fun hc => absurd hc (by decide)) (fun _ => ?_)
    refine zw_push hm_260 dX12_count_38 (v := .inl (0 : Int32)) rfl ?_
    exact zw_iret hm_260 dX12_count_39 h
  · intro hc
    rw [if_neg hc] at h
    refine zw_push hm_260 dX12_count_5 (v := .inl a1) rfl ?_
    refine zw_push hm_260 dX12_count_6 (v := .inl (13 : Int32)) rfl ?_
    refine zw_if2 hm_260 dX12_count_8 (t := 15) rfl zc2_le ?_ ?_
    · intro hc
      rw [if_pos hc] at h
      refine zw_push hm_260 dX12_count_15 (v := .inl a1) rfl ?_
      refine zw_push hm_260 dX12_count_16 (v := .inl (1 : Int32)) rfl ?_
      refine zw_if2 hm_260 dX12_count_17 (t := 31) rfl zc2_le ?_ ?_
      · intro hc
        rw [if_pos hc] at h
        refine zw_push hm_260 dX12_count_31 (v := .inl (0 : Int32)) rfl ?_
        refine zw_cv hm_260 dX12_count_32 v_12_110_12 hm_167 [.inl (0 : Int32)] [] rfl (zO_rt hS s_94 rfl) ⟨by omega, by omega⟩ rfl ?_
        show ma_wp X (d - 1) (w - 21) 167 0 [(0, .inr (.inr (some 94))), (1, .inl (0 : Int32))] [] S _
        refine zw_push hm_167 dX12_fails_0 (v := .inr (.inr (some 94))) rfl ?_
        refine zw_push hm_167 dX12_fails_1 (v := .inl (0 : Int32)) rfl ?_
        refine zw_pf hm_167 dX12_fails_2 (zO_is hS s_94) (zO_t hS s_94) p_12_1_12 zk_int ?_
        refine zw_push hm_167 dX12_fails_5 (v := .inl (0 : Int32)) rfl ?_
        refine zw_if0 hm_167 dX12_fails_6 (t := 13) rfl zc0_eq (fun _ => ?_) (fun hc => absurd (by decide) hc)
        refine zw_push hm_167 dX12_fails_13 (v := .inl (0 : Int32)) rfl ?_
        refine zw_bret hm_167 dX12_fails_14 (by decide) ?_
        show ma_wp X d w 260 35 [(0, .inr (.inr (some 94))), (1, .inl a1)] [.inl (0 : Int32)] (ma_put S 94 0 (.inl (0 : Int32))) Q
        refine zw_if0 hm_260 dX12_count_35 (t := 40) rfl zc0_eq (fun _ => ?_) (fun hc => absurd (by decide) hc)
        refine zw_push hm_260 dX12_count_40 (v := .inl a1) rfl ?_
        by_cases hc0 : a1 = (0 : Int32)
        · rw [if_pos hc0] at h
          refine zw_jmp hm_260 dX12_count_41 (t := 108) (st' := []) rfl rfl rfl (ma_jmp_tab (by rw [hc0]; decide +kernel)) ?_
          refine zw_push hm_260 dX12_count_108 (v := .inr (.inr (some 94))) rfl ?_
          refine zw_gf hm_260 dX12_count_109 (v := .inl (mI S 94 3)) (zO_is (zO_pi hS) s_94) (zO_t (zO_pi hS) s_94) rfl f_12_107_12 rfl ?_
          exact zw_iret hm_260 dX12_count_112 h
        rw [if_neg hc0] at h
        by_cases hc1 : a1 = (1 : Int32)
        · rw [if_pos hc1] at h
          refine zw_jmp hm_260 dX12_count_41 (t := 113) (st' := []) rfl rfl rfl (ma_jmp_tab (by rw [hc1]; decide +kernel)) ?_
          refine zw_push hm_260 dX12_count_113 (v := .inr (.inr (some 94))) rfl ?_
          refine zw_gf hm_260 dX12_count_114 (v := .inl (mI S 94 7)) (zO_is (zO_pi hS) s_94) (zO_t (zO_pi hS) s_94) rfl f_12_118_12 rfl ?_
          exact zw_iret hm_260 dX12_count_117 h
        rw [if_neg hc1] at h
        by_cases hc2 : a1 = (2 : Int32)
        · rw [if_pos hc2] at h
          refine zw_jmp hm_260 dX12_count_41 (t := 118) (st' := []) rfl rfl rfl (ma_jmp_tab (by rw [hc2]; decide +kernel)) ?_
          refine zw_push hm_260 dX12_count_118 (v := .inr (.inr (some 94))) rfl ?_
          refine zw_gf hm_260 dX12_count_119 (v := .inl (mI S 94 44)) (zO_is (zO_pi hS) s_94) (zO_t (zO_pi hS) s_94) rfl f_12_240_12 rfl ?_
          exact zw_iret hm_260 dX12_count_122 h
        rw [if_neg hc2] at h
        by_cases hc3 : a1 = (3 : Int32)
        · rw [if_pos hc3] at h
          refine zw_jmp hm_260 dX12_count_41 (t := 123) (st' := []) rfl rfl rfl (ma_jmp_tab (by rw [hc3]; decide +kernel)) ?_
          refine zw_push hm_260 dX12_count_123 (v := .inr (.inr (some 94))) rfl ?_
          refine zw_gf hm_260 dX12_count_124 (v := .inl (mI S 94 45)) (zO_is (zO_pi hS) s_94) (zO_t (zO_pi hS) s_94) rfl f_12_243_12 rfl ?_
          exact zw_iret hm_260 dX12_count_127 h
        rw [if_neg hc3] at h
        by_cases hc4 : a1 = (4 : Int32)
        · rw [if_pos hc4] at h
          refine zw_jmp hm_260 dX12_count_41 (t := 128) (st' := []) rfl rfl rfl (ma_jmp_tab (by rw [hc4]; decide +kernel)) ?_
          refine zw_push hm_260 dX12_count_128 (v := .inr (.inr (some 94))) rfl ?_
          refine zw_gf hm_260 dX12_count_129 (v := .inl (mI S 94 46)) (zO_is (zO_pi hS) s_94) (zO_t (zO_pi hS) s_94) rfl f_12_246_12 rfl ?_
          exact zw_iret hm_260 dX12_count_132 h
        rw [if_neg hc4] at h
        by_cases hc5 : a1 = (5 : Int32)
        · rw [if_pos hc5] at h
          refine zw_jmp hm_260 dX12_count_41 (t := 133) (st' := []) rfl rfl rfl (ma_jmp_tab (by rw [hc5]; decide +kernel)) ?_
          refine zw_push hm_260 dX12_count_133 (v := .inr (.inr (some 94))) rfl ?_
          refine zw_gf hm_260 dX12_count_134 (v := .inl (mI S 94 47)) (zO_is (zO_pi hS) s_94) (zO_t (zO_pi hS) s_94) rfl f_12_249_12 rfl ?_
          exact zw_iret hm_260 dX12_count_137 h
        rw [if_neg hc5] at h
        by_cases hc6 : a1 = (6 : Int32)
        · rw [if_pos hc6] at h
          refine zw_jmp hm_260 dX12_count_41 (t := 138) (st' := []) rfl rfl rfl (ma_jmp_tab (by rw [hc6]; decide +kernel)) ?_
          refine zw_push hm_260 dX12_count_138 (v := .inr (.inr (some 94))) rfl ?_
          refine zw_gf hm_260 dX12_count_139 (v := .inl (mI S 94 48)) (zO_is (zO_pi hS) s_94) (zO_t (zO_pi hS) s_94) rfl f_12_252_12 rfl ?_
          exact zw_iret hm_260 dX12_count_142 h
        rw [if_neg hc6] at h
        by_cases hc7 : a1 = (7 : Int32)
        · rw [if_pos hc7] at h
          refine zw_jmp hm_260 dX12_count_41 (t := 143) (st' := []) rfl rfl rfl (ma_jmp_tab (by rw [hc7]; decide +kernel)) ?_
          refine zw_push hm_260 dX12_count_143 (v := .inr (.inr (some 94))) rfl ?_
          refine zw_gf hm_260 dX12_count_144 (v := .inl (mI S 94 49)) (zO_is (zO_pi hS) s_94) (zO_t (zO_pi hS) s_94) rfl f_12_255_12 rfl ?_
          exact zw_iret hm_260 dX12_count_147 h
        rw [if_neg hc7] at h
        by_cases hc8 : a1 = (8 : Int32)
        · rw [if_pos hc8] at h
          refine zw_jmp hm_260 dX12_count_41 (t := 148) (st' := []) rfl rfl rfl (ma_jmp_tab (by rw [hc8]; decide +kernel)) ?_
          refine zw_push hm_260 dX12_count_148 (v := .inr (.inr (some 94))) rfl ?_
          refine zw_gf hm_260 dX12_count_149 (v := .inl (mI S 94 50)) (zO_is (zO_pi hS) s_94) (zO_t (zO_pi hS) s_94) rfl f_12_258_12 rfl ?_
          exact zw_iret hm_260 dX12_count_152 h
        rw [if_neg hc8] at h
        by_cases hc9 : a1 = (9 : Int32)
        · rw [if_pos hc9] at h
          refine zw_jmp hm_260 dX12_count_41 (t := 153) (st' := []) rfl rfl rfl (ma_jmp_tab (by rw [hc9]; decide +kernel)) ?_
          refine zw_push hm_260 dX12_count_153 (v := .inr (.inr (some 94))) rfl ?_
          refine zw_gf hm_260 dX12_count_154 (v := .inl (mI S 94 55)) (zO_is (zO_pi hS) s_94) (zO_t (zO_pi hS) s_94) rfl f_12_261_12 rfl ?_
          exact zw_iret hm_260 dX12_count_157 h
        rw [if_neg hc9] at h
        by_cases hc10 : a1 = (10 : Int32)
        · rw [if_pos hc10] at h
          refine zw_jmp hm_260 dX12_count_41 (t := 158) (st' := []) rfl rfl rfl (ma_jmp_tab (by rw [hc10]; decide +kernel)) ?_
          refine zw_push hm_260 dX12_count_158 (v := .inr (.inr (some 94))) rfl ?_
          refine zw_gf hm_260 dX12_count_159 (v := .inl (mI S 94 10)) (zO_is (zO_pi hS) s_94) (zO_t (zO_pi hS) s_94) rfl f_12_199_12 rfl ?_
          refine zw_push hm_260 dX12_count_162 (v := .inl (3 : Int32)) rfl ?_
          refine zw_if2 hm_260 dX12_count_163 (t := 173) rfl zc2_ne ?_ ?_
          · intro hc
            rw [if_neg hc] at h
            refine zw_push hm_260 dX12_count_173 (v := .inr (.inr (some 94))) rfl ?_
            refine zw_gf hm_260 dX12_count_174 (v := .inl (mI S 94 10)) (zO_is (zO_pi hS) s_94) (zO_t (zO_pi hS) s_94) rfl f_12_199_12 rfl ?_
            refine zw_push hm_260 dX12_count_177 (v := .inl (6 : Int32)) rfl ?_
            refine zw_if2 hm_260 dX12_count_179 (t := 189) rfl zc2_ne ?_ ?_
            · intro hc
              rw [if_neg hc] at h
              refine zw_push hm_260 dX12_count_189 (v := .inr (.inr (some 94))) rfl ?_
              refine zw_gf hm_260 dX12_count_190 (v := .inl (mI S 94 10)) (zO_is (zO_pi hS) s_94) (zO_t (zO_pi hS) s_94) rfl f_12_199_12 rfl ?_
              refine zw_push hm_260 dX12_count_193 (v := .inl (5 : Int32)) rfl ?_
              refine zw_if2 hm_260 dX12_count_194 (t := 216) rfl zc2_ne ?_ ?_
              · intro hc
                rw [if_neg hc] at h
                refine zw_push hm_260 dX12_count_216 (v := .inl (0 : Int32)) rfl ?_
                exact zw_iret hm_260 dX12_count_217 h
              · intro hc
                rw [if_pos (Classical.not_not.mp hc)] at h
                refine zw_push hm_260 dX12_count_197 (v := .inr (.inr (some 94))) rfl ?_
                refine zw_gf hm_260 dX12_count_198 (v := .inl (mI S 94 58)) (zO_is (zO_pi hS) s_94) (zO_t (zO_pi hS) s_94) rfl f_12_270_12 rfl ?_
                refine zw_if0 hm_260 dX12_count_201 (t := 216) rfl zc0_eq ?_ ?_
                · intro hc
                  rw [if_pos hc] at h
                  refine zw_push hm_260 dX12_count_216 (v := .inl (0 : Int32)) rfl ?_
                  exact zw_iret hm_260 dX12_count_217 h
                · intro hc
                  rw [if_neg hc] at h
                  refine zw_push hm_260 dX12_count_204 (v := .inr (.inr (some 94))) rfl ?_
                  refine zw_gf hm_260 dX12_count_205 (v := .inl (mI S 94 56)) (zO_is (zO_pi hS) s_94) (zO_t (zO_pi hS) s_94) rfl f_12_264_12 rfl ?_
                  refine zw_push hm_260 dX12_count_208 (v := .inr (.inr (some 94))) rfl ?_
                  refine zw_gf hm_260 dX12_count_209 (v := .inl (mI S 94 57)) (zO_is (zO_pi hS) s_94) (zO_t (zO_pi hS) s_94) rfl f_12_267_12 rfl ?_
                  refine zw_stk hm_260 dX12_count_212 (st' := [.inl ((mI S 94 56) - (mI S 94 57))]) rfl rfl ?_
                  refine zw_goto hm_260 dX12_count_213 (t := 217) rfl ?_
                  exact zw_iret hm_260 dX12_count_217 h
            · intro hc
              rw [if_pos (Classical.not_not.mp hc)] at h
              refine zw_push hm_260 dX12_count_182 (v := .inr (.inr (some 94))) rfl ?_
              exact zw_sub (ma_nd_of (ks := []) rfl (by decide)) (ma_nd_of (ks := [0, 1]) rfl (by decide)) (ma_le_nil _) h
          · intro hc
            rw [if_pos (Classical.not_not.mp hc)] at h
            refine zw_push hm_260 dX12_count_166 (v := .inr (.inr (some 94))) rfl ?_
            exact zw_sub (ma_nd_of (ks := []) rfl (by decide)) (ma_nd_of (ks := [0, 1]) rfl (by decide)) (ma_le_nil _) h
        rw [if_neg hc10] at h
        by_cases hc11 : a1 = (11 : Int32)
        · rw [if_pos hc11] at h
          refine zw_jmp hm_260 dX12_count_41 (t := 218) (st' := []) rfl rfl rfl (ma_jmp_tab (by rw [hc11]; decide +kernel)) ?_
          refine zw_push hm_260 dX12_count_218 (v := .inr (.inr (some 94))) rfl ?_
          refine zw_gf hm_260 dX12_count_219 (v := .inl (mI S 94 10)) (zO_is (zO_pi hS) s_94) (zO_t (zO_pi hS) s_94) rfl f_12_199_12 rfl ?_
          refine zw_push hm_260 dX12_count_222 (v := .inl (1 : Int32)) rfl ?_
          refine zw_if2 hm_260 dX12_count_223 (t := 242) rfl zc2_eq ?_ ?_
          · intro hc
            rw [if_pos hc] at h
            refine zw_push hm_260 dX12_count_242 (v := .inr (.inr (some 94))) rfl ?_
            refine zw_gf hm_260 dX12_count_243 (v := .inl (mI S 94 59)) (zO_is (zO_pi hS) s_94) (zO_t (zO_pi hS) s_94) rfl f_12_276_12 rfl ?_
            refine zw_goto hm_260 dX12_count_246 (t := 281) rfl ?_
            exact zw_iret hm_260 dX12_count_281 h
          · intro hc
            rw [if_neg hc] at h
            refine zw_push hm_260 dX12_count_226 (v := .inr (.inr (some 94))) rfl ?_
            refine zw_gf hm_260 dX12_count_227 (v := .inl (mI S 94 10)) (zO_is (zO_pi hS) s_94) (zO_t (zO_pi hS) s_94) rfl f_12_199_12 rfl ?_
            refine zw_push hm_260 dX12_count_230 (v := .inl (2 : Int32)) rfl ?_
            refine zw_if2 hm_260 dX12_count_231 (t := 242) rfl zc2_eq ?_ ?_
            · intro hc
              rw [if_pos hc] at h
              refine zw_push hm_260 dX12_count_242 (v := .inr (.inr (some 94))) rfl ?_
              refine zw_gf hm_260 dX12_count_243 (v := .inl (mI S 94 59)) (zO_is (zO_pi hS) s_94) (zO_t (zO_pi hS) s_94) rfl f_12_276_12 rfl ?_
              refine zw_goto hm_260 dX12_count_246 (t := 281) rfl ?_
              exact zw_iret hm_260 dX12_count_281 h
            · intro hc
              rw [if_neg hc] at h
              refine zw_push hm_260 dX12_count_234 (v := .inr (.inr (some 94))) rfl ?_
              refine zw_gf hm_260 dX12_count_235 (v := .inl (mI S 94 10)) (zO_is (zO_pi hS) s_94) (zO_t (zO_pi hS) s_94) rfl f_12_199_12 rfl ?_
              refine zw_push hm_260 dX12_count_238 (v := .inl (3 : Int32)) rfl ?_
              refine zw_if2 hm_260 dX12_count_239 (t := 249) rfl zc2_ne ?_ ?_
              · intro hc
                rw [if_neg hc] at h
                refine zw_push hm_260 dX12_count_249 (v := .inr (.inr (some 94))) rfl ?_
                refine zw_gf hm_260 dX12_count_250 (v := .inl (mI S 94 10)) (zO_is (zO_pi hS) s_94) (zO_t (zO_pi hS) s_94) rfl f_12_199_12 rfl ?_
                refine zw_push hm_260 dX12_count_253 (v := .inl (6 : Int32)) rfl ?_
                refine zw_if2 hm_260 dX12_count_255 (t := 280) rfl zc2_ne ?_ ?_
                · intro hc
                  rw [if_neg hc] at h
                  refine zw_push hm_260 dX12_count_280 (v := .inl (0 : Int32)) rfl ?_
                  exact zw_iret hm_260 dX12_count_281 h
                · intro hc
                  rw [if_pos (Classical.not_not.mp hc)] at h
                  refine zw_push hm_260 dX12_count_258 (v := .inr (.inr (some 94))) rfl ?_
                  refine zw_gf hm_260 dX12_count_259 (v := .inl (mI S 94 63)) (zO_is (zO_pi hS) s_94) (zO_t (zO_pi hS) s_94) rfl f_12_285_12 rfl ?_
                  refine zw_push hm_260 dX12_count_262 (v := .inr (.inr (some 94))) rfl ?_
                  refine zw_gf hm_260 dX12_count_263 (v := .inl (mI S 94 18)) (zO_is (zO_pi hS) s_94) (zO_t (zO_pi hS) s_94) rfl f_12_222_12 rfl ?_
                  refine zw_stk hm_260 dX12_count_266 (st' := [.inl ((mI S 94 63) * (mI S 94 18))]) rfl rfl ?_
                  refine zw_push hm_260 dX12_count_267 (v := .inr (.inr (some 94))) rfl ?_
                  refine zw_gf hm_260 dX12_count_268 (v := .inr (.inr (some 116))) (zO_is (zO_pi hS) s_94) (zO_t (zO_pi hS) s_94) rfl f_12_80_12 (zO_f (zO_pi hS) r_94_65) ?_
                  refine zw_push hm_260 dX12_count_271 (v := .inr (.inr (some 94))) rfl ?_
                  refine zw_gf hm_260 dX12_count_272 (v := .inl (mI S 94 63)) (zO_is (zO_pi hS) s_94) (zO_t (zO_pi hS) s_94) rfl f_12_285_12 rfl ?_
                  obtain ⟨hg, h⟩ := h
                  refine zw_ia hm_260 dX12_count_275 (zO_is (zO_pi hS) s_116) (zO_h (zO_pi hS) s_116) rfl hg ?_
                  show ma_wp X d w 260 276 [(0, .inr (.inr (some 94))), (1, .inl a1)] [.inl (mI S 116 (mI S 94 63).toNatClampNeg), .inl ((mI S 94 63) * (mI S 94 18))] (ma_put S 94 0 (.inl (0 : Int32))) _
                  refine zw_stk hm_260 dX12_count_276 (st' := [.inl (((mI S 94 63) * (mI S 94 18)) + (mI S 116 (mI S 94 63).toNatClampNeg))]) rfl rfl ?_
                  refine zw_goto hm_260 dX12_count_277 (t := 281) rfl ?_
                  exact zw_iret hm_260 dX12_count_281 h
              · intro hc
                rw [if_pos (Classical.not_not.mp hc)] at h
                refine zw_push hm_260 dX12_count_242 (v := .inr (.inr (some 94))) rfl ?_
                refine zw_gf hm_260 dX12_count_243 (v := .inl (mI S 94 59)) (zO_is (zO_pi hS) s_94) (zO_t (zO_pi hS) s_94) rfl f_12_276_12 rfl ?_
                refine zw_goto hm_260 dX12_count_246 (t := 281) rfl ?_
                exact zw_iret hm_260 dX12_count_281 h
        rw [if_neg hc11] at h
        by_cases hc12 : a1 = (12 : Int32)
        · rw [if_pos hc12] at h
          refine zw_jmp hm_260 dX12_count_41 (t := 282) (st' := []) rfl rfl rfl (ma_jmp_tab (by rw [hc12]; decide +kernel)) ?_
          refine zw_push hm_260 dX12_count_282 (v := .inr (.inr (some 94))) rfl ?_
          refine zw_gf hm_260 dX12_count_283 (v := .inl (mI S 94 58)) (zO_is (zO_pi hS) s_94) (zO_t (zO_pi hS) s_94) rfl f_12_270_12 rfl ?_
          refine zw_if0 hm_260 dX12_count_286 (t := 293) rfl zc0_eq ?_ ?_
          · intro hc
            rw [if_pos hc] at h
            refine zw_push hm_260 dX12_count_293 (v := .inl (0 : Int32)) rfl ?_
            exact zw_iret hm_260 dX12_count_294 h
          · intro hc
            rw [if_neg hc] at h
            refine zw_push hm_260 dX12_count_289 (v := .inl (1 : Int32)) rfl ?_
            refine zw_goto hm_260 dX12_count_290 (t := 294) rfl ?_
            exact zw_iret hm_260 dX12_count_294 h
        rw [if_neg hc12] at h
        refine zw_jmp hm_260 dX12_count_41 (t := 295) (st' := []) rfl rfl rfl (ma_jmp_def (m := 13) (by decide) (fun j hj => by
            have hj2 : j = 0 ∨ j = 1 ∨ j = 2 ∨ j = 3 ∨ j = 4 ∨ j = 5 ∨ j = 6 ∨ j = 7 ∨ j = 8 ∨ j = 9 ∨ j = 10 ∨ j = 11 ∨ j = 12 := by omega
            rcases hj2 with rfl | rfl | rfl | rfl | rfl | rfl | rfl | rfl | rfl | rfl | rfl | rfl | rfl
            · exact hc0
            · exact hc1
            · exact hc2
            · exact hc3
            · exact hc4
            · exact hc5
            · exact hc6
            · exact hc7
            · exact hc8
            · exact hc9
            · exact hc10
            · exact hc11
            · exact hc12
            ) rfl) ?_
        refine zw_push hm_260 dX12_count_295 (v := .inr (.inr (some 94))) rfl ?_
        refine zw_gf hm_260 dX12_count_296 (v := .inl (mI S 94 10)) (zO_is (zO_pi hS) s_94) (zO_t (zO_pi hS) s_94) rfl f_12_199_12 rfl ?_
        refine zw_push hm_260 dX12_count_299 (v := .inl (3 : Int32)) rfl ?_
        refine zw_if2 hm_260 dX12_count_300 (t := 310) rfl zc2_ne ?_ ?_
        · intro hc
          rw [if_neg hc] at h
          refine zw_push hm_260 dX12_count_310 (v := .inr (.inr (some 94))) rfl ?_
          refine zw_gf hm_260 dX12_count_311 (v := .inl (mI S 94 10)) (zO_is (zO_pi hS) s_94) (zO_t (zO_pi hS) s_94) rfl f_12_199_12 rfl ?_
          refine zw_push hm_260 dX12_count_314 (v := .inl (6 : Int32)) rfl ?_
          refine zw_if2 hm_260 dX12_count_316 (t := 326) rfl zc2_ne ?_ ?_
          · intro hc
            rw [if_neg hc] at h
            refine zw_push hm_260 dX12_count_326 (v := .inl (0 : Int32)) rfl ?_
            exact zw_iret hm_260 dX12_count_327 h
          · intro hc
            rw [if_pos (Classical.not_not.mp hc)] at h
            refine zw_push hm_260 dX12_count_319 (v := .inr (.inr (some 94))) rfl ?_
            refine zw_gf hm_260 dX12_count_320 (v := .inl (mI S 94 63)) (zO_is (zO_pi hS) s_94) (zO_t (zO_pi hS) s_94) rfl f_12_285_12 rfl ?_
            refine zw_goto hm_260 dX12_count_323 (t := 327) rfl ?_
            exact zw_iret hm_260 dX12_count_327 h
        · intro hc
          rw [if_pos (Classical.not_not.mp hc)] at h
          refine zw_push hm_260 dX12_count_303 (v := .inr (.inr (some 94))) rfl ?_
          refine zw_gf hm_260 dX12_count_304 (v := .inl (mI S 94 60)) (zO_is (zO_pi hS) s_94) (zO_t (zO_pi hS) s_94) rfl f_12_279_12 rfl ?_
          refine zw_goto hm_260 dX12_count_307 (t := 327) rfl ?_
          exact zw_iret hm_260 dX12_count_327 h
      · intro hc
        rw [if_neg hc] at h
        refine zw_push hm_260 dX12_count_20 (v := .inr (.inr (some 94))) rfl ?_
        refine zw_gf hm_260 dX12_count_21 (v := .inl (mI S 94 8)) (zO_is hS s_94) (zO_t hS s_94) rfl f_12_237_12 rfl ?_
        refine zw_if0 hm_260 dX12_count_24 (t := 31) rfl zc0_ne ?_ ?_
        · intro hc
          rw [if_neg hc] at h
          refine zw_push hm_260 dX12_count_31 (v := .inl (0 : Int32)) rfl ?_
          refine zw_cv hm_260 dX12_count_32 v_12_110_12 hm_167 [.inl (0 : Int32)] [] rfl (zO_rt hS s_94 rfl) ⟨by omega, by omega⟩ rfl ?_
          show ma_wp X (d - 1) (w - 21) 167 0 [(0, .inr (.inr (some 94))), (1, .inl (0 : Int32))] [] S _
          refine zw_push hm_167 dX12_fails_0 (v := .inr (.inr (some 94))) rfl ?_
          refine zw_push hm_167 dX12_fails_1 (v := .inl (0 : Int32)) rfl ?_
          refine zw_pf hm_167 dX12_fails_2 (zO_is hS s_94) (zO_t hS s_94) p_12_1_12 zk_int ?_
          refine zw_push hm_167 dX12_fails_5 (v := .inl (0 : Int32)) rfl ?_
          refine zw_if0 hm_167 dX12_fails_6 (t := 13) rfl zc0_eq (fun _ => ?_) (fun hc => absurd (by decide) hc)
          refine zw_push hm_167 dX12_fails_13 (v := .inl (0 : Int32)) rfl ?_
          refine zw_bret hm_167 dX12_fails_14 (by decide) ?_
          show ma_wp X d w 260 35 [(0, .inr (.inr (some 94))), (1, .inl a1)] [.inl (0 : Int32)] (ma_put S 94 0 (.inl (0 : Int32))) Q
          refine zw_if0 hm_260 dX12_count_35 (t := 40) rfl zc0_eq (fun _ => ?_) (fun hc => absurd (by decide) hc)
          refine zw_push hm_260 dX12_count_40 (v := .inl a1) rfl ?_
          by_cases hc0 : a1 = (0 : Int32)
          · rw [if_pos hc0] at h
            refine zw_jmp hm_260 dX12_count_41 (t := 108) (st' := []) rfl rfl rfl (ma_jmp_tab (by rw [hc0]; decide +kernel)) ?_
            refine zw_push hm_260 dX12_count_108 (v := .inr (.inr (some 94))) rfl ?_
            refine zw_gf hm_260 dX12_count_109 (v := .inl (mI S 94 3)) (zO_is (zO_pi hS) s_94) (zO_t (zO_pi hS) s_94) rfl f_12_107_12 rfl ?_
            exact zw_iret hm_260 dX12_count_112 h
          rw [if_neg hc0] at h
          by_cases hc1 : a1 = (1 : Int32)
          · rw [if_pos hc1] at h
            refine zw_jmp hm_260 dX12_count_41 (t := 113) (st' := []) rfl rfl rfl (ma_jmp_tab (by rw [hc1]; decide +kernel)) ?_
            refine zw_push hm_260 dX12_count_113 (v := .inr (.inr (some 94))) rfl ?_
            refine zw_gf hm_260 dX12_count_114 (v := .inl (mI S 94 7)) (zO_is (zO_pi hS) s_94) (zO_t (zO_pi hS) s_94) rfl f_12_118_12 rfl ?_
            exact zw_iret hm_260 dX12_count_117 h
          rw [if_neg hc1] at h
          by_cases hc2 : a1 = (2 : Int32)
          · rw [if_pos hc2] at h
            refine zw_jmp hm_260 dX12_count_41 (t := 118) (st' := []) rfl rfl rfl (ma_jmp_tab (by rw [hc2]; decide +kernel)) ?_
            refine zw_push hm_260 dX12_count_118 (v := .inr (.inr (some 94))) rfl ?_
            refine zw_gf hm_260 dX12_count_119 (v := .inl (mI S 94 44)) (zO_is (zO_pi hS) s_94) (zO_t (zO_pi hS) s_94) rfl f_12_240_12 rfl ?_
            exact zw_iret hm_260 dX12_count_122 h
          rw [if_neg hc2] at h
          by_cases hc3 : a1 = (3 : Int32)
          · rw [if_pos hc3] at h
            refine zw_jmp hm_260 dX12_count_41 (t := 123) (st' := []) rfl rfl rfl (ma_jmp_tab (by rw [hc3]; decide +kernel)) ?_
            refine zw_push hm_260 dX12_count_123 (v := .inr (.inr (some 94))) rfl ?_
            refine zw_gf hm_260 dX12_count_124 (v := .inl (mI S 94 45)) (zO_is (zO_pi hS) s_94) (zO_t (zO_pi hS) s_94) rfl f_12_243_12 rfl ?_
            exact zw_iret hm_260 dX12_count_127 h
          rw [if_neg hc3] at h
          by_cases hc4 : a1 = (4 : Int32)
          · rw [if_pos hc4] at h
            refine zw_jmp hm_260 dX12_count_41 (t := 128) (st' := []) rfl rfl rfl (ma_jmp_tab (by rw [hc4]; decide +kernel)) ?_
            refine zw_push hm_260 dX12_count_128 (v := .inr (.inr (some 94))) rfl ?_
            refine zw_gf hm_260 dX12_count_129 (v := .inl (mI S 94 46)) (zO_is (zO_pi hS) s_94) (zO_t (zO_pi hS) s_94) rfl f_12_246_12 rfl ?_
            exact zw_iret hm_260 dX12_count_132 h
          rw [if_neg hc4] at h
          by_cases hc5 : a1 = (5 : Int32)
          · rw [if_pos hc5] at h
            refine zw_jmp hm_260 dX12_count_41 (t := 133) (st' := []) rfl rfl rfl (ma_jmp_tab (by rw [hc5]; decide +kernel)) ?_
            refine zw_push hm_260 dX12_count_133 (v := .inr (.inr (some 94))) rfl ?_
            refine zw_gf hm_260 dX12_count_134 (v := .inl (mI S 94 47)) (zO_is (zO_pi hS) s_94) (zO_t (zO_pi hS) s_94) rfl f_12_249_12 rfl ?_
            exact zw_iret hm_260 dX12_count_137 h
          rw [if_neg hc5] at h
          by_cases hc6 : a1 = (6 : Int32)
          · rw [if_pos hc6] at h
            refine zw_jmp hm_260 dX12_count_41 (t := 138) (st' := []) rfl rfl rfl (ma_jmp_tab (by rw [hc6]; decide +kernel)) ?_
            refine zw_push hm_260 dX12_count_138 (v := .inr (.inr (some 94))) rfl ?_
            refine zw_gf hm_260 dX12_count_139 (v := .inl (mI S 94 48)) (zO_is (zO_pi hS) s_94) (zO_t (zO_pi hS) s_94) rfl f_12_252_12 rfl ?_
            exact zw_iret hm_260 dX12_count_142 h
          rw [if_neg hc6] at h
          by_cases hc7 : a1 = (7 : Int32)
          · rw [if_pos hc7] at h
            refine zw_jmp hm_260 dX12_count_41 (t := 143) (st' := []) rfl rfl rfl (ma_jmp_tab (by rw [hc7]; decide +kernel)) ?_
            refine zw_push hm_260 dX12_count_143 (v := .inr (.inr (some 94))) rfl ?_
            refine zw_gf hm_260 dX12_count_144 (v := .inl (mI S 94 49)) (zO_is (zO_pi hS) s_94) (zO_t (zO_pi hS) s_94) rfl f_12_255_12 rfl ?_
            exact zw_iret hm_260 dX12_count_147 h
          rw [if_neg hc7] at h
          by_cases hc8 : a1 = (8 : Int32)
          · rw [if_pos hc8] at h
            refine zw_jmp hm_260 dX12_count_41 (t := 148) (st' := []) rfl rfl rfl (ma_jmp_tab (by rw [hc8]; decide +kernel)) ?_
            refine zw_push hm_260 dX12_count_148 (v := .inr (.inr (some 94))) rfl ?_
            refine zw_gf hm_260 dX12_count_149 (v := .inl (mI S 94 50)) (zO_is (zO_pi hS) s_94) (zO_t (zO_pi hS) s_94) rfl f_12_258_12 rfl ?_
            exact zw_iret hm_260 dX12_count_152 h
          rw [if_neg hc8] at h
          by_cases hc9 : a1 = (9 : Int32)
          · rw [if_pos hc9] at h
            refine zw_jmp hm_260 dX12_count_41 (t := 153) (st' := []) rfl rfl rfl (ma_jmp_tab (by rw [hc9]; decide +kernel)) ?_
            refine zw_push hm_260 dX12_count_153 (v := .inr (.inr (some 94))) rfl ?_
            refine zw_gf hm_260 dX12_count_154 (v := .inl (mI S 94 55)) (zO_is (zO_pi hS) s_94) (zO_t (zO_pi hS) s_94) rfl f_12_261_12 rfl ?_
            exact zw_iret hm_260 dX12_count_157 h
          rw [if_neg hc9] at h
          by_cases hc10 : a1 = (10 : Int32)
          · rw [if_pos hc10] at h
            refine zw_jmp hm_260 dX12_count_41 (t := 158) (st' := []) rfl rfl rfl (ma_jmp_tab (by rw [hc10]; decide +kernel)) ?_
            refine zw_push hm_260 dX12_count_158 (v := .inr (.inr (some 94))) rfl ?_
            refine zw_gf hm_260 dX12_count_159 (v := .inl (mI S 94 10)) (zO_is (zO_pi hS) s_94) (zO_t (zO_pi hS) s_94) rfl f_12_199_12 rfl ?_
            refine zw_push hm_260 dX12_count_162 (v := .inl (3 : Int32)) rfl ?_
            refine zw_if2 hm_260 dX12_count_163 (t := 173) rfl zc2_ne ?_ ?_
            · intro hc
              rw [if_neg hc] at h
              refine zw_push hm_260 dX12_count_173 (v := .inr (.inr (some 94))) rfl ?_
              refine zw_gf hm_260 dX12_count_174 (v := .inl (mI S 94 10)) (zO_is (zO_pi hS) s_94) (zO_t (zO_pi hS) s_94) rfl f_12_199_12 rfl ?_
              refine zw_push hm_260 dX12_count_177 (v := .inl (6 : Int32)) rfl ?_
              refine zw_if2 hm_260 dX12_count_179 (t := 189) rfl zc2_ne ?_ ?_
              · intro hc
                rw [if_neg hc] at h
                refine zw_push hm_260 dX12_count_189 (v := .inr (.inr (some 94))) rfl ?_
                refine zw_gf hm_260 dX12_count_190 (v := .inl (mI S 94 10)) (zO_is (zO_pi hS) s_94) (zO_t (zO_pi hS) s_94) rfl f_12_199_12 rfl ?_
                refine zw_push hm_260 dX12_count_193 (v := .inl (5 : Int32)) rfl ?_
                refine zw_if2 hm_260 dX12_count_194 (t := 216) rfl zc2_ne ?_ ?_
                · intro hc
                  rw [if_neg hc] at h
                  refine zw_push hm_260 dX12_count_216 (v := .inl (0 : Int32)) rfl ?_
                  exact zw_iret hm_260 dX12_count_217 h
                · intro hc
                  rw [if_pos (Classical.not_not.mp hc)] at h
                  refine zw_push hm_260 dX12_count_197 (v := .inr (.inr (some 94))) rfl ?_
                  refine zw_gf hm_260 dX12_count_198 (v := .inl (mI S 94 58)) (zO_is (zO_pi hS) s_94) (zO_t (zO_pi hS) s_94) rfl f_12_270_12 rfl ?_
                  refine zw_if0 hm_260 dX12_count_201 (t := 216) rfl zc0_eq ?_ ?_
                  · intro hc
                    rw [if_pos hc] at h
                    refine zw_push hm_260 dX12_count_216 (v := .inl (0 : Int32)) rfl ?_
                    exact zw_iret hm_260 dX12_count_217 h
                  · intro hc
                    rw [if_neg hc] at h
                    refine zw_push hm_260 dX12_count_204 (v := .inr (.inr (some 94))) rfl ?_
                    refine zw_gf hm_260 dX12_count_205 (v := .inl (mI S 94 56)) (zO_is (zO_pi hS) s_94) (zO_t (zO_pi hS) s_94) rfl f_12_264_12 rfl ?_
                    refine zw_push hm_260 dX12_count_208 (v := .inr (.inr (some 94))) rfl ?_
                    refine zw_gf hm_260 dX12_count_209 (v := .inl (mI S 94 57)) (zO_is (zO_pi hS) s_94) (zO_t (zO_pi hS) s_94) rfl f_12_267_12 rfl ?_
                    refine zw_stk hm_260 dX12_count_212 (st' := [.inl ((mI S 94 56) - (mI S 94 57))]) rfl rfl ?_
                    refine zw_goto hm_260 dX12_count_213 (t := 217) rfl ?_
                    exact zw_iret hm_260 dX12_count_217 h
              · intro hc
                rw [if_pos (Classical.not_not.mp hc)] at h
                refine zw_push hm_260 dX12_count_182 (v := .inr (.inr (some 94))) rfl ?_
                exact zw_sub (ma_nd_of (ks := []) rfl (by decide)) (ma_nd_of (ks := [0, 1]) rfl (by decide)) (ma_le_nil _) h
            · intro hc
              rw [if_pos (Classical.not_not.mp hc)] at h
              refine zw_push hm_260 dX12_count_166 (v := .inr (.inr (some 94))) rfl ?_
              exact zw_sub (ma_nd_of (ks := []) rfl (by decide)) (ma_nd_of (ks := [0, 1]) rfl (by decide)) (ma_le_nil _) h
          rw [if_neg hc10] at h
          by_cases hc11 : a1 = (11 : Int32)
          · rw [if_pos hc11] at h
            refine zw_jmp hm_260 dX12_count_41 (t := 218) (st' := []) rfl rfl rfl (ma_jmp_tab (by rw [hc11]; decide +kernel)) ?_
            refine zw_push hm_260 dX12_count_218 (v := .inr (.inr (some 94))) rfl ?_
            refine zw_gf hm_260 dX12_count_219 (v := .inl (mI S 94 10)) (zO_is (zO_pi hS) s_94) (zO_t (zO_pi hS) s_94) rfl f_12_199_12 rfl ?_
            refine zw_push hm_260 dX12_count_222 (v := .inl (1 : Int32)) rfl ?_
            refine zw_if2 hm_260 dX12_count_223 (t := 242) rfl zc2_eq ?_ ?_
            · intro hc
              rw [if_pos hc] at h
              refine zw_push hm_260 dX12_count_242 (v := .inr (.inr (some 94))) rfl ?_
              refine zw_gf hm_260 dX12_count_243 (v := .inl (mI S 94 59)) (zO_is (zO_pi hS) s_94) (zO_t (zO_pi hS) s_94) rfl f_12_276_12 rfl ?_
              refine zw_goto hm_260 dX12_count_246 (t := 281) rfl ?_
              exact zw_iret hm_260 dX12_count_281 h
            · intro hc
              rw [if_neg hc] at h
              refine zw_push hm_260 dX12_count_226 (v := .inr (.inr (some 94))) rfl ?_
              refine zw_gf hm_260 dX12_count_227 (v := .inl (mI S 94 10)) (zO_is (zO_pi hS) s_94) (zO_t (zO_pi hS) s_94) rfl f_12_199_12 rfl ?_
              refine zw_push hm_260 dX12_count_230 (v := .inl (2 : Int32)) rfl ?_
              refine zw_if2 hm_260 dX12_count_231 (t := 242) rfl zc2_eq ?_ ?_
              · intro hc
                rw [if_pos hc] at h
                refine zw_push hm_260 dX12_count_242 (v := .inr (.inr (some 94))) rfl ?_
                refine zw_gf hm_260 dX12_count_243 (v := .inl (mI S 94 59)) (zO_is (zO_pi hS) s_94) (zO_t (zO_pi hS) s_94) rfl f_12_276_12 rfl ?_
                refine zw_goto hm_260 dX12_count_246 (t := 281) rfl ?_
                exact zw_iret hm_260 dX12_count_281 h
              · intro hc
                rw [if_neg hc] at h
                refine zw_push hm_260 dX12_count_234 (v := .inr (.inr (some 94))) rfl ?_
                refine zw_gf hm_260 dX12_count_235 (v := .inl (mI S 94 10)) (zO_is (zO_pi hS) s_94) (zO_t (zO_pi hS) s_94) rfl f_12_199_12 rfl ?_
                refine zw_push hm_260 dX12_count_238 (v := .inl (3 : Int32)) rfl ?_
                refine zw_if2 hm_260 dX12_count_239 (t := 249) rfl zc2_ne ?_ ?_
                · intro hc
                  rw [if_neg hc] at h
                  refine zw_push hm_260 dX12_count_249 (v := .inr (.inr (some 94))) rfl ?_
                  refine zw_gf hm_260 dX12_count_250 (v := .inl (mI S 94 10)) (zO_is (zO_pi hS) s_94) (zO_t (zO_pi hS) s_94) rfl f_12_199_12 rfl ?_
                  refine zw_push hm_260 dX12_count_253 (v := .inl (6 : Int32)) rfl ?_
                  refine zw_if2 hm_260 dX12_count_255 (t := 280) rfl zc2_ne ?_ ?_
                  · intro hc
                    rw [if_neg hc] at h
                    refine zw_push hm_260 dX12_count_280 (v := .inl (0 : Int32)) rfl ?_
                    exact zw_iret hm_260 dX12_count_281 h
                  · intro hc
                    rw [if_pos (Classical.not_not.mp hc)] at h
                    refine zw_push hm_260 dX12_count_258 (v := .inr (.inr (some 94))) rfl ?_
                    refine zw_gf hm_260 dX12_count_259 (v := .inl (mI S 94 63)) (zO_is (zO_pi hS) s_94) (zO_t (zO_pi hS) s_94) rfl f_12_285_12 rfl ?_
                    refine zw_push hm_260 dX12_count_262 (v := .inr (.inr (some 94))) rfl ?_
                    refine zw_gf hm_260 dX12_count_263 (v := .inl (mI S 94 18)) (zO_is (zO_pi hS) s_94) (zO_t (zO_pi hS) s_94) rfl f_12_222_12 rfl ?_
                    refine zw_stk hm_260 dX12_count_266 (st' := [.inl ((mI S 94 63) * (mI S 94 18))]) rfl rfl ?_
                    refine zw_push hm_260 dX12_count_267 (v := .inr (.inr (some 94))) rfl ?_
                    refine zw_gf hm_260 dX12_count_268 (v := .inr (.inr (some 116))) (zO_is (zO_pi hS) s_94) (zO_t (zO_pi hS) s_94) rfl f_12_80_12 (zO_f (zO_pi hS) r_94_65) ?_
                    refine zw_push hm_260 dX12_count_271 (v := .inr (.inr (some 94))) rfl ?_
                    refine zw_gf hm_260 dX12_count_272 (v := .inl (mI S 94 63)) (zO_is (zO_pi hS) s_94) (zO_t (zO_pi hS) s_94) rfl f_12_285_12 rfl ?_
                    obtain ⟨hg, h⟩ := h
                    refine zw_ia hm_260 dX12_count_275 (zO_is (zO_pi hS) s_116) (zO_h (zO_pi hS) s_116) rfl hg ?_
                    show ma_wp X d w 260 276 [(0, .inr (.inr (some 94))), (1, .inl a1)] [.inl (mI S 116 (mI S 94 63).toNatClampNeg), .inl ((mI S 94 63) * (mI S 94 18))] (ma_put S 94 0 (.inl (0 : Int32))) _
                    refine zw_stk hm_260 dX12_count_276 (st' := [.inl (((mI S 94 63) * (mI S 94 18)) + (mI S 116 (mI S 94 63).toNatClampNeg))]) rfl rfl ?_
                    refine zw_goto hm_260 dX12_count_277 (t := 281) rfl ?_
                    exact zw_iret hm_260 dX12_count_281 h
                · intro hc
                  rw [if_pos (Classical.not_not.mp hc)] at h
                  refine zw_push hm_260 dX12_count_242 (v := .inr (.inr (some 94))) rfl ?_
                  refine zw_gf hm_260 dX12_count_243 (v := .inl (mI S 94 59)) (zO_is (zO_pi hS) s_94) (zO_t (zO_pi hS) s_94) rfl f_12_276_12 rfl ?_
                  refine zw_goto hm_260 dX12_count_246 (t := 281) rfl ?_
                  exact zw_iret hm_260 dX12_count_281 h
          rw [if_neg hc11] at h
          by_cases hc12 : a1 = (12 : Int32)
          · rw [if_pos hc12] at h
            refine zw_jmp hm_260 dX12_count_41 (t := 282) (st' := []) rfl rfl rfl (ma_jmp_tab (by rw [hc12]; decide +kernel)) ?_
            refine zw_push hm_260 dX12_count_282 (v := .inr (.inr (some 94))) rfl ?_
            refine zw_gf hm_260 dX12_count_283 (v := .inl (mI S 94 58)) (zO_is (zO_pi hS) s_94) (zO_t (zO_pi hS) s_94) rfl f_12_270_12 rfl ?_
            refine zw_if0 hm_260 dX12_count_286 (t := 293) rfl zc0_eq ?_ ?_
            · intro hc
              rw [if_pos hc] at h
              refine zw_push hm_260 dX12_count_293 (v := .inl (0 : Int32)) rfl ?_
              exact zw_iret hm_260 dX12_count_294 h
            · intro hc
              rw [if_neg hc] at h
              refine zw_push hm_260 dX12_count_289 (v := .inl (1 : Int32)) rfl ?_
              refine zw_goto hm_260 dX12_count_290 (t := 294) rfl ?_
              exact zw_iret hm_260 dX12_count_294 h
          rw [if_neg hc12] at h
          refine zw_jmp hm_260 dX12_count_41 (t := 295) (st' := []) rfl rfl rfl (ma_jmp_def (m := 13) (by decide) (fun j hj => by
              have hj2 : j = 0 ∨ j = 1 ∨ j = 2 ∨ j = 3 ∨ j = 4 ∨ j = 5 ∨ j = 6 ∨ j = 7 ∨ j = 8 ∨ j = 9 ∨ j = 10 ∨ j = 11 ∨ j = 12 := by omega
              rcases hj2 with rfl | rfl | rfl | rfl | rfl | rfl | rfl | rfl | rfl | rfl | rfl | rfl | rfl
              · exact hc0
              · exact hc1
              · exact hc2
              · exact hc3
              · exact hc4
              · exact hc5
              · exact hc6
              · exact hc7
              · exact hc8
              · exact hc9
              · exact hc10
              · exact hc11
              · exact hc12
              ) rfl) ?_
          refine zw_push hm_260 dX12_count_295 (v := .inr (.inr (some 94))) rfl ?_
          refine zw_gf hm_260 dX12_count_296 (v := .inl (mI S 94 10)) (zO_is (zO_pi hS) s_94) (zO_t (zO_pi hS) s_94) rfl f_12_199_12 rfl ?_
          refine zw_push hm_260 dX12_count_299 (v := .inl (3 : Int32)) rfl ?_
          refine zw_if2 hm_260 dX12_count_300 (t := 310) rfl zc2_ne ?_ ?_
          · intro hc
            rw [if_neg hc] at h
            refine zw_push hm_260 dX12_count_310 (v := .inr (.inr (some 94))) rfl ?_
            refine zw_gf hm_260 dX12_count_311 (v := .inl (mI S 94 10)) (zO_is (zO_pi hS) s_94) (zO_t (zO_pi hS) s_94) rfl f_12_199_12 rfl ?_
            refine zw_push hm_260 dX12_count_314 (v := .inl (6 : Int32)) rfl ?_
            refine zw_if2 hm_260 dX12_count_316 (t := 326) rfl zc2_ne ?_ ?_
            · intro hc
              rw [if_neg hc] at h
              refine zw_push hm_260 dX12_count_326 (v := .inl (0 : Int32)) rfl ?_
              exact zw_iret hm_260 dX12_count_327 h
            · intro hc
              rw [if_pos (Classical.not_not.mp hc)] at h
              refine zw_push hm_260 dX12_count_319 (v := .inr (.inr (some 94))) rfl ?_
              refine zw_gf hm_260 dX12_count_320 (v := .inl (mI S 94 63)) (zO_is (zO_pi hS) s_94) (zO_t (zO_pi hS) s_94) rfl f_12_285_12 rfl ?_
              refine zw_goto hm_260 dX12_count_323 (t := 327) rfl ?_
              exact zw_iret hm_260 dX12_count_327 h
          · intro hc
            rw [if_pos (Classical.not_not.mp hc)] at h
            refine zw_push hm_260 dX12_count_303 (v := .inr (.inr (some 94))) rfl ?_
            refine zw_gf hm_260 dX12_count_304 (v := .inl (mI S 94 60)) (zO_is (zO_pi hS) s_94) (zO_t (zO_pi hS) s_94) rfl f_12_279_12 rfl ?_
            refine zw_goto hm_260 dX12_count_307 (t := 327) rfl ?_
            exact zw_iret hm_260 dX12_count_327 h
        · intro hc
          rw [if_pos (Classical.not_not.mp hc)] at h
          refine zw_push hm_260 dX12_count_27 (v := .inl (2 : Int32)) rfl ?_
          refine zw_goto hm_260 dX12_count_28 (t := 32) rfl ?_
          refine zw_cv hm_260 dX12_count_32 v_12_110_12 hm_167 [.inl (2 : Int32)] [] rfl (zO_rt hS s_94 rfl) ⟨by omega, by omega⟩ rfl ?_
          show ma_wp X (d - 1) (w - 21) 167 0 [(0, .inr (.inr (some 94))), (1, .inl (2 : Int32))] [] S _
          refine zw_push hm_167 dX12_fails_0 (v := .inr (.inr (some 94))) rfl ?_
          refine zw_push hm_167 dX12_fails_1 (v := .inl (2 : Int32)) rfl ?_
          refine zw_pf hm_167 dX12_fails_2 (zO_is hS s_94) (zO_t hS s_94) p_12_1_12 zk_int ?_
          refine zw_push hm_167 dX12_fails_5 (v := .inl (2 : Int32)) rfl ?_
          refine zw_if0 hm_167 dX12_fails_6 (t := 13) rfl zc0_eq (fun hc => absurd hc (by decide)) (fun _ => ?_)
          refine zw_push hm_167 dX12_fails_9 (v := .inl (1 : Int32)) rfl ?_
          refine zw_goto hm_167 dX12_fails_10 (t := 14) rfl ?_
          refine zw_bret hm_167 dX12_fails_14 (by decide) ?_
          show ma_wp X d w 260 35 [(0, .inr (.inr (some 94))), (1, .inl a1)] [.inl (1 : Int32)] (ma_put S 94 0 (.inl (2 : Int32))) Q
          refine zw_if0 hm_260 dX12_count_35 (t := 40) rfl zc0_eq (fun hc => absurd hc (by decide)) (fun _ => ?_)
          refine zw_push hm_260 dX12_count_38 (v := .inl (0 : Int32)) rfl ?_
          exact zw_iret hm_260 dX12_count_39 h
    · intro hc
      rw [if_neg hc] at h
      refine zw_push hm_260 dX12_count_11 (v := .inl (1 : Int32)) rfl ?_
      refine zw_goto hm_260 dX12_count_12 (t := 32) rfl ?_
      refine zw_cv hm_260 dX12_count_32 v_12_110_12 hm_167 [.inl (1 : Int32)] [] rfl (zO_rt hS s_94 rfl) ⟨by omega, by omega⟩ rfl ?_
      show ma_wp X (d - 1) (w - 21) 167 0 [(0, .inr (.inr (some 94))), (1, .inl (1 : Int32))] [] S _
      refine zw_push hm_167 dX12_fails_0 (v := .inr (.inr (some 94))) rfl ?_
      refine zw_push hm_167 dX12_fails_1 (v := .inl (1 : Int32)) rfl ?_
      refine zw_pf hm_167 dX12_fails_2 (zO_is hS s_94) (zO_t hS s_94) p_12_1_12 zk_int ?_
      refine zw_push hm_167 dX12_fails_5 (v := .inl (1 : Int32)) rfl ?_
      refine zw_if0 hm_167 dX12_fails_6 (t := 13) rfl zc0_eq (fun hc => absurd hc (by decide)) (fun _ => ?_)
      refine zw_push hm_167 dX12_fails_9 (v := .inl (1 : Int32)) rfl ?_
      refine zw_goto hm_167 dX12_fails_10 (t := 14) rfl ?_
      refine zw_bret hm_167 dX12_fails_14 (by decide) ?_
      show ma_wp X d w 260 35 [(0, .inr (.inr (some 94))), (1, .inl a1)] [.inl (1 : Int32)] (ma_put S 94 0 (.inl (1 : Int32))) Q
      refine zw_if0 hm_260 dX12_count_35 (t := 40) rfl zc0_eq (fun hc => absurd hc (by decide)) (fun _ => ?_)
      refine zw_push hm_260 dX12_count_38 (v := .inl (0 : Int32)) rfl ?_
      exact zw_iret hm_260 dX12_count_39 h
theorem g_143_0 {X : Nat × (Nat → Int32)} {d w : Nat} {S : ma_S} {Q : Option ma_V ⊕ Nat → ma_S → Prop} (a1 a2 : Int32) (a3 : Int64) (a5 : Int32) (hd : 7 ≤ d) (hw : 182 ≤ w) (hS : zO S) (h : ((mR S 64 11) = none → Q (.inr 3) (ma_bump S)) ∧ (∀ c1, (mR S 64 11) = some c1 → if (512 : Int32) ≤ (mI S 69 6) then (Q (.inl (some (.inl (-1 : Int32)))) S) else (ma_wp X d w 143 24 [(0, .inr (.inr (some 64))), (1, .inl a1), (2, .inl a2), (3, .inr (.inl a3)), (5, .inl a5), (6, .inr (.inr (mR S 64 11)))] [.inl (a2 + (1 : Int32)), .inr (.inr (mR S 64 11))] S Q))) : ma_wp X d w 143 0 [(0, .inr (.inr (some 64))), (1, .inl a1), (2, .inl a2), (3, .inr (.inl a3)), (5, .inl a5)] [] S Q := by
  refine zw_push hm_143 dX11_addObject_0 (v := .inr (.inr (some 64))) rfl ?_
  refine zw_cv hm_143 dX11_addObject_1 v_11_119_11 hm_144 [] [] rfl (zO_rt hS s_64 rfl) ⟨by omega, by omega⟩ rfl ?_
  show ma_wp X (d - 1) (w - 20) 144 0 [(0, .inr (.inr (some 64)))] [] S _
  refine zw_push hm_144 dX11_needCollector_0 (v := .inr (.inr (some 64))) rfl ?_
  refine zw_gf hm_144 dX11_needCollector_1 (v := .inr (.inr (mR S 64 11))) (zO_is hS s_64) (zO_t hS s_64) rfl f_11_98_11 rfl ?_
  refine zw_ifnonnull hm_144 dX11_needCollector_4 (t := 15) rfl ?_ ?_
  · intro hc
    have h := h.1 hc
    exact zw_thr hm_144 dX11_needCollector_7 dX11_needCollector_10 dX11_needCollector_11 dX11_needCollector_14 x_11_85_87 n_11_85 (by omega) (by show 0 + 81 ≤ (w - 20); omega) ⟨by decide, h⟩
  · intro c1 hc
    have h := h.2 c1 hc
    refine zw_push hm_144 dX11_needCollector_15 (v := .inr (.inr (some 64))) rfl ?_
    refine zw_gf hm_144 dX11_needCollector_16 (v := .inr (.inr (mR S 64 11))) (zO_is hS s_64) (zO_t hS s_64) rfl f_11_98_11 rfl ?_
    refine zw_aret hm_144 dX11_needCollector_19 ?_
    show ma_wp X d w 143 4 [(0, .inr (.inr (some 64))), (1, .inl a1), (2, .inl a2), (3, .inr (.inl a3)), (5, .inl a5)] [.inr (.inr (mR S 64 11))] S Q
    refine zw_sto hm_143 dX11_addObject_4 [(6, .inr (.inr (mR S 64 11))), (0, .inr (.inr (some 64))), (1, .inl a1), (2, .inl a2), (3, .inr (.inl a3)), (5, .inl a5)] rfl rfl rfl ?_
    refine zw_push hm_143 dX11_addObject_6 (v := .inr (.inr (some 64))) rfl ?_
    refine zw_gf hm_143 dX11_addObject_7 (v := .inr (.inr (some 69))) (zO_is hS s_64) (zO_t hS s_64) rfl f_11_26_11 (zO_f hS r_64_8) ?_
    refine zw_gf hm_143 dX11_addObject_10 (v := .inl (mI S 69 6)) (zO_is hS s_69) (zO_t hS s_69) rfl f_11_244_7 rfl ?_
    refine zw_push hm_143 dX11_addObject_13 (v := .inl (512 : Int32)) rfl ?_
    refine zw_if2 hm_143 dX11_addObject_16 (t := 30) rfl zc2_ge ?_ ?_
    · intro hc
      rw [if_pos hc] at h
      refine zw_push hm_143 dX11_addObject_30 (v := .inl (-1 : Int32)) rfl ?_
      refine zw_sto hm_143 dX11_addObject_31 [(7, .inl (-1 : Int32)), (6, .inr (.inr (mR S 64 11))), (0, .inr (.inr (some 64))), (1, .inl a1), (2, .inl a2), (3, .inr (.inl a3)), (5, .inl a5)] rfl rfl rfl ?_
      refine zw_push hm_143 dX11_addObject_33 (v := .inl (-1 : Int32)) rfl ?_
      refine zw_push hm_143 dX11_addObject_35 (v := .inl (-1 : Int32)) rfl ?_
      refine zw_if2 hm_143 dX11_addObject_36 (t := 41) rfl zc2_ne (fun hc => absurd hc (by decide)) (fun _ => ?_)
      refine zw_push hm_143 dX11_addObject_39 (v := .inl (-1 : Int32)) rfl ?_
      exact zw_iret hm_143 dX11_addObject_40 h
    · intro hc
      rw [if_neg hc] at h
      refine zw_push hm_143 dX11_addObject_19 (v := .inr (.inr (mR S 64 11))) rfl ?_
      refine zw_push hm_143 dX11_addObject_21 (v := .inl a2) rfl ?_
      refine zw_push hm_143 dX11_addObject_22 (v := .inl (1 : Int32)) rfl ?_
      refine zw_stk hm_143 dX11_addObject_23 (st' := [.inl (a2 + (1 : Int32)), .inr (.inr (mR S 64 11))]) rfl rfl ?_
      exact zw_sub (ma_nd_of (ks := [0, 1, 2, 3, 5, 6]) rfl (by decide)) (ma_nd_of (ks := [6, 0, 1, 2, 3, 5]) rfl (by decide)) (ma_le_cons rfl (ma_le_cons rfl (ma_le_cons rfl (ma_le_cons rfl (ma_le_cons rfl (ma_le_cons rfl (ma_le_nil _))))))) h
theorem gf_1_0 {X : Nat × (Nat → Int32)} {d w : Nat} {S : ma_S} {Q : Option ma_V → ma_S → Prop} (a1 : Int32) (a2 : Int32) (a3 : Int32) (a4 : Int32) (a5 : Int32) (hd : 12 ≤ d) (hw : 467 ≤ w) (hS : zO S) (h : ma_wp X (d - 1) (w - 25) 137 0 [(0, .inr (.inr (some 64))), (1, .inl a1), (2, .inl a2), (3, .inl a3), (4, .inl a4), (5, .inl a5)] [] S (zi (fun v2 S1 => zO S1 ∧ (Q (some (.inl (0 : Int32))) (ma_put S1 125 0 (.inr (.inl (v2.toInt64)))))) (fun x S1 => ∃ c, ma_hd method_3_code 8 x 11 [(0, 16, 19, 13)] = some c ∧ Q (some (.inl c)) S1))) : ma_fp X 1 d w 0 [(0, .inr (.inr (some 64))), (1, .inl a1), (2, .inl a2), (3, .inl a3), (4, .inl a4), (5, .inl a5), (6, .inr (.inr (some 125)))] [] S Q := by
  refine zf_push fm_1 dF1_0 (v := .inr (.inr (some 125))) rfl ?_
  refine zf_push fm_1 dF1_2 (v := .inl (0 : Int32)) rfl ?_
  refine zf_push fm_1 dF1_3 (v := .inr (.inr (some 64))) rfl ?_
  refine zf_push fm_1 dF1_4 (v := .inl a1) rfl ?_
  refine zf_push fm_1 dF1_5 (v := .inl a2) rfl ?_
  refine zf_push fm_1 dF1_6 (v := .inl a3) rfl ?_
  refine zf_push fm_1 dF1_7 (v := .inl a4) rfl ?_
  refine zf_push fm_1 dF1_9 (v := .inl a5) rfl ?_
  refine zf_cv fm_1 dF1_11 v_14_7_11 hm_137 [.inl a5, .inl a4, .inl a3, .inl a2, .inl a1] [.inl (0 : Int32), .inr (.inr (some 125))] rfl (zO_rt hS s_64 rfl) ⟨by omega, by omega⟩ rfl (zw_mono h (zi_go ?_ ?_))
  · intro v2 S1 hv
    obtain ⟨hS1, h⟩ := hv
    refine zf_stk fm_1 dF1_14 (st' := [.inr (.inl (v2.toInt64)), .inl (0 : Int32), .inr (.inr (some 125))]) rfl rfl ?_
    refine zf_one fm_1 dF1_15 (oo_las (zO_is hS1 s_125) (zO_h hS1 s_125) (a := 0) rfl ⟨by decide, by decide⟩) ?_
    refine zf_goto fm_1 dF1_16 (t := 23) rfl ?_
    refine zf_push fm_1 dF1_23 (v := .inl (0 : Int32)) rfl ?_
    exact zf_iret fm_1 dF1_24 h
  · intro x S9 hx
    exact ⟨⟨by decide, rfl⟩, hx⟩
theorem gf_2_0 {X : Nat × (Nat → Int32)} {d w : Nat} {S : ma_S} {Q : Option ma_V → ma_S → Prop} (a1 : Int32) (hd : 12 ≤ d) (hw : 471 ≤ w) (hS : zO S) (h : ma_wp X (d - 1) (w - 21) 139 0 [(0, .inr (.inr (some 64))), (1, .inl a1)] [] S (zi (fun v2 S1 => zO S1 ∧ (Q (some (.inl (0 : Int32))) (ma_put S1 125 0 (.inr (.inl (v2.toInt64)))))) (fun x S1 => ∃ c, ma_hd method_4_code 4 x 4 [(0, 9, 12, 19)] = some c ∧ Q (some (.inl c)) S1))) : ma_fp X 2 d w 0 [(0, .inr (.inr (some 64))), (1, .inl a1), (2, .inr (.inr (some 125)))] [] S Q := by
  refine zf_push fm_2 dF2_0 (v := .inr (.inr (some 125))) rfl ?_
  refine zf_push fm_2 dF2_1 (v := .inl (0 : Int32)) rfl ?_
  refine zf_push fm_2 dF2_2 (v := .inr (.inr (some 64))) rfl ?_
  refine zf_push fm_2 dF2_3 (v := .inl a1) rfl ?_
  refine zf_cv fm_2 dF2_4 v_14_15_11 hm_139 [.inl a1] [.inl (0 : Int32), .inr (.inr (some 125))] rfl (zO_rt hS s_64 rfl) ⟨by omega, by omega⟩ rfl (zw_mono h (zi_go ?_ ?_))
  · intro v2 S1 hv
    obtain ⟨hS1, h⟩ := hv
    refine zf_stk fm_2 dF2_7 (st' := [.inr (.inl (v2.toInt64)), .inl (0 : Int32), .inr (.inr (some 125))]) rfl rfl ?_
    refine zf_one fm_2 dF2_8 (oo_las (zO_is hS1 s_125) (zO_h hS1 s_125) (a := 0) rfl ⟨by decide, by decide⟩) ?_
    refine zf_goto fm_2 dF2_9 (t := 15) rfl ?_
    refine zf_push fm_2 dF2_15 (v := .inl (0 : Int32)) rfl ?_
    exact zf_iret fm_2 dF2_16 h
  · intro x S9 hx
    exact ⟨⟨by decide, rfl⟩, hx⟩
theorem gf_3_0 {X : Nat × (Nat → Int32)} {d w : Nat} {S : ma_S} {Q : Option ma_V → ma_S → Prop} (a1 : Int32) (a2 : Int32) (hd : 12 ≤ d) (hw : 470 ≤ w) (hS : zO S) (h : ma_wp X (d - 1) (w - 22) 140 0 [(0, .inr (.inr (some 64))), (1, .inl a1), (2, .inl a2)] [] S (zi (fun v2 S1 => zO S1 ∧ (Q (some (.inl (0 : Int32))) (ma_put S1 125 0 (.inr (.inl (v2.toInt64)))))) (fun x S1 => ∃ c, ma_hd method_5_code 5 x 5 [(0, 10, 13, 19), (0, 10, 17, 25)] = some c ∧ Q (some (.inl c)) S1))) : ma_fp X 3 d w 0 [(0, .inr (.inr (some 64))), (1, .inl a1), (2, .inl a2), (3, .inr (.inr (some 125)))] [] S Q := by
  refine zf_push fm_3 dF3_0 (v := .inr (.inr (some 125))) rfl ?_
  refine zf_push fm_3 dF3_1 (v := .inl (0 : Int32)) rfl ?_
  refine zf_push fm_3 dF3_2 (v := .inr (.inr (some 64))) rfl ?_
  refine zf_push fm_3 dF3_3 (v := .inl a1) rfl ?_
  refine zf_push fm_3 dF3_4 (v := .inl a2) rfl ?_
  refine zf_cv fm_3 dF3_5 v_14_21_11 hm_140 [.inl a2, .inl a1] [.inl (0 : Int32), .inr (.inr (some 125))] rfl (zO_rt hS s_64 rfl) ⟨by omega, by omega⟩ rfl (zw_mono h (zi_go ?_ ?_))
  · intro v2 S1 hv
    obtain ⟨hS1, h⟩ := hv
    refine zf_stk fm_3 dF3_8 (st' := [.inr (.inl (v2.toInt64)), .inl (0 : Int32), .inr (.inr (some 125))]) rfl rfl ?_
    refine zf_one fm_3 dF3_9 (oo_las (zO_is hS1 s_125) (zO_h hS1 s_125) (a := 0) rfl ⟨by decide, by decide⟩) ?_
    refine zf_goto fm_3 dF3_10 (t := 21) rfl ?_
    refine zf_push fm_3 dF3_21 (v := .inl (0 : Int32)) rfl ?_
    exact zf_iret fm_3 dF3_22 h
  · intro x S9 hx
    exact ⟨⟨by decide, rfl⟩, hx⟩
theorem gf_4_0 {X : Nat × (Nat → Int32)} {d w : Nat} {S : ma_S} {Q : Option ma_V → ma_S → Prop} (a1 : Int32) (a2 : Int32) (hd : 12 ≤ d) (hw : 470 ≤ w) (hS : zO S) (h : ma_wp X (d - 1) (w - 22) 141 0 [(0, .inr (.inr (some 64))), (1, .inl a1), (2, .inl a2)] [] S (zi (fun v2 S1 => zO S1 ∧ (Q (some (.inl (0 : Int32))) (ma_put S1 125 0 (.inr (.inl (v2.toInt64)))))) (fun x S1 => ∃ c, ma_hd method_6_code 5 x 5 [(0, 10, 13, 19), (0, 10, 17, 25)] = some c ∧ Q (some (.inl c)) S1))) : ma_fp X 4 d w 0 [(0, .inr (.inr (some 64))), (1, .inl a1), (2, .inl a2), (3, .inr (.inr (some 125)))] [] S Q := by
  refine zf_push fm_4 dF4_0 (v := .inr (.inr (some 125))) rfl ?_
  refine zf_push fm_4 dF4_1 (v := .inl (0 : Int32)) rfl ?_
  refine zf_push fm_4 dF4_2 (v := .inr (.inr (some 64))) rfl ?_
  refine zf_push fm_4 dF4_3 (v := .inl a1) rfl ?_
  refine zf_push fm_4 dF4_4 (v := .inl a2) rfl ?_
  refine zf_cv fm_4 dF4_5 v_14_27_11 hm_141 [.inl a2, .inl a1] [.inl (0 : Int32), .inr (.inr (some 125))] rfl (zO_rt hS s_64 rfl) ⟨by omega, by omega⟩ rfl (zw_mono h (zi_go ?_ ?_))
  · intro v2 S1 hv
    obtain ⟨hS1, h⟩ := hv
    refine zf_stk fm_4 dF4_8 (st' := [.inr (.inl (v2.toInt64)), .inl (0 : Int32), .inr (.inr (some 125))]) rfl rfl ?_
    refine zf_one fm_4 dF4_9 (oo_las (zO_is hS1 s_125) (zO_h hS1 s_125) (a := 0) rfl ⟨by decide, by decide⟩) ?_
    refine zf_goto fm_4 dF4_10 (t := 21) rfl ?_
    refine zf_push fm_4 dF4_21 (v := .inl (0 : Int32)) rfl ?_
    exact zf_iret fm_4 dF4_22 h
  · intro x S9 hx
    exact ⟨⟨by decide, rfl⟩, hx⟩
theorem gf_5_0 {X : Nat × (Nat → Int32)} {d w : Nat} {S : ma_S} {Q : Option ma_V → ma_S → Prop} (a1 : Int32) (a2 : Int32) (a3 : Int32) (hd : 12 ≤ d) (hw : 469 ≤ w) (hS : zO S) (h : ma_wp X (d - 1) (w - 23) 147 0 [(0, .inr (.inr (some 64))), (1, .inl a1), (2, .inl a2), (3, .inl a3)] [] S (zi (fun v2 S1 => zO S1 ∧ (Q (some (.inl (0 : Int32))) (ma_put S1 125 0 (.inr (.inl (v2.toInt64)))))) (fun x S1 => ∃ c, ma_hd method_7_code 6 x 7 [(0, 12, 15, 19), (0, 12, 19, 25)] = some c ∧ Q (some (.inl c)) S1))) : ma_fp X 5 d w 0 [(0, .inr (.inr (some 64))), (1, .inl a1), (2, .inl a2), (3, .inl a3), (4, .inr (.inr (some 125)))] [] S Q := by
  refine zf_push fm_5 dF5_0 (v := .inr (.inr (some 125))) rfl ?_
  refine zf_push fm_5 dF5_2 (v := .inl (0 : Int32)) rfl ?_
  refine zf_push fm_5 dF5_3 (v := .inr (.inr (some 64))) rfl ?_
  refine zf_push fm_5 dF5_4 (v := .inl a1) rfl ?_
  refine zf_push fm_5 dF5_5 (v := .inl a2) rfl ?_
  refine zf_push fm_5 dF5_6 (v := .inl a3) rfl ?_
  refine zf_cv fm_5 dF5_7 v_14_30_11 hm_147 [.inl a3, .inl a2, .inl a1] [.inl (0 : Int32), .inr (.inr (some 125))] rfl (zO_rt hS s_64 rfl) ⟨by omega, by omega⟩ rfl (zw_mono h (zi_go ?_ ?_))
  · intro v2 S1 hv
    obtain ⟨hS1, h⟩ := hv
    refine zf_stk fm_5 dF5_10 (st' := [.inr (.inl (v2.toInt64)), .inl (0 : Int32), .inr (.inr (some 125))]) rfl rfl ?_
    refine zf_one fm_5 dF5_11 (oo_las (zO_is hS1 s_125) (zO_h hS1 s_125) (a := 0) rfl ⟨by decide, by decide⟩) ?_
    refine zf_goto fm_5 dF5_12 (t := 23) rfl ?_
    refine zf_push fm_5 dF5_23 (v := .inl (0 : Int32)) rfl ?_
    exact zf_iret fm_5 dF5_24 h
  · intro x S9 hx
    exact ⟨⟨by decide, rfl⟩, hx⟩
theorem gf_6_0 {X : Nat × (Nat → Int32)} {d w : Nat} {S : ma_S} {Q : Option ma_V → ma_S → Prop} (a1 : Int32) (a2 : Int32) (a3 : Int32) (hd : 12 ≤ d) (hw : 469 ≤ w) (hS : zO S) (h : ma_wp X (d - 1) (w - 24) 148 0 [(0, .inr (.inr (some 64))), (1, .inl a1), (2, .inl a2), (3, .inl a3)] [] S (zi (fun v2 S1 => zO S1 ∧ (Q (some (.inl (0 : Int32))) (ma_put S1 125 0 (.inr (.inl (v2.toInt64)))))) (fun x S1 => ∃ c, ma_hd method_8_code 6 x 7 [(0, 12, 15, 25), (0, 12, 19, 38), (0, 12, 23, 13), (0, 12, 27, 40)] = some c ∧ Q (some (.inl c)) S1))) : ma_fp X 6 d w 0 [(0, .inr (.inr (some 64))), (1, .inl a1), (2, .inl a2), (3, .inl a3), (4, .inr (.inr (some 125)))] [] S Q := by
  refine zf_push fm_6 dF6_0 (v := .inr (.inr (some 125))) rfl ?_
  refine zf_push fm_6 dF6_2 (v := .inl (0 : Int32)) rfl ?_
  refine zf_push fm_6 dF6_3 (v := .inr (.inr (some 64))) rfl ?_
  refine zf_push fm_6 dF6_4 (v := .inl a1) rfl ?_
  refine zf_push fm_6 dF6_5 (v := .inl a2) rfl ?_
  refine zf_push fm_6 dF6_6 (v := .inl a3) rfl ?_
  refine zf_cv fm_6 dF6_7 v_14_34_11 hm_148 [.inl a3, .inl a2, .inl a1] [.inl (0 : Int32), .inr (.inr (some 125))] rfl (zO_rt hS s_64 rfl) ⟨by omega, by omega⟩ rfl (zw_mono h (zi_go ?_ ?_))
  · intro v2 S1 hv
    obtain ⟨hS1, h⟩ := hv
    refine zf_stk fm_6 dF6_10 (st' := [.inr (.inl (v2.toInt64)), .inl (0 : Int32), .inr (.inr (some 125))]) rfl rfl ?_
    refine zf_one fm_6 dF6_11 (oo_las (zO_is hS1 s_125) (zO_h hS1 s_125) (a := 0) rfl ⟨by decide, by decide⟩) ?_
    refine zf_goto fm_6 dF6_12 (t := 31) rfl ?_
    refine zf_push fm_6 dF6_31 (v := .inl (0 : Int32)) rfl ?_
    exact zf_iret fm_6 dF6_32 h
  · intro x S9 hx
    exact ⟨⟨by decide, rfl⟩, hx⟩
theorem gf_7_0 {X : Nat × (Nat → Int32)} {d w : Nat} {S : ma_S} {Q : Option ma_V → ma_S → Prop} (a1 : Int32) (a2 : Int32) (a3 : Int32) (hd : 12 ≤ d) (hw : 469 ≤ w) (hS : zO S) (h : ma_wp X (d - 1) (w - 27) 150 0 [(0, .inr (.inr (some 64))), (1, .inl a1), (2, .inl a2), (3, .inl a3)] [] S (zi (fun v2 S1 => zO S1 ∧ (Q (some (.inl (0 : Int32))) (ma_put S1 125 0 (.inr (.inl (v2.toInt64)))))) (fun x S1 => ∃ c, ma_hd method_9_code 6 x 7 [(0, 12, 15, 25), (0, 12, 19, 38), (0, 12, 23, 13), (0, 12, 27, 40)] = some c ∧ Q (some (.inl c)) S1))) : ma_fp X 7 d w 0 [(0, .inr (.inr (some 64))), (1, .inl a1), (2, .inl a2), (3, .inl a3), (4, .inr (.inr (some 125)))] [] S Q := by
  refine zf_push fm_7 dF7_0 (v := .inr (.inr (some 125))) rfl ?_
  refine zf_push fm_7 dF7_2 (v := .inl (0 : Int32)) rfl ?_
  refine zf_push fm_7 dF7_3 (v := .inr (.inr (some 64))) rfl ?_
  refine zf_push fm_7 dF7_4 (v := .inl a1) rfl ?_
  refine zf_push fm_7 dF7_5 (v := .inl a2) rfl ?_
  refine zf_push fm_7 dF7_6 (v := .inl a3) rfl ?_
  refine zf_cv fm_7 dF7_7 v_14_42_11 hm_150 [.inl a3, .inl a2, .inl a1] [.inl (0 : Int32), .inr (.inr (some 125))] rfl (zO_rt hS s_64 rfl) ⟨by omega, by omega⟩ rfl (zw_mono h (zi_go ?_ ?_))
  · intro v2 S1 hv
    obtain ⟨hS1, h⟩ := hv
    refine zf_stk fm_7 dF7_10 (st' := [.inr (.inl (v2.toInt64)), .inl (0 : Int32), .inr (.inr (some 125))]) rfl rfl ?_
    refine zf_one fm_7 dF7_11 (oo_las (zO_is hS1 s_125) (zO_h hS1 s_125) (a := 0) rfl ⟨by decide, by decide⟩) ?_
    refine zf_goto fm_7 dF7_12 (t := 31) rfl ?_
    refine zf_push fm_7 dF7_31 (v := .inl (0 : Int32)) rfl ?_
    exact zf_iret fm_7 dF7_32 h
  · intro x S9 hx
    exact ⟨⟨by decide, rfl⟩, hx⟩
theorem gf_8_0 {X : Nat × (Nat → Int32)} {d w : Nat} {S : ma_S} {Q : Option ma_V → ma_S → Prop} (a1 : Int32) (a2 : Int32) (hd : 12 ≤ d) (hw : 470 ≤ w) (hS : zO S) (h : ma_wp X (d - 1) (w - 23) 152 0 [(0, .inr (.inr (some 64))), (1, .inl a1), (2, .inl a2)] [] S (zi (fun v2 S1 => zO S1 ∧ (Q (some (.inl (0 : Int32))) (ma_put S1 125 0 (.inr (.inl (v2.toInt64)))))) (fun x S1 => ∃ c, ma_hd method_10_code 5 x 5 [(0, 10, 13, 25), (0, 10, 17, 38), (0, 10, 21, 13)] = some c ∧ Q (some (.inl c)) S1))) : ma_fp X 8 d w 0 [(0, .inr (.inr (some 64))), (1, .inl a1), (2, .inl a2), (3, .inr (.inr (some 125)))] [] S Q := by
  refine zf_push fm_8 dF8_0 (v := .inr (.inr (some 125))) rfl ?_
  refine zf_push fm_8 dF8_1 (v := .inl (0 : Int32)) rfl ?_
  refine zf_push fm_8 dF8_2 (v := .inr (.inr (some 64))) rfl ?_
  refine zf_push fm_8 dF8_3 (v := .inl a1) rfl ?_
  refine zf_push fm_8 dF8_4 (v := .inl a2) rfl ?_
  refine zf_cv fm_8 dF8_5 v_14_45_11 hm_152 [.inl a2, .inl a1] [.inl (0 : Int32), .inr (.inr (some 125))] rfl (zO_rt hS s_64 rfl) ⟨by omega, by omega⟩ rfl (zw_mono h (zi_go ?_ ?_))
  · intro v2 S1 hv
    obtain ⟨hS1, h⟩ := hv
    refine zf_stk fm_8 dF8_8 (st' := [.inr (.inl (v2.toInt64)), .inl (0 : Int32), .inr (.inr (some 125))]) rfl rfl ?_
    refine zf_one fm_8 dF8_9 (oo_las (zO_is hS1 s_125) (zO_h hS1 s_125) (a := 0) rfl ⟨by decide, by decide⟩) ?_
    refine zf_goto fm_8 dF8_10 (t := 25) rfl ?_
    refine zf_push fm_8 dF8_25 (v := .inl (0 : Int32)) rfl ?_
    exact zf_iret fm_8 dF8_26 h
  · intro x S9 hx
    exact ⟨⟨by decide, rfl⟩, hx⟩
theorem gf_9_0 {X : Nat × (Nat → Int32)} {d w : Nat} {S : ma_S} {Q : Option ma_V → ma_S → Prop} (a1 : Int32) (a2 : Int32) (hd : 12 ≤ d) (hw : 470 ≤ w) (hS : zO S) (h : ma_wp X (d - 1) (w - 24) 153 0 [(0, .inr (.inr (some 64))), (1, .inl a1), (2, .inl a2)] [] S (zi (fun v2 S1 => zO S1 ∧ (Q (some (.inl (0 : Int32))) (ma_put S1 125 0 (.inr (.inl (v2.toInt64)))))) (fun x S1 => ∃ c, ma_hd method_11_code 5 x 5 [(0, 10, 13, 19), (0, 10, 17, 25), (0, 10, 21, 38)] = some c ∧ Q (some (.inl c)) S1))) : ma_fp X 9 d w 0 [(0, .inr (.inr (some 64))), (1, .inl a1), (2, .inl a2), (3, .inr (.inr (some 125)))] [] S Q := by
  refine zf_push fm_9 dF9_0 (v := .inr (.inr (some 125))) rfl ?_
  refine zf_push fm_9 dF9_1 (v := .inl (0 : Int32)) rfl ?_
  refine zf_push fm_9 dF9_2 (v := .inr (.inr (some 64))) rfl ?_
  refine zf_push fm_9 dF9_3 (v := .inl a1) rfl ?_
  refine zf_push fm_9 dF9_4 (v := .inl a2) rfl ?_
  refine zf_cv fm_9 dF9_5 v_14_48_11 hm_153 [.inl a2, .inl a1] [.inl (0 : Int32), .inr (.inr (some 125))] rfl (zO_rt hS s_64 rfl) ⟨by omega, by omega⟩ rfl (zw_mono h (zi_go ?_ ?_))
  · intro v2 S1 hv
    obtain ⟨hS1, h⟩ := hv
    refine zf_stk fm_9 dF9_8 (st' := [.inr (.inl (v2.toInt64)), .inl (0 : Int32), .inr (.inr (some 125))]) rfl rfl ?_
    refine zf_one fm_9 dF9_9 (oo_las (zO_is hS1 s_125) (zO_h hS1 s_125) (a := 0) rfl ⟨by decide, by decide⟩) ?_
    refine zf_goto fm_9 dF9_10 (t := 25) rfl ?_
    refine zf_push fm_9 dF9_25 (v := .inl (0 : Int32)) rfl ?_
    exact zf_iret fm_9 dF9_26 h
  · intro x S9 hx
    exact ⟨⟨by decide, rfl⟩, hx⟩
theorem gf_10_0 {X : Nat × (Nat → Int32)} {d w : Nat} {S : ma_S} {Q : Option ma_V → ma_S → Prop} (a1 : Int32) (a2 : Int32) (hd : 12 ≤ d) (hw : 470 ≤ w) (hS : zO S) (h : ma_wp X (d - 1) (w - 24) 154 0 [(0, .inr (.inr (some 64))), (1, .inl a1), (2, .inl a2)] [] S (zi (fun v2 S1 => zO S1 ∧ (Q (some (.inl (0 : Int32))) (ma_put S1 125 0 (.inr (.inl (v2.toInt64)))))) (fun x S1 => ∃ c, ma_hd method_12_code 5 x 5 [(0, 10, 13, 19), (0, 10, 17, 25), (0, 10, 21, 38)] = some c ∧ Q (some (.inl c)) S1))) : ma_fp X 10 d w 0 [(0, .inr (.inr (some 64))), (1, .inl a1), (2, .inl a2), (3, .inr (.inr (some 125)))] [] S Q := by
  refine zf_push fm_10 dF10_0 (v := .inr (.inr (some 125))) rfl ?_
  refine zf_push fm_10 dF10_1 (v := .inl (0 : Int32)) rfl ?_
  refine zf_push fm_10 dF10_2 (v := .inr (.inr (some 64))) rfl ?_
  refine zf_push fm_10 dF10_3 (v := .inl a1) rfl ?_
  refine zf_push fm_10 dF10_4 (v := .inl a2) rfl ?_
  refine zf_cv fm_10 dF10_5 v_14_51_11 hm_154 [.inl a2, .inl a1] [.inl (0 : Int32), .inr (.inr (some 125))] rfl (zO_rt hS s_64 rfl) ⟨by omega, by omega⟩ rfl (zw_mono h (zi_go ?_ ?_))
  · intro v2 S1 hv
    obtain ⟨hS1, h⟩ := hv
    refine zf_stk fm_10 dF10_8 (st' := [.inr (.inl (v2.toInt64)), .inl (0 : Int32), .inr (.inr (some 125))]) rfl rfl ?_
    refine zf_one fm_10 dF10_9 (oo_las (zO_is hS1 s_125) (zO_h hS1 s_125) (a := 0) rfl ⟨by decide, by decide⟩) ?_
    refine zf_goto fm_10 dF10_10 (t := 25) rfl ?_
    refine zf_push fm_10 dF10_25 (v := .inl (0 : Int32)) rfl ?_
    exact zf_iret fm_10 dF10_26 h
  · intro x S9 hx
    exact ⟨⟨by decide, rfl⟩, hx⟩
theorem gf_11_0 {X : Nat × (Nat → Int32)} {d w : Nat} {S : ma_S} {Q : Option ma_V → ma_S → Prop} (a1 : Int32) (a2 : Int32) (hd : 12 ≤ d) (hw : 470 ≤ w) (hS : zO S) (h : ma_wp X (d - 1) (w - 24) 155 0 [(0, .inr (.inr (some 64))), (1, .inl a1), (2, .inl a2)] [] S (zi (fun v2 S1 => zO S1 ∧ (Q (some (.inl (0 : Int32))) (ma_put S1 125 0 (.inr (.inl (v2.toInt64)))))) (fun x S1 => ∃ c, ma_hd method_13_code 5 x 5 [(0, 10, 13, 19), (0, 10, 17, 25)] = some c ∧ Q (some (.inl c)) S1))) : ma_fp X 11 d w 0 [(0, .inr (.inr (some 64))), (1, .inl a1), (2, .inl a2), (3, .inr (.inr (some 125)))] [] S Q := by
  refine zf_push fm_11 dF11_0 (v := .inr (.inr (some 125))) rfl ?_
  refine zf_push fm_11 dF11_1 (v := .inl (0 : Int32)) rfl ?_
  refine zf_push fm_11 dF11_2 (v := .inr (.inr (some 64))) rfl ?_
  refine zf_push fm_11 dF11_3 (v := .inl a1) rfl ?_
  refine zf_push fm_11 dF11_4 (v := .inl a2) rfl ?_
  refine zf_cv fm_11 dF11_5 v_14_54_11 hm_155 [.inl a2, .inl a1] [.inl (0 : Int32), .inr (.inr (some 125))] rfl (zO_rt hS s_64 rfl) ⟨by omega, by omega⟩ rfl (zw_mono h (zi_go ?_ ?_))
  · intro v2 S1 hv
    obtain ⟨hS1, h⟩ := hv
    refine zf_stk fm_11 dF11_8 (st' := [.inr (.inl (v2.toInt64)), .inl (0 : Int32), .inr (.inr (some 125))]) rfl rfl ?_
    refine zf_one fm_11 dF11_9 (oo_las (zO_is hS1 s_125) (zO_h hS1 s_125) (a := 0) rfl ⟨by decide, by decide⟩) ?_
    refine zf_goto fm_11 dF11_10 (t := 21) rfl ?_
    refine zf_push fm_11 dF11_21 (v := .inl (0 : Int32)) rfl ?_
    exact zf_iret fm_11 dF11_22 h
  · intro x S9 hx
    exact ⟨⟨by decide, rfl⟩, hx⟩
theorem gf_12_0 {X : Nat × (Nat → Int32)} {d w : Nat} {S : ma_S} {Q : Option ma_V → ma_S → Prop} (a1 : Int32) (a2 : Int32) (hd : 12 ≤ d) (hw : 470 ≤ w) (hS : zO S) (h : ma_wp X (d - 1) (w - 24) 156 0 [(0, .inr (.inr (some 64))), (1, .inl a1), (2, .inl a2)] [] S (zi (fun v2 S1 => zO S1 ∧ (Q (some (.inl (0 : Int32))) (ma_put S1 125 0 (.inr (.inl (v2.toInt64)))))) (fun x S1 => ∃ c, ma_hd method_14_code 5 x 5 [(0, 10, 13, 25), (0, 10, 17, 38), (0, 10, 21, 61)] = some c ∧ Q (some (.inl c)) S1))) : ma_fp X 12 d w 0 [(0, .inr (.inr (some 64))), (1, .inl a1), (2, .inl a2), (3, .inr (.inr (some 125)))] [] S Q := by
  refine zf_push fm_12 dF12_0 (v := .inr (.inr (some 125))) rfl ?_
  refine zf_push fm_12 dF12_1 (v := .inl (0 : Int32)) rfl ?_
  refine zf_push fm_12 dF12_2 (v := .inr (.inr (some 64))) rfl ?_
  refine zf_push fm_12 dF12_3 (v := .inl a1) rfl ?_
  refine zf_push fm_12 dF12_4 (v := .inl a2) rfl ?_
  refine zf_cv fm_12 dF12_5 v_14_57_11 hm_156 [.inl a2, .inl a1] [.inl (0 : Int32), .inr (.inr (some 125))] rfl (zO_rt hS s_64 rfl) ⟨by omega, by omega⟩ rfl (zw_mono h (zi_go ?_ ?_))
  · intro v2 S1 hv
    obtain ⟨hS1, h⟩ := hv
    refine zf_stk fm_12 dF12_8 (st' := [.inr (.inl (v2.toInt64)), .inl (0 : Int32), .inr (.inr (some 125))]) rfl rfl ?_
    refine zf_one fm_12 dF12_9 (oo_las (zO_is hS1 s_125) (zO_h hS1 s_125) (a := 0) rfl ⟨by decide, by decide⟩) ?_
    refine zf_goto fm_12 dF12_10 (t := 25) rfl ?_
    refine zf_push fm_12 dF12_25 (v := .inl (0 : Int32)) rfl ?_
    exact zf_iret fm_12 dF12_26 h
  · intro x S9 hx
    exact ⟨⟨by decide, rfl⟩, hx⟩
theorem gf_13_0 {X : Nat × (Nat → Int32)} {d w : Nat} {S : ma_S} {Q : Option ma_V → ma_S → Prop} (a1 : Int32) (hd : 12 ≤ d) (hw : 471 ≤ w) (hS : zO S) (h : ma_wp X (d - 1) (w - 23) 157 0 [(0, .inr (.inr (some 64))), (1, .inl a1)] [] S (zi (fun v2 S1 => zO S1 ∧ (Q (some (.inl (0 : Int32))) (ma_put S1 125 0 (.inr (.inl (v2.toInt64)))))) (fun x S1 => ∃ c, ma_hd method_15_code 4 x 4 [(0, 9, 12, 25), (0, 9, 15, 38)] = some c ∧ Q (some (.inl c)) S1))) : ma_fp X 13 d w 0 [(0, .inr (.inr (some 64))), (1, .inl a1), (2, .inr (.inr (some 125)))] [] S Q := by
  refine zf_push fm_13 dF13_0 (v := .inr (.inr (some 125))) rfl ?_
  refine zf_push fm_13 dF13_1 (v := .inl (0 : Int32)) rfl ?_
  refine zf_push fm_13 dF13_2 (v := .inr (.inr (some 64))) rfl ?_
  refine zf_push fm_13 dF13_3 (v := .inl a1) rfl ?_
  refine zf_cv fm_13 dF13_4 v_14_63_11 hm_157 [.inl a1] [.inl (0 : Int32), .inr (.inr (some 125))] rfl (zO_rt hS s_64 rfl) ⟨by omega, by omega⟩ rfl (zw_mono h (zi_go ?_ ?_))
  · intro v2 S1 hv
    obtain ⟨hS1, h⟩ := hv
    refine zf_stk fm_13 dF13_7 (st' := [.inr (.inl (v2.toInt64)), .inl (0 : Int32), .inr (.inr (some 125))]) rfl rfl ?_
    refine zf_one fm_13 dF13_8 (oo_las (zO_is hS1 s_125) (zO_h hS1 s_125) (a := 0) rfl ⟨by decide, by decide⟩) ?_
    refine zf_goto fm_13 dF13_9 (t := 18) rfl ?_
    refine zf_push fm_13 dF13_18 (v := .inl (0 : Int32)) rfl ?_
    exact zf_iret fm_13 dF13_19 h
  · intro x S9 hx
    exact ⟨⟨by decide, rfl⟩, hx⟩
theorem gf_14_0 {X : Nat × (Nat → Int32)} {d w : Nat} {S : ma_S} {Q : Option ma_V → ma_S → Prop} (a1 : Int32) (hd : 12 ≤ d) (hw : 471 ≤ w) (hS : zO S) (h : ma_wp X (d - 1) (w - 23) 158 0 [(0, .inr (.inr (some 64))), (1, .inl a1)] [] S (zi (fun v2 S1 => zO S1 ∧ (Q (some (.inl (0 : Int32))) (ma_put S1 125 0 (.inr (.inl (v2.toInt64)))))) (fun x S1 => ∃ c, ma_hd method_16_code 4 x 4 [(0, 9, 12, 19), (0, 9, 15, 25)] = some c ∧ Q (some (.inl c)) S1))) : ma_fp X 14 d w 0 [(0, .inr (.inr (some 64))), (1, .inl a1), (2, .inr (.inr (some 125)))] [] S Q := by
  refine zf_push fm_14 dF14_0 (v := .inr (.inr (some 125))) rfl ?_
  refine zf_push fm_14 dF14_1 (v := .inl (0 : Int32)) rfl ?_
  refine zf_push fm_14 dF14_2 (v := .inr (.inr (some 64))) rfl ?_
  refine zf_push fm_14 dF14_3 (v := .inl a1) rfl ?_
  refine zf_cv fm_14 dF14_4 v_14_66_11 hm_158 [.inl a1] [.inl (0 : Int32), .inr (.inr (some 125))] rfl (zO_rt hS s_64 rfl) ⟨by omega, by omega⟩ rfl (zw_mono h (zi_go ?_ ?_))
  · intro v2 S1 hv
    obtain ⟨hS1, h⟩ := hv
    refine zf_stk fm_14 dF14_7 (st' := [.inr (.inl (v2.toInt64)), .inl (0 : Int32), .inr (.inr (some 125))]) rfl rfl ?_
    refine zf_one fm_14 dF14_8 (oo_las (zO_is hS1 s_125) (zO_h hS1 s_125) (a := 0) rfl ⟨by decide, by decide⟩) ?_
    refine zf_goto fm_14 dF14_9 (t := 18) rfl ?_
    refine zf_push fm_14 dF14_18 (v := .inl (0 : Int32)) rfl ?_
    exact zf_iret fm_14 dF14_19 h
  · intro x S9 hx
    exact ⟨⟨by decide, rfl⟩, hx⟩
theorem gf_15_0 {X : Nat × (Nat → Int32)} {d w : Nat} {S : ma_S} {Q : Option ma_V → ma_S → Prop}  (hd : 12 ≤ d) (hw : 472 ≤ w) (hS : zO S) (h : ma_wp X (d - 1) (w - 20) 159 0 [(0, .inr (.inr (some 64)))] [] S (zi (fun v2 S1 => zO S1 ∧ (Q (some (.inl (0 : Int32))) (ma_put S1 125 0 (.inr (.inl (v2.toInt64)))))) (fun x S1 => ∃ c, ma_hd method_17_code 3 x 3 [(0, 8, 11, 25)] = some c ∧ Q (some (.inl c)) S1))) : ma_fp X 15 d w 0 [(0, .inr (.inr (some 64))), (1, .inr (.inr (some 125)))] [] S Q := by
  refine zf_push fm_15 dF15_0 (v := .inr (.inr (some 125))) rfl ?_
  refine zf_push fm_15 dF15_1 (v := .inl (0 : Int32)) rfl ?_
  refine zf_push fm_15 dF15_2 (v := .inr (.inr (some 64))) rfl ?_
  refine zf_cv fm_15 dF15_3 v_14_69_11 hm_159 [] [.inl (0 : Int32), .inr (.inr (some 125))] rfl (zO_rt hS s_64 rfl) ⟨by omega, by omega⟩ rfl (zw_mono h (zi_go ?_ ?_))
  · intro v2 S1 hv
    obtain ⟨hS1, h⟩ := hv
    refine zf_stk fm_15 dF15_6 (st' := [.inr (.inl (v2.toInt64)), .inl (0 : Int32), .inr (.inr (some 125))]) rfl rfl ?_
    refine zf_one fm_15 dF15_7 (oo_las (zO_is hS1 s_125) (zO_h hS1 s_125) (a := 0) rfl ⟨by decide, by decide⟩) ?_
    refine zf_goto fm_15 dF15_8 (t := 14) rfl ?_
    refine zf_push fm_15 dF15_14 (v := .inl (0 : Int32)) rfl ?_
    exact zf_iret fm_15 dF15_15 h
  · intro x S9 hx
    exact ⟨⟨by decide, rfl⟩, hx⟩
theorem gf_16_0 {X : Nat × (Nat → Int32)} {d w : Nat} {S : ma_S} {Q : Option ma_V → ma_S → Prop} (a1 : Int32) (hd : 12 ≤ d) (hw : 471 ≤ w) (hS : zO S) (h : ma_wp X (d - 1) (w - 23) 160 0 [(0, .inr (.inr (some 64))), (1, .inl a1)] [] S (zi (fun v2 S1 => zO S1 ∧ (Q (some (.inl (0 : Int32))) (ma_put S1 125 0 (.inr (.inl (v2.toInt64)))))) (fun x S1 => ∃ c, ma_hd method_18_code 4 x 4 [(0, 9, 12, 19), (0, 9, 15, 25), (0, 9, 18, 61)] = some c ∧ Q (some (.inl c)) S1))) : ma_fp X 16 d w 0 [(0, .inr (.inr (some 64))), (1, .inl a1), (2, .inr (.inr (some 125)))] [] S Q := by
  refine zf_push fm_16 dF16_0 (v := .inr (.inr (some 125))) rfl ?_
  refine zf_push fm_16 dF16_1 (v := .inl (0 : Int32)) rfl ?_
  refine zf_push fm_16 dF16_2 (v := .inr (.inr (some 64))) rfl ?_
  refine zf_push fm_16 dF16_3 (v := .inl a1) rfl ?_
  refine zf_cv fm_16 dF16_4 v_14_73_11 hm_160 [.inl a1] [.inl (0 : Int32), .inr (.inr (some 125))] rfl (zO_rt hS s_64 rfl) ⟨by omega, by omega⟩ rfl (zw_mono h (zi_go ?_ ?_))
  · intro v2 S1 hv
    obtain ⟨hS1, h⟩ := hv
    refine zf_stk fm_16 dF16_7 (st' := [.inr (.inl (v2.toInt64)), .inl (0 : Int32), .inr (.inr (some 125))]) rfl rfl ?_
    refine zf_one fm_16 dF16_8 (oo_las (zO_is hS1 s_125) (zO_h hS1 s_125) (a := 0) rfl ⟨by decide, by decide⟩) ?_
    refine zf_goto fm_16 dF16_9 (t := 21) rfl ?_
    refine zf_push fm_16 dF16_21 (v := .inl (0 : Int32)) rfl ?_
    exact zf_iret fm_16 dF16_22 h
  · intro x S9 hx
    exact ⟨⟨by decide, rfl⟩, hx⟩
theorem gf_17_0 {X : Nat × (Nat → Int32)} {d w : Nat} {S : ma_S} {Q : Option ma_V → ma_S → Prop} (a1 : Int32) (a2 : Int32) (hd : 12 ≤ d) (hw : 470 ≤ w) (hS : zO S) (h : ma_wp X (d - 1) (w - 24) 161 0 [(0, .inr (.inr (some 64))), (1, .inl a1), (2, .inl a2)] [] S (zi (fun v2 S1 => zO S1 ∧ (Q (some (.inl (0 : Int32))) (ma_put S1 125 0 (.inr (.inl (v2.toInt64)))))) (fun x S1 => ∃ c, ma_hd method_19_code 5 x 5 [(0, 10, 13, 19), (0, 10, 17, 25), (0, 10, 21, 38)] = some c ∧ Q (some (.inl c)) S1))) : ma_fp X 17 d w 0 [(0, .inr (.inr (some 64))), (1, .inl a1), (2, .inl a2), (3, .inr (.inr (some 125)))] [] S Q := by
  refine zf_push fm_17 dF17_0 (v := .inr (.inr (some 125))) rfl ?_
  refine zf_push fm_17 dF17_1 (v := .inl (0 : Int32)) rfl ?_
  refine zf_push fm_17 dF17_2 (v := .inr (.inr (some 64))) rfl ?_
  refine zf_push fm_17 dF17_3 (v := .inl a1) rfl ?_
  refine zf_push fm_17 dF17_4 (v := .inl a2) rfl ?_
  refine zf_cv fm_17 dF17_5 v_14_76_11 hm_161 [.inl a2, .inl a1] [.inl (0 : Int32), .inr (.inr (some 125))] rfl (zO_rt hS s_64 rfl) ⟨by omega, by omega⟩ rfl (zw_mono h (zi_go ?_ ?_))
  · intro v2 S1 hv
    obtain ⟨hS1, h⟩ := hv
    refine zf_stk fm_17 dF17_8 (st' := [.inr (.inl (v2.toInt64)), .inl (0 : Int32), .inr (.inr (some 125))]) rfl rfl ?_
    refine zf_one fm_17 dF17_9 (oo_las (zO_is hS1 s_125) (zO_h hS1 s_125) (a := 0) rfl ⟨by decide, by decide⟩) ?_
    refine zf_goto fm_17 dF17_10 (t := 25) rfl ?_
    refine zf_push fm_17 dF17_25 (v := .inl (0 : Int32)) rfl ?_
    exact zf_iret fm_17 dF17_26 h
  · intro x S9 hx
    exact ⟨⟨by decide, rfl⟩, hx⟩
theorem gf_18_0 {X : Nat × (Nat → Int32)} {d w : Nat} {S : ma_S} {Q : Option ma_V → ma_S → Prop} (a1 : Int32) (a2 : Int32) (hd : 12 ≤ d) (hw : 470 ≤ w) (hS : zO S) (h : ma_wp X (d - 1) (w - 24) 162 0 [(0, .inr (.inr (some 64))), (1, .inl a1), (2, .inl a2)] [] S (zi (fun v2 S1 => zO S1 ∧ (Q (some (.inl (0 : Int32))) (ma_put S1 125 0 (.inr (.inl (v2.toInt64)))))) (fun x S1 => ∃ c, ma_hd method_20_code 5 x 5 [(0, 10, 13, 19), (0, 10, 17, 25), (0, 10, 21, 61), (0, 10, 25, 13)] = some c ∧ Q (some (.inl c)) S1))) : ma_fp X 18 d w 0 [(0, .inr (.inr (some 64))), (1, .inl a1), (2, .inl a2), (3, .inr (.inr (some 125)))] [] S Q := by
  refine zf_push fm_18 dF18_0 (v := .inr (.inr (some 125))) rfl ?_
  refine zf_push fm_18 dF18_1 (v := .inl (0 : Int32)) rfl ?_
  refine zf_push fm_18 dF18_2 (v := .inr (.inr (some 64))) rfl ?_
  refine zf_push fm_18 dF18_3 (v := .inl a1) rfl ?_
  refine zf_push fm_18 dF18_4 (v := .inl a2) rfl ?_
  refine zf_cv fm_18 dF18_5 v_14_79_11 hm_162 [.inl a2, .inl a1] [.inl (0 : Int32), .inr (.inr (some 125))] rfl (zO_rt hS s_64 rfl) ⟨by omega, by omega⟩ rfl (zw_mono h (zi_go ?_ ?_))
  · intro v2 S1 hv
    obtain ⟨hS1, h⟩ := hv
    refine zf_stk fm_18 dF18_8 (st' := [.inr (.inl (v2.toInt64)), .inl (0 : Int32), .inr (.inr (some 125))]) rfl rfl ?_
    refine zf_one fm_18 dF18_9 (oo_las (zO_is hS1 s_125) (zO_h hS1 s_125) (a := 0) rfl ⟨by decide, by decide⟩) ?_
    refine zf_goto fm_18 dF18_10 (t := 29) rfl ?_
    refine zf_push fm_18 dF18_29 (v := .inl (0 : Int32)) rfl ?_
    exact zf_iret fm_18 dF18_30 h
  · intro x S9 hx
    exact ⟨⟨by decide, rfl⟩, hx⟩
theorem gf_19_0 {X : Nat × (Nat → Int32)} {d w : Nat} {S : ma_S} {Q : Option ma_V → ma_S → Prop} (a1 : Int32) (hd : 12 ≤ d) (hw : 471 ≤ w) (hS : zO S) (h : ma_wp X (d - 1) (w - 22) 163 0 [(0, .inr (.inr (some 64))), (1, .inl a1)] [] S (zi (fun v2 S1 => zO S1 ∧ (Q (some (.inl (0 : Int32))) (ma_put S1 125 0 (.inr (.inl (v2.toInt64)))))) (fun x S1 => ∃ c, ma_hd method_21_code 4 x 4 [(0, 9, 12, 19), (0, 9, 15, 25)] = some c ∧ Q (some (.inl c)) S1))) : ma_fp X 19 d w 0 [(0, .inr (.inr (some 64))), (1, .inl a1), (2, .inr (.inr (some 125)))] [] S Q := by
  refine zf_push fm_19 dF19_0 (v := .inr (.inr (some 125))) rfl ?_
  refine zf_push fm_19 dF19_1 (v := .inl (0 : Int32)) rfl ?_
  refine zf_push fm_19 dF19_2 (v := .inr (.inr (some 64))) rfl ?_
  refine zf_push fm_19 dF19_3 (v := .inl a1) rfl ?_
  refine zf_cv fm_19 dF19_4 v_14_82_11 hm_163 [.inl a1] [.inl (0 : Int32), .inr (.inr (some 125))] rfl (zO_rt hS s_64 rfl) ⟨by omega, by omega⟩ rfl (zw_mono h (zi_go ?_ ?_))
  · intro v2 S1 hv
    obtain ⟨hS1, h⟩ := hv
    refine zf_stk fm_19 dF19_7 (st' := [.inr (.inl (v2.toInt64)), .inl (0 : Int32), .inr (.inr (some 125))]) rfl rfl ?_
    refine zf_one fm_19 dF19_8 (oo_las (zO_is hS1 s_125) (zO_h hS1 s_125) (a := 0) rfl ⟨by decide, by decide⟩) ?_
    refine zf_goto fm_19 dF19_9 (t := 18) rfl ?_
    refine zf_push fm_19 dF19_18 (v := .inl (0 : Int32)) rfl ?_
    exact zf_iret fm_19 dF19_19 h
  · intro x S9 hx
    exact ⟨⟨by decide, rfl⟩, hx⟩
theorem g_138_0 {X : Nat × (Nat → Int32)} {d w : Nat} {S : ma_S} {Q : Option ma_V ⊕ Nat → ma_S → Prop} (a1 : Int32) (hd : 0 ≤ d) (hw : 0 ≤ w) (hS : zO S) (h : ma_wp X d w 138 3 [(0, .inr (.inr (some 64))), (1, .inl a1), (2, .inl (24 : Int32))] [] S Q) : ma_wp X d w 138 0 [(0, .inr (.inr (some 64))), (1, .inl a1)] [] S Q := by
  refine zw_push hm_138 dX11_addBytes_0 (v := .inl (24 : Int32)) rfl ?_
  refine zw_sto hm_138 dX11_addBytes_2 [(2, .inl (24 : Int32)), (0, .inr (.inr (some 64))), (1, .inl a1)] rfl rfl rfl ?_
  exact zw_sub (ma_nd_of (ks := [0, 1, 2]) rfl (by decide)) (ma_nd_of (ks := [2, 0, 1]) rfl (by decide)) (ma_le_cons rfl (ma_le_cons rfl (ma_le_cons rfl (ma_le_nil _)))) h
theorem g_138_3 {X : Nat × (Nat → Int32)} {d w : Nat} {S : ma_S} {Q : Option ma_V ⊕ Nat → ma_S → Prop} (a1 : Int32) (k : Int32) (hd : 0 ≤ d) (hw : 0 ≤ w) (hS : zO S) (h : if k < 0 then (ma_wp X d w 138 45 [] [] S Q) else (if (100 : Int32) ≤ (mI S 64 1) then (ma_wp X d w 138 45 [] [] S Q) else ((0 ≤ (mI S 64 1) ∧ (mI S 64 1).toNatClampNeg < 100) ∧ (ma_wp X d w 138 3 [(0, .inr (.inr (some 64))), (1, .inl a1), (2, .inl (k + (-8 : Int32)))] [] (ma_put (ma_put S 65 (mI S 64 1).toNatClampNeg (.inl ((vp_nar .byte (((a1.toUInt32 >>> (k.toUInt32 &&& Int32.toUInt32 31)).toInt32).toInt8.toInt32))))) 64 1 (.inl ((mI S 64 1) + (1 : Int32)))) Q)))) : ma_wp X d w 138 3 [(0, .inr (.inr (some 64))), (1, .inl a1), (2, .inl k)] [] S Q := by
  refine zw_push hm_138 dX11_addBytes_3 (v := .inl k) rfl ?_
  refine zw_if0 hm_138 dX11_addBytes_4 (t := 45) rfl zc0_lt ?_ ?_
  · intro hc
    rw [if_pos hc] at h
    exact zw_sub (ma_nd_of (ks := []) rfl (by decide)) (ma_nd_of (ks := [0, 1, 2]) rfl (by decide)) (ma_le_nil _) h
  · intro hc
    rw [if_neg hc] at h
    refine zw_push hm_138 dX11_addBytes_7 (v := .inr (.inr (some 64))) rfl ?_
    refine zw_gf hm_138 dX11_addBytes_8 (v := .inl (mI S 64 1)) (zO_is hS s_64) (zO_t hS s_64) rfl f_11_68_11 rfl ?_
    refine zw_push hm_138 dX11_addBytes_11 (v := .inl (100 : Int32)) rfl ?_
    refine zw_if2 hm_138 dX11_addBytes_13 (t := 45) rfl zc2_ge ?_ ?_
    · intro hc
      rw [if_pos hc] at h
      exact zw_sub (ma_nd_of (ks := []) rfl (by decide)) (ma_nd_of (ks := [0, 1, 2]) rfl (by decide)) (ma_le_nil _) h
    · intro hc
      rw [if_neg hc] at h
      refine zw_push hm_138 dX11_addBytes_16 (v := .inr (.inr (some 64))) rfl ?_
      refine zw_gf hm_138 dX11_addBytes_17 (v := .inr (.inr (some 65))) (zO_is hS s_64) (zO_t hS s_64) rfl f_11_9_11 (zO_f hS r_64_0) ?_
      refine zw_push hm_138 dX11_addBytes_20 (v := .inr (.inr (some 64))) rfl ?_
      refine zw_gf hm_138 dX11_addBytes_21 (v := .inl (mI S 64 1)) (zO_is hS s_64) (zO_t hS s_64) rfl f_11_68_11 rfl ?_
      refine zw_push hm_138 dX11_addBytes_24 (v := .inl a1) rfl ?_
      refine zw_push hm_138 dX11_addBytes_25 (v := .inl k) rfl ?_
      refine zw_stk hm_138 dX11_addBytes_26 (st' := [.inl ((a1.toUInt32 >>> (k.toUInt32 &&& Int32.toUInt32 31)).toInt32), .inl (mI S 64 1), .inr (.inr (some 65))]) rfl rfl ?_
      refine zw_stk hm_138 dX11_addBytes_27 (st' := [.inl (((a1.toUInt32 >>> (k.toUInt32 &&& Int32.toUInt32 31)).toInt32).toInt8.toInt32), .inl (mI S 64 1), .inr (.inr (some 65))]) rfl rfl ?_
      obtain ⟨hg, h⟩ := h
      refine zw_bas21 hm_138 dX11_addBytes_28 (zO_is hS s_65) (zO_h hS s_65) rfl hg ?_
      refine zw_push hm_138 dX11_addBytes_29 (v := .inr (.inr (some 64))) rfl ?_
      refine zw_stk hm_138 dX11_addBytes_30 (st' := [.inr (.inr (some 64)), .inr (.inr (some 64))]) rfl rfl ?_
      refine zw_gf hm_138 dX11_addBytes_31 (v := .inl (mI S 64 1)) (zO_is (zO_pi hS) s_64) (zO_t (zO_pi hS) s_64) rfl f_11_68_11 rfl ?_
      refine zw_push hm_138 dX11_addBytes_34 (v := .inl (1 : Int32)) rfl ?_
      refine zw_stk hm_138 dX11_addBytes_35 (st' := [.inl ((mI S 64 1) + (1 : Int32)), .inr (.inr (some 64))]) rfl rfl ?_
      refine zw_pf hm_138 dX11_addBytes_36 (zO_is (zO_pi hS) s_64) (zO_t (zO_pi hS) s_64) p_11_68_11 zk_int ?_
      refine zw_sto hm_138 dX11_addBytes_39 [(2, .inl (k + (-8 : Int32))), (0, .inr (.inr (some 64))), (1, .inl a1)] rfl rfl rfl ?_
      refine zw_goto hm_138 dX11_addBytes_42 (t := 3) rfl ?_
      exact zw_sub (ma_nd_of (ks := [0, 1, 2]) rfl (by decide)) (ma_nd_of (ks := [2, 0, 1]) rfl (by decide)) (ma_le_cons rfl (ma_le_cons rfl (ma_le_cons rfl (ma_le_nil _)))) h
theorem g_138_45 {X : Nat × (Nat → Int32)} {d w : Nat} {S : ma_S} {Q : Option ma_V ⊕ Nat → ma_S → Prop} (a1 : Int32) (hd : 0 ≤ d) (hw : 0 ≤ w) (hS : zO S) (h : Q (.inl none) S) : ma_wp X d w 138 45 [] [] S Q := by
  exact zw_vret hm_138 dX11_addBytes_45 h
theorem g_168_0 {X : Nat × (Nat → Int32)} {d w : Nat} {S : ma_S} {Q : Option ma_V ⊕ Nat → ma_S → Prop} (a1 : Int32) (hd : 0 ≤ d) (hw : 0 ≤ w) (hS : zO S) (h : ma_wp X d w 168 3 [(0, .inr (.inr (some 94))), (1, .inl a1), (2, .inl (24 : Int32))] [] S Q) : ma_wp X d w 168 0 [(0, .inr (.inr (some 94))), (1, .inl a1)] [] S Q := by
  refine zw_push hm_168 dX12_four_0 (v := .inl (24 : Int32)) rfl ?_
  refine zw_sto hm_168 dX12_four_2 [(2, .inl (24 : Int32)), (0, .inr (.inr (some 94))), (1, .inl a1)] rfl rfl rfl ?_
  exact zw_sub (ma_nd_of (ks := [0, 1, 2]) rfl (by decide)) (ma_nd_of (ks := [2, 0, 1]) rfl (by decide)) (ma_le_cons rfl (ma_le_cons rfl (ma_le_cons rfl (ma_le_nil _)))) h
theorem g_168_3 {X : Nat × (Nat → Int32)} {d w : Nat} {S : ma_S} {Q : Option ma_V ⊕ Nat → ma_S → Prop} (a1 : Int32) (k : Int32) (hd : 0 ≤ d) (hw : 0 ≤ w) (hS : zO S) (h : if k < 0 then (Q (.inl none) S) else ((0 ≤ (mI S 94 3) ∧ (mI S 94 3).toNatClampNeg < 100) ∧ (ma_wp X d w 168 3 [(0, .inr (.inr (some 94))), (1, .inl a1), (2, .inl (k + (-8 : Int32)))] [] (ma_put (ma_put S 95 (mI S 94 3).toNatClampNeg (.inl ((vp_nar .byte ((a1 >>> (k &&& 31)).toInt8.toInt32))))) 94 3 (.inl ((mI S 94 3) + (1 : Int32)))) Q))) : ma_wp X d w 168 3 [(0, .inr (.inr (some 94))), (1, .inl a1), (2, .inl k)] [] S Q := by
  refine zw_push hm_168 dX12_four_3 (v := .inl k) rfl ?_
  refine zw_if0 hm_168 dX12_four_4 (t := 36) rfl zc0_lt ?_ ?_
  · intro hc
    rw [if_pos hc] at h
    exact zw_vret hm_168 dX12_four_36 h
  · intro hc
    rw [if_neg hc] at h
    refine zw_push hm_168 dX12_four_7 (v := .inr (.inr (some 94))) rfl ?_
    refine zw_gf hm_168 dX12_four_8 (v := .inr (.inr (some 95))) (zO_is hS s_94) (zO_t hS s_94) rfl f_12_13_12 (zO_f hS r_94_1) ?_
    refine zw_push hm_168 dX12_four_11 (v := .inr (.inr (some 94))) rfl ?_
    refine zw_gf hm_168 dX12_four_12 (v := .inl (mI S 94 3)) (zO_is hS s_94) (zO_t hS s_94) rfl f_12_107_12 rfl ?_
    refine zw_push hm_168 dX12_four_15 (v := .inl a1) rfl ?_
    refine zw_push hm_168 dX12_four_16 (v := .inl k) rfl ?_
    refine zw_stk hm_168 dX12_four_17 (st' := [.inl (a1 >>> (k &&& 31)), .inl (mI S 94 3), .inr (.inr (some 95))]) rfl rfl ?_
    refine zw_stk hm_168 dX12_four_18 (st' := [.inl ((a1 >>> (k &&& 31)).toInt8.toInt32), .inl (mI S 94 3), .inr (.inr (some 95))]) rfl rfl ?_
    obtain ⟨hg, h⟩ := h
    refine zw_bas21 hm_168 dX12_four_19 (zO_is hS s_95) (zO_h hS s_95) rfl hg ?_
    refine zw_push hm_168 dX12_four_20 (v := .inr (.inr (some 94))) rfl ?_
    refine zw_stk hm_168 dX12_four_21 (st' := [.inr (.inr (some 94)), .inr (.inr (some 94))]) rfl rfl ?_
    refine zw_gf hm_168 dX12_four_22 (v := .inl (mI S 94 3)) (zO_is (zO_pi hS) s_94) (zO_t (zO_pi hS) s_94) rfl f_12_107_12 rfl ?_
    refine zw_push hm_168 dX12_four_25 (v := .inl (1 : Int32)) rfl ?_
    refine zw_stk hm_168 dX12_four_26 (st' := [.inl ((mI S 94 3) + (1 : Int32)), .inr (.inr (some 94))]) rfl rfl ?_
    refine zw_pf hm_168 dX12_four_27 (zO_is (zO_pi hS) s_94) (zO_t (zO_pi hS) s_94) p_12_107_12 zk_int ?_
    refine zw_sto hm_168 dX12_four_30 [(2, .inl (k + (-8 : Int32))), (0, .inr (.inr (some 94))), (1, .inl a1)] rfl rfl rfl ?_
    refine zw_goto hm_168 dX12_four_33 (t := 3) rfl ?_
    exact zw_sub (ma_nd_of (ks := [0, 1, 2]) rfl (by decide)) (ma_nd_of (ks := [2, 0, 1]) rfl (by decide)) (ma_le_cons rfl (ma_le_cons rfl (ma_le_cons rfl (ma_le_nil _)))) h
theorem gf_0_23 {X : Nat × (Nat → Int32)} {d w : Nat} {S : ma_S} {Q : Option ma_V → ma_S → Prop} (i : Int32) (hd : 13 ≤ d) (hw : 494 ≤ w) (hS : zO S) (h : if ((Int32.ofNat X.1) - (6 : Int32)) < i then (Q (some (.inl (1 : Int32))) S) else ((0 ≤ i ∧ i.toNatClampNeg < X.1) ∧ (ma_fp X 0 d w 40 [(0, .inr (.inr (some 30))), (1, .inr (.inr (some 64))), (2, .inr (.inr (some 94))), (3, .inr (.inr (some 125))), (4, .inl i)] [.inl ((X.2 i.toNatClampNeg) &&& (31 : Int32))] S Q))) : ma_fp X 0 d w 23 [(0, .inr (.inr (some 30))), (1, .inr (.inr (some 64))), (2, .inr (.inr (some 94))), (3, .inr (.inr (some 125))), (4, .inl i)] [] S Q := by
  refine zf_push fm_0 dF0_23 (v := .inl i) rfl ?_
  refine zf_push fm_0 dF0_25 (v := .inr (.inr (some 30))) rfl ?_
  refine zf_one fm_0 dF0_26 oo_sl ?_
  refine zf_push fm_0 dF0_27 (v := .inl (6 : Int32)) rfl ?_
  refine zf_stk fm_0 dF0_29 (st' := [.inl ((Int32.ofNat X.1) - (6 : Int32)), .inl i]) rfl rfl ?_
  refine zf_if2 fm_0 dF0_30 (t := 1467) rfl zc2_gt ?_ ?_
  · intro hc
    rw [if_pos hc] at h
    refine zf_push fm_0 dF0_1467 (v := .inl (1 : Int32)) rfl ?_
    exact zf_bret fm_0 dF0_1468 (by decide) h
  · intro hc
    rw [if_neg hc] at h
    refine zf_push fm_0 dF0_33 (v := .inr (.inr (some 30))) rfl ?_
    refine zf_push fm_0 dF0_34 (v := .inl i) rfl ?_
    obtain ⟨hg, h⟩ := h
    refine zf_one fm_0 dF0_36 (oo_sc hg) ?_
    refine zf_push fm_0 dF0_37 (v := .inl (31 : Int32)) rfl ?_
    refine zf_stk fm_0 dF0_39 (st' := [.inl ((X.2 i.toNatClampNeg) &&& (31 : Int32))]) rfl rfl ?_
    exact h
theorem gf_0_136 {X : Nat × (Nat → Int32)} {d w : Nat} {S : ma_S} {Q : Option ma_V → ma_S → Prop} (i : Int32) (hd : 13 ≤ d) (hw : 494 ≤ w) (hS : zO S) (h : (0 ≤ (i + (1 : Int32)) ∧ ((i + (1 : Int32))).toNatClampNeg < X.1) ∧ ((0 ≤ (i + (2 : Int32)) ∧ ((i + (2 : Int32))).toNatClampNeg < X.1) ∧ ((0 ≤ (i + (3 : Int32)) ∧ ((i + (3 : Int32))).toNatClampNeg < X.1) ∧ ((0 ≤ (i + (4 : Int32)) ∧ ((i + (4 : Int32))).toNatClampNeg < X.1) ∧ ((0 ≤ (i + (5 : Int32)) ∧ ((i + (5 : Int32))).toNatClampNeg < X.1) ∧ (ma_fp X 1 (d - 1) (w - 27) 0 [(0, .inr (.inr (some 64))), (1, .inl (X.2 ((i + (1 : Int32))).toNatClampNeg)), (2, .inl (X.2 ((i + (2 : Int32))).toNatClampNeg)), (3, .inl (X.2 ((i + (3 : Int32))).toNatClampNeg)), (4, .inl (X.2 ((i + (4 : Int32))).toNatClampNeg)), (5, .inl (X.2 ((i + (5 : Int32))).toNatClampNeg)), (6, .inr (.inr (some 125)))] [] S (zfi_ (fun v1 S2 => zO S2 ∧ ((0 ≤ (i + (1 : Int32)) ∧ ((i + (1 : Int32))).toNatClampNeg < X.1) ∧ ((0 ≤ (i + (2 : Int32)) ∧ ((i + (2 : Int32))).toNatClampNeg < X.1) ∧ ((0 ≤ (i + (3 : Int32)) ∧ ((i + (3 : Int32))).toNatClampNeg < X.1) ∧ ((0 ≤ (i + (4 : Int32)) ∧ ((i + (4 : Int32))).toNatClampNeg < X.1) ∧ ((0 ≤ (i + (5 : Int32)) ∧ ((i + (5 : Int32))).toNatClampNeg < X.1) ∧ (ma_wp X (d - 1) (w - 25) 166 0 [(0, .inr (.inr (some 94))), (1, .inl (X.2 ((i + (1 : Int32))).toNatClampNeg)), (2, .inl (X.2 ((i + (2 : Int32))).toNatClampNeg)), (3, .inl (X.2 ((i + (3 : Int32))).toNatClampNeg)), (4, .inl (X.2 ((i + (4 : Int32))).toNatClampNeg)), (5, .inl (X.2 ((i + (5 : Int32))).toNatClampNeg))] [] S2 (zi (fun v4 S3 => zO S3 ∧ (if (mI S3 94 0) = v1 then (if v1 = 0 then (if (lg_cmp (mL S3 125 0) (v4.toInt64)) = 0 then (ma_fp X 0 d w 1461 [(0, .inr (.inr (some 30))), (1, .inr (.inr (some 64))), (2, .inr (.inr (some 94))), (3, .inr (.inr (some 125))), (4, .inl i)] [] S3 Q) else (Q (some (.inl (0 : Int32))) S3)) else (ma_fp X 0 d w 1461 [(0, .inr (.inr (some 30))), (1, .inr (.inr (some 64))), (2, .inr (.inr (some 94))), (3, .inr (.inr (some 125))), (4, .inl i)] [] S3 Q)) else (Q (some (.inl (0 : Int32))) S3))) (fun _ _ => False)))))))))))))))) : ma_fp X 0 d w 136 [(0, .inr (.inr (some 30))), (1, .inr (.inr (some 64))), (2, .inr (.inr (some 94))), (3, .inr (.inr (some 125))), (4, .inl i)] [] S Q := by
  refine zf_push fm_0 dF0_136 (v := .inr (.inr (some 64))) rfl ?_
  refine zf_push fm_0 dF0_137 (v := .inr (.inr (some 30))) rfl ?_
  refine zf_push fm_0 dF0_138 (v := .inl i) rfl ?_
  refine zf_push fm_0 dF0_140 (v := .inl (1 : Int32)) rfl ?_
  refine zf_stk fm_0 dF0_141 (st' := [.inl (i + (1 : Int32)), .inr (.inr (some 30)), .inr (.inr (some 64))]) rfl rfl ?_
  obtain ⟨hg, h⟩ := h
  refine zf_one fm_0 dF0_142 (oo_sc hg) ?_
  refine zf_push fm_0 dF0_143 (v := .inr (.inr (some 30))) rfl ?_
  refine zf_push fm_0 dF0_144 (v := .inl i) rfl ?_
  refine zf_push fm_0 dF0_146 (v := .inl (2 : Int32)) rfl ?_
  refine zf_stk fm_0 dF0_147 (st' := [.inl (i + (2 : Int32)), .inr (.inr (some 30)), .inl (X.2 ((i + (1 : Int32))).toNatClampNeg), .inr (.inr (some 64))]) rfl rfl ?_
  obtain ⟨hg, h⟩ := h
  refine zf_one fm_0 dF0_148 (oo_sc hg) ?_
  refine zf_push fm_0 dF0_149 (v := .inr (.inr (some 30))) rfl ?_
  refine zf_push fm_0 dF0_150 (v := .inl i) rfl ?_
  refine zf_push fm_0 dF0_152 (v := .inl (3 : Int32)) rfl ?_
  refine zf_stk fm_0 dF0_153 (st' := [.inl (i + (3 : Int32)), .inr (.inr (some 30)), .inl (X.2 ((i + (2 : Int32))).toNatClampNeg), .inl (X.2 ((i + (1 : Int32))).toNatClampNeg), .inr (.inr (some 64))]) rfl rfl ?_
  obtain ⟨hg, h⟩ := h
  refine zf_one fm_0 dF0_154 (oo_sc hg) ?_
  refine zf_push fm_0 dF0_155 (v := .inr (.inr (some 30))) rfl ?_
  refine zf_push fm_0 dF0_156 (v := .inl i) rfl ?_
  refine zf_push fm_0 dF0_158 (v := .inl (4 : Int32)) rfl ?_
  refine zf_stk fm_0 dF0_159 (st' := [.inl (i + (4 : Int32)), .inr (.inr (some 30)), .inl (X.2 ((i + (3 : Int32))).toNatClampNeg), .inl (X.2 ((i + (2 : Int32))).toNatClampNeg), .inl (X.2 ((i + (1 : Int32))).toNatClampNeg), .inr (.inr (some 64))]) rfl rfl ?_
  obtain ⟨hg, h⟩ := h
  refine zf_one fm_0 dF0_160 (oo_sc hg) ?_
  refine zf_push fm_0 dF0_161 (v := .inr (.inr (some 30))) rfl ?_
  refine zf_push fm_0 dF0_162 (v := .inl i) rfl ?_
  refine zf_push fm_0 dF0_164 (v := .inl (5 : Int32)) rfl ?_
  refine zf_stk fm_0 dF0_165 (st' := [.inl (i + (5 : Int32)), .inr (.inr (some 30)), .inl (X.2 ((i + (4 : Int32))).toNatClampNeg), .inl (X.2 ((i + (3 : Int32))).toNatClampNeg), .inl (X.2 ((i + (2 : Int32))).toNatClampNeg), .inl (X.2 ((i + (1 : Int32))).toNatClampNeg), .inr (.inr (some 64))]) rfl rfl ?_
  obtain ⟨hg, h⟩ := h
  refine zf_one fm_0 dF0_166 (oo_sc hg) ?_
  refine zf_push fm_0 dF0_167 (v := .inr (.inr (some 125))) rfl ?_
  refine zf_cw fm_0 dF0_168 cw_89 fm_1 [.inr (.inr (some 125)), .inl (X.2 ((i + (5 : Int32))).toNatClampNeg), .inl (X.2 ((i + (4 : Int32))).toNatClampNeg), .inl (X.2 ((i + (3 : Int32))).toNatClampNeg), .inl (X.2 ((i + (2 : Int32))).toNatClampNeg), .inl (X.2 ((i + (1 : Int32))).toNatClampNeg), .inr (.inr (some 64))] [] rfl (by omega) (by omega) rfl (zf_mono h (zfi_go ?_))
  · intro v1 S2 hv
    obtain ⟨hS2, h⟩ := hv
    refine zf_sto fm_0 dF0_171 [(5, .inl v1), (0, .inr (.inr (some 30))), (1, .inr (.inr (some 64))), (2, .inr (.inr (some 94))), (3, .inr (.inr (some 125))), (4, .inl i)] rfl rfl rfl ?_
    refine zf_push fm_0 dF0_173 (v := .inr (.inr (some 94))) rfl ?_
    refine zf_push fm_0 dF0_174 (v := .inr (.inr (some 30))) rfl ?_
    refine zf_push fm_0 dF0_175 (v := .inl i) rfl ?_
    refine zf_push fm_0 dF0_177 (v := .inl (1 : Int32)) rfl ?_
    refine zf_stk fm_0 dF0_178 (st' := [.inl (i + (1 : Int32)), .inr (.inr (some 30)), .inr (.inr (some 94))]) rfl rfl ?_
    obtain ⟨hg, h⟩ := h
    refine zf_one fm_0 dF0_179 (oo_sc hg) ?_
    refine zf_push fm_0 dF0_180 (v := .inr (.inr (some 30))) rfl ?_
    refine zf_push fm_0 dF0_181 (v := .inl i) rfl ?_
    refine zf_push fm_0 dF0_183 (v := .inl (2 : Int32)) rfl ?_
    refine zf_stk fm_0 dF0_184 (st' := [.inl (i + (2 : Int32)), .inr (.inr (some 30)), .inl (X.2 ((i + (1 : Int32))).toNatClampNeg), .inr (.inr (some 94))]) rfl rfl ?_
    obtain ⟨hg, h⟩ := h
    refine zf_one fm_0 dF0_185 (oo_sc hg) ?_
    refine zf_push fm_0 dF0_186 (v := .inr (.inr (some 30))) rfl ?_
    refine zf_push fm_0 dF0_187 (v := .inl i) rfl ?_
    refine zf_push fm_0 dF0_189 (v := .inl (3 : Int32)) rfl ?_
    refine zf_stk fm_0 dF0_190 (st' := [.inl (i + (3 : Int32)), .inr (.inr (some 30)), .inl (X.2 ((i + (2 : Int32))).toNatClampNeg), .inl (X.2 ((i + (1 : Int32))).toNatClampNeg), .inr (.inr (some 94))]) rfl rfl ?_
    obtain ⟨hg, h⟩ := h
    refine zf_one fm_0 dF0_191 (oo_sc hg) ?_
    refine zf_push fm_0 dF0_192 (v := .inr (.inr (some 30))) rfl ?_
    refine zf_push fm_0 dF0_193 (v := .inl i) rfl ?_
    refine zf_push fm_0 dF0_195 (v := .inl (4 : Int32)) rfl ?_
    refine zf_stk fm_0 dF0_196 (st' := [.inl (i + (4 : Int32)), .inr (.inr (some 30)), .inl (X.2 ((i + (3 : Int32))).toNatClampNeg), .inl (X.2 ((i + (2 : Int32))).toNatClampNeg), .inl (X.2 ((i + (1 : Int32))).toNatClampNeg), .inr (.inr (some 94))]) rfl rfl ?_
    obtain ⟨hg, h⟩ := h
    refine zf_one fm_0 dF0_197 (oo_sc hg) ?_
    refine zf_push fm_0 dF0_198 (v := .inr (.inr (some 30))) rfl ?_
    refine zf_push fm_0 dF0_199 (v := .inl i) rfl ?_
    refine zf_push fm_0 dF0_201 (v := .inl (5 : Int32)) rfl ?_
    refine zf_stk fm_0 dF0_202 (st' := [.inl (i + (5 : Int32)), .inr (.inr (some 30)), .inl (X.2 ((i + (4 : Int32))).toNatClampNeg), .inl (X.2 ((i + (3 : Int32))).toNatClampNeg), .inl (X.2 ((i + (2 : Int32))).toNatClampNeg), .inl (X.2 ((i + (1 : Int32))).toNatClampNeg), .inr (.inr (some 94))]) rfl rfl ?_
    obtain ⟨hg, h⟩ := h
    refine zf_one fm_0 dF0_203 (oo_sc hg) ?_
    refine zf_cv fm_0 dF0_204 v_14_94_12 hm_166 [.inl (X.2 ((i + (5 : Int32))).toNatClampNeg), .inl (X.2 ((i + (4 : Int32))).toNatClampNeg), .inl (X.2 ((i + (3 : Int32))).toNatClampNeg), .inl (X.2 ((i + (2 : Int32))).toNatClampNeg), .inl (X.2 ((i + (1 : Int32))).toNatClampNeg)] [] rfl (zO_rt hS2 s_94 rfl) ⟨by omega, by omega⟩ rfl (zw_mono h (zi_go ?_ ?_))
    · intro v4 S3 hv
      obtain ⟨hS3, h⟩ := hv
      refine zf_sto fm_0 dF0_207 [(6, .inl v4), (5, .inl v1), (0, .inr (.inr (some 30))), (1, .inr (.inr (some 64))), (2, .inr (.inr (some 94))), (3, .inr (.inr (some 125))), (4, .inl i)] rfl rfl rfl ?_
      refine zf_push fm_0 dF0_209 (v := .inr (.inr (some 94))) rfl ?_
      refine zf_cv fm_0 dF0_210 v_14_95_12 hm_164 [] [] rfl (zO_rt hS3 s_94 rfl) ⟨by omega, by omega⟩ rfl ?_
      show ma_wp X (d - 1) (w - 20) 164 0 [(0, .inr (.inr (some 94)))] [] S3 _
      refine zw_push hm_164 dX12_thrown_0 (v := .inr (.inr (some 94))) rfl ?_
      refine zw_gf hm_164 dX12_thrown_1 (v := .inl (mI S3 94 0)) (zO_is hS3 s_94) (zO_t hS3 s_94) rfl f_12_1_12 rfl ?_
      refine zw_iret hm_164 dX12_thrown_4 ?_
      show ma_fp X 0 d w 213 [(6, .inl v4), (5, .inl v1), (0, .inr (.inr (some 30))), (1, .inr (.inr (some 64))), (2, .inr (.inr (some 94))), (3, .inr (.inr (some 125))), (4, .inl i)] [.inl (mI S3 94 0)] S3 Q
      refine zf_push fm_0 dF0_213 (v := .inl v1) rfl ?_
      refine zf_if2 fm_0 dF0_215 (t := 220) rfl zc2_eq ?_ ?_
      · intro hc
        rw [if_pos hc] at h
        refine zf_push fm_0 dF0_220 (v := .inl v1) rfl ?_
        refine zf_if0 fm_0 dF0_222 (t := 237) rfl zc0_ne ?_ ?_
        · intro hc
          rw [if_neg hc] at h
          refine zf_goto fm_0 dF0_237 (t := 1461) rfl ?_
          exact zf_sub (ma_nd_of (ks := [0, 1, 2, 3, 4]) rfl (by decide)) (ma_nd_of (ks := [6, 5, 0, 1, 2, 3, 4]) rfl (by decide)) (ma_le_cons rfl (ma_le_cons rfl (ma_le_cons rfl (ma_le_cons rfl (ma_le_cons rfl (ma_le_nil _)))))) h
        · intro hc
          rw [if_pos (Classical.not_not.mp hc)] at h
          refine zf_push fm_0 dF0_225 (v := .inr (.inr (some 125))) rfl ?_
          refine zf_push fm_0 dF0_226 (v := .inl (0 : Int32)) rfl ?_
          refine zf_one fm_0 dF0_227 (oo_la (zO_is hS3 s_125) (zO_h hS3 s_125) (a := 0) rfl ⟨by decide, by decide⟩) ?_
          refine zf_push fm_0 dF0_228 (v := .inl v4) rfl ?_
          refine zf_stk fm_0 dF0_230 (st' := [.inr (.inl (v4.toInt64)), .inr (.inl (mL S3 125 0))]) rfl rfl ?_
          refine zf_stk fm_0 dF0_231 (st' := [.inl (lg_cmp (mL S3 125 0) (v4.toInt64))]) rfl rfl ?_
          refine zf_if0 fm_0 dF0_232 (t := 237) rfl zc0_eq ?_ ?_
          · intro hc
            rw [if_pos hc] at h
            refine zf_goto fm_0 dF0_237 (t := 1461) rfl ?_
            exact zf_sub (ma_nd_of (ks := [0, 1, 2, 3, 4]) rfl (by decide)) (ma_nd_of (ks := [6, 5, 0, 1, 2, 3, 4]) rfl (by decide)) (ma_le_cons rfl (ma_le_cons rfl (ma_le_cons rfl (ma_le_cons rfl (ma_le_cons rfl (ma_le_nil _)))))) h
          · intro hc
            rw [if_neg hc] at h
            refine zf_push fm_0 dF0_235 (v := .inl (0 : Int32)) rfl ?_
            exact zf_bret fm_0 dF0_236 (by decide) h
      · intro hc
        rw [if_neg hc] at h
        refine zf_push fm_0 dF0_218 (v := .inl (0 : Int32)) rfl ?_
        exact zf_bret fm_0 dF0_219 (by decide) h
    · intro x S9 hx
      exact hx.elim
theorem gf_0_240 {X : Nat × (Nat → Int32)} {d w : Nat} {S : ma_S} {Q : Option ma_V → ma_S → Prop} (i : Int32) (hd : 13 ≤ d) (hw : 494 ≤ w) (hS : zO S) (h : (0 ≤ (i + (1 : Int32)) ∧ ((i + (1 : Int32))).toNatClampNeg < X.1) ∧ (ma_fp X 2 (d - 1) (w - 23) 0 [(0, .inr (.inr (some 64))), (1, .inl (X.2 ((i + (1 : Int32))).toNatClampNeg)), (2, .inr (.inr (some 125)))] [] S (zfi_ (fun v1 S2 => zO S2 ∧ ((0 ≤ (i + (1 : Int32)) ∧ ((i + (1 : Int32))).toNatClampNeg < X.1) ∧ (ma_wp X (d - 1) (w - 21) 169 0 [(0, .inr (.inr (some 94))), (1, .inl (X.2 ((i + (1 : Int32))).toNatClampNeg))] [] S2 (zi (fun v4 S3 => zO S3 ∧ (if (mI S3 94 0) = v1 then (if v1 = 0 then (if (lg_cmp (mL S3 125 0) (v4.toInt64)) = 0 then (ma_fp X 0 d w 1461 [(0, .inr (.inr (some 30))), (1, .inr (.inr (some 64))), (2, .inr (.inr (some 94))), (3, .inr (.inr (some 125))), (4, .inl i)] [] S3 Q) else (Q (some (.inl (0 : Int32))) S3)) else (ma_fp X 0 d w 1461 [(0, .inr (.inr (some 30))), (1, .inr (.inr (some 64))), (2, .inr (.inr (some 94))), (3, .inr (.inr (some 125))), (4, .inl i)] [] S3 Q)) else (Q (some (.inl (0 : Int32))) S3))) (fun _ _ => False)))))))) : ma_fp X 0 d w 240 [(0, .inr (.inr (some 30))), (1, .inr (.inr (some 64))), (2, .inr (.inr (some 94))), (3, .inr (.inr (some 125))), (4, .inl i)] [] S Q := by
  refine zf_push fm_0 dF0_240 (v := .inr (.inr (some 64))) rfl ?_
  refine zf_push fm_0 dF0_241 (v := .inr (.inr (some 30))) rfl ?_
  refine zf_push fm_0 dF0_242 (v := .inl i) rfl ?_
  refine zf_push fm_0 dF0_244 (v := .inl (1 : Int32)) rfl ?_
  refine zf_stk fm_0 dF0_245 (st' := [.inl (i + (1 : Int32)), .inr (.inr (some 30)), .inr (.inr (some 64))]) rfl rfl ?_
  obtain ⟨hg, h⟩ := h
  refine zf_one fm_0 dF0_246 (oo_sc hg) ?_
  refine zf_push fm_0 dF0_247 (v := .inr (.inr (some 125))) rfl ?_
  refine zf_cw fm_0 dF0_248 cw_98 fm_2 [.inr (.inr (some 125)), .inl (X.2 ((i + (1 : Int32))).toNatClampNeg), .inr (.inr (some 64))] [] rfl (by omega) (by omega) rfl (zf_mono h (zfi_go ?_))
  · intro v1 S2 hv
    obtain ⟨hS2, h⟩ := hv
    refine zf_sto fm_0 dF0_251 [(5, .inl v1), (0, .inr (.inr (some 30))), (1, .inr (.inr (some 64))), (2, .inr (.inr (some 94))), (3, .inr (.inr (some 125))), (4, .inl i)] rfl rfl rfl ?_
    refine zf_push fm_0 dF0_253 (v := .inr (.inr (some 94))) rfl ?_
    refine zf_push fm_0 dF0_254 (v := .inr (.inr (some 30))) rfl ?_
    refine zf_push fm_0 dF0_255 (v := .inl i) rfl ?_
    refine zf_push fm_0 dF0_257 (v := .inl (1 : Int32)) rfl ?_
    refine zf_stk fm_0 dF0_258 (st' := [.inl (i + (1 : Int32)), .inr (.inr (some 30)), .inr (.inr (some 94))]) rfl rfl ?_
    obtain ⟨hg, h⟩ := h
    refine zf_one fm_0 dF0_259 (oo_sc hg) ?_
    refine zf_cv fm_0 dF0_260 v_14_101_12 hm_169 [.inl (X.2 ((i + (1 : Int32))).toNatClampNeg)] [] rfl (zO_rt hS2 s_94 rfl) ⟨by omega, by omega⟩ rfl (zw_mono h (zi_go ?_ ?_))
    · intro v4 S3 hv
      obtain ⟨hS3, h⟩ := hv
      refine zf_sto fm_0 dF0_263 [(6, .inl v4), (5, .inl v1), (0, .inr (.inr (some 30))), (1, .inr (.inr (some 64))), (2, .inr (.inr (some 94))), (3, .inr (.inr (some 125))), (4, .inl i)] rfl rfl rfl ?_
      refine zf_push fm_0 dF0_265 (v := .inr (.inr (some 94))) rfl ?_
      refine zf_cv fm_0 dF0_266 v_14_95_12 hm_164 [] [] rfl (zO_rt hS3 s_94 rfl) ⟨by omega, by omega⟩ rfl ?_
      show ma_wp X (d - 1) (w - 20) 164 0 [(0, .inr (.inr (some 94)))] [] S3 _
      refine zw_push hm_164 dX12_thrown_0 (v := .inr (.inr (some 94))) rfl ?_
      refine zw_gf hm_164 dX12_thrown_1 (v := .inl (mI S3 94 0)) (zO_is hS3 s_94) (zO_t hS3 s_94) rfl f_12_1_12 rfl ?_
      refine zw_iret hm_164 dX12_thrown_4 ?_
      show ma_fp X 0 d w 269 [(6, .inl v4), (5, .inl v1), (0, .inr (.inr (some 30))), (1, .inr (.inr (some 64))), (2, .inr (.inr (some 94))), (3, .inr (.inr (some 125))), (4, .inl i)] [.inl (mI S3 94 0)] S3 Q
      refine zf_push fm_0 dF0_269 (v := .inl v1) rfl ?_
      refine zf_if2 fm_0 dF0_271 (t := 276) rfl zc2_eq ?_ ?_
      · intro hc
        rw [if_pos hc] at h
        refine zf_push fm_0 dF0_276 (v := .inl v1) rfl ?_
        refine zf_if0 fm_0 dF0_278 (t := 293) rfl zc0_ne ?_ ?_
        · intro hc
          rw [if_neg hc] at h
          refine zf_goto fm_0 dF0_293 (t := 1461) rfl ?_
          exact zf_sub (ma_nd_of (ks := [0, 1, 2, 3, 4]) rfl (by decide)) (ma_nd_of (ks := [6, 5, 0, 1, 2, 3, 4]) rfl (by decide)) (ma_le_cons rfl (ma_le_cons rfl (ma_le_cons rfl (ma_le_cons rfl (ma_le_cons rfl (ma_le_nil _)))))) h
        · intro hc
          rw [if_pos (Classical.not_not.mp hc)] at h
          refine zf_push fm_0 dF0_281 (v := .inr (.inr (some 125))) rfl ?_
          refine zf_push fm_0 dF0_282 (v := .inl (0 : Int32)) rfl ?_
          refine zf_one fm_0 dF0_283 (oo_la (zO_is hS3 s_125) (zO_h hS3 s_125) (a := 0) rfl ⟨by decide, by decide⟩) ?_
          refine zf_push fm_0 dF0_284 (v := .inl v4) rfl ?_
          refine zf_stk fm_0 dF0_286 (st' := [.inr (.inl (v4.toInt64)), .inr (.inl (mL S3 125 0))]) rfl rfl ?_
          refine zf_stk fm_0 dF0_287 (st' := [.inl (lg_cmp (mL S3 125 0) (v4.toInt64))]) rfl rfl ?_
          refine zf_if0 fm_0 dF0_288 (t := 293) rfl zc0_eq ?_ ?_
          · intro hc
            rw [if_pos hc] at h
            refine zf_goto fm_0 dF0_293 (t := 1461) rfl ?_
            exact zf_sub (ma_nd_of (ks := [0, 1, 2, 3, 4]) rfl (by decide)) (ma_nd_of (ks := [6, 5, 0, 1, 2, 3, 4]) rfl (by decide)) (ma_le_cons rfl (ma_le_cons rfl (ma_le_cons rfl (ma_le_cons rfl (ma_le_cons rfl (ma_le_nil _)))))) h
          · intro hc
            rw [if_neg hc] at h
            refine zf_push fm_0 dF0_291 (v := .inl (0 : Int32)) rfl ?_
            exact zf_bret fm_0 dF0_292 (by decide) h
      · intro hc
        rw [if_neg hc] at h
        refine zf_push fm_0 dF0_274 (v := .inl (0 : Int32)) rfl ?_
        exact zf_bret fm_0 dF0_275 (by decide) h
    · intro x S9 hx
      exact hx.elim
theorem gf_0_296 {X : Nat × (Nat → Int32)} {d w : Nat} {S : ma_S} {Q : Option ma_V → ma_S → Prop} (i : Int32) (hd : 13 ≤ d) (hw : 494 ≤ w) (hS : zO S) (h : (0 ≤ (i + (1 : Int32)) ∧ ((i + (1 : Int32))).toNatClampNeg < X.1) ∧ ((0 ≤ (i + (2 : Int32)) ∧ ((i + (2 : Int32))).toNatClampNeg < X.1) ∧ (ma_fp X 3 (d - 1) (w - 24) 0 [(0, .inr (.inr (some 64))), (1, .inl (X.2 ((i + (1 : Int32))).toNatClampNeg)), (2, .inl (X.2 ((i + (2 : Int32))).toNatClampNeg)), (3, .inr (.inr (some 125)))] [] S (zfi_ (fun v1 S2 => zO S2 ∧ ((0 ≤ (i + (1 : Int32)) ∧ ((i + (1 : Int32))).toNatClampNeg < X.1) ∧ ((0 ≤ (i + (2 : Int32)) ∧ ((i + (2 : Int32))).toNatClampNeg < X.1) ∧ (ma_wp X (d - 1) (w - 23) 170 0 [(0, .inr (.inr (some 94))), (1, .inl (X.2 ((i + (1 : Int32))).toNatClampNeg)), (2, .inl (X.2 ((i + (2 : Int32))).toNatClampNeg))] [] S2 (zi (fun v4 S3 => zO S3 ∧ (if (mI S3 94 0) = v1 then (if v1 = 0 then (if (lg_cmp (mL S3 125 0) (v4.toInt64)) = 0 then (ma_fp X 0 d w 1461 [(0, .inr (.inr (some 30))), (1, .inr (.inr (some 64))), (2, .inr (.inr (some 94))), (3, .inr (.inr (some 125))), (4, .inl i)] [] S3 Q) else (Q (some (.inl (0 : Int32))) S3)) else (ma_fp X 0 d w 1461 [(0, .inr (.inr (some 30))), (1, .inr (.inr (some 64))), (2, .inr (.inr (some 94))), (3, .inr (.inr (some 125))), (4, .inl i)] [] S3 Q)) else (Q (some (.inl (0 : Int32))) S3))) (fun _ _ => False)))))))))) : ma_fp X 0 d w 296 [(0, .inr (.inr (some 30))), (1, .inr (.inr (some 64))), (2, .inr (.inr (some 94))), (3, .inr (.inr (some 125))), (4, .inl i)] [] S Q := by
  refine zf_push fm_0 dF0_296 (v := .inr (.inr (some 64))) rfl ?_
  refine zf_push fm_0 dF0_297 (v := .inr (.inr (some 30))) rfl ?_
  refine zf_push fm_0 dF0_298 (v := .inl i) rfl ?_
  refine zf_push fm_0 dF0_300 (v := .inl (1 : Int32)) rfl ?_
  refine zf_stk fm_0 dF0_301 (st' := [.inl (i + (1 : Int32)), .inr (.inr (some 30)), .inr (.inr (some 64))]) rfl rfl ?_
  obtain ⟨hg, h⟩ := h
  refine zf_one fm_0 dF0_302 (oo_sc hg) ?_
  refine zf_push fm_0 dF0_303 (v := .inr (.inr (some 30))) rfl ?_
  refine zf_push fm_0 dF0_304 (v := .inl i) rfl ?_
  refine zf_push fm_0 dF0_306 (v := .inl (2 : Int32)) rfl ?_
  refine zf_stk fm_0 dF0_307 (st' := [.inl (i + (2 : Int32)), .inr (.inr (some 30)), .inl (X.2 ((i + (1 : Int32))).toNatClampNeg), .inr (.inr (some 64))]) rfl rfl ?_
  obtain ⟨hg, h⟩ := h
  refine zf_one fm_0 dF0_308 (oo_sc hg) ?_
  refine zf_push fm_0 dF0_309 (v := .inr (.inr (some 125))) rfl ?_
  refine zf_cw fm_0 dF0_310 cw_102 fm_3 [.inr (.inr (some 125)), .inl (X.2 ((i + (2 : Int32))).toNatClampNeg), .inl (X.2 ((i + (1 : Int32))).toNatClampNeg), .inr (.inr (some 64))] [] rfl (by omega) (by omega) rfl (zf_mono h (zfi_go ?_))
  · intro v1 S2 hv
    obtain ⟨hS2, h⟩ := hv
    refine zf_sto fm_0 dF0_313 [(5, .inl v1), (0, .inr (.inr (some 30))), (1, .inr (.inr (some 64))), (2, .inr (.inr (some 94))), (3, .inr (.inr (some 125))), (4, .inl i)] rfl rfl rfl ?_
    refine zf_push fm_0 dF0_315 (v := .inr (.inr (some 94))) rfl ?_
    refine zf_push fm_0 dF0_316 (v := .inr (.inr (some 30))) rfl ?_
    refine zf_push fm_0 dF0_317 (v := .inl i) rfl ?_
    refine zf_push fm_0 dF0_319 (v := .inl (1 : Int32)) rfl ?_
    refine zf_stk fm_0 dF0_320 (st' := [.inl (i + (1 : Int32)), .inr (.inr (some 30)), .inr (.inr (some 94))]) rfl rfl ?_
    obtain ⟨hg, h⟩ := h
    refine zf_one fm_0 dF0_321 (oo_sc hg) ?_
    refine zf_push fm_0 dF0_322 (v := .inr (.inr (some 30))) rfl ?_
    refine zf_push fm_0 dF0_323 (v := .inl i) rfl ?_
    refine zf_push fm_0 dF0_325 (v := .inl (2 : Int32)) rfl ?_
    refine zf_stk fm_0 dF0_326 (st' := [.inl (i + (2 : Int32)), .inr (.inr (some 30)), .inl (X.2 ((i + (1 : Int32))).toNatClampNeg), .inr (.inr (some 94))]) rfl rfl ?_
    obtain ⟨hg, h⟩ := h
    refine zf_one fm_0 dF0_327 (oo_sc hg) ?_
    refine zf_cv fm_0 dF0_328 v_14_105_12 hm_170 [.inl (X.2 ((i + (2 : Int32))).toNatClampNeg), .inl (X.2 ((i + (1 : Int32))).toNatClampNeg)] [] rfl (zO_rt hS2 s_94 rfl) ⟨by omega, by omega⟩ rfl (zw_mono h (zi_go ?_ ?_))
    · intro v4 S3 hv
      obtain ⟨hS3, h⟩ := hv
      refine zf_sto fm_0 dF0_331 [(6, .inl v4), (5, .inl v1), (0, .inr (.inr (some 30))), (1, .inr (.inr (some 64))), (2, .inr (.inr (some 94))), (3, .inr (.inr (some 125))), (4, .inl i)] rfl rfl rfl ?_
      refine zf_push fm_0 dF0_333 (v := .inr (.inr (some 94))) rfl ?_
      refine zf_cv fm_0 dF0_334 v_14_95_12 hm_164 [] [] rfl (zO_rt hS3 s_94 rfl) ⟨by omega, by omega⟩ rfl ?_
      show ma_wp X (d - 1) (w - 20) 164 0 [(0, .inr (.inr (some 94)))] [] S3 _
      refine zw_push hm_164 dX12_thrown_0 (v := .inr (.inr (some 94))) rfl ?_
      refine zw_gf hm_164 dX12_thrown_1 (v := .inl (mI S3 94 0)) (zO_is hS3 s_94) (zO_t hS3 s_94) rfl f_12_1_12 rfl ?_
      refine zw_iret hm_164 dX12_thrown_4 ?_
      show ma_fp X 0 d w 337 [(6, .inl v4), (5, .inl v1), (0, .inr (.inr (some 30))), (1, .inr (.inr (some 64))), (2, .inr (.inr (some 94))), (3, .inr (.inr (some 125))), (4, .inl i)] [.inl (mI S3 94 0)] S3 Q
      refine zf_push fm_0 dF0_337 (v := .inl v1) rfl ?_
      refine zf_if2 fm_0 dF0_339 (t := 344) rfl zc2_eq ?_ ?_
      · intro hc
        rw [if_pos hc] at h
        refine zf_push fm_0 dF0_344 (v := .inl v1) rfl ?_
        refine zf_if0 fm_0 dF0_346 (t := 361) rfl zc0_ne ?_ ?_
        · intro hc
          rw [if_neg hc] at h
          refine zf_goto fm_0 dF0_361 (t := 1461) rfl ?_
          exact zf_sub (ma_nd_of (ks := [0, 1, 2, 3, 4]) rfl (by decide)) (ma_nd_of (ks := [6, 5, 0, 1, 2, 3, 4]) rfl (by decide)) (ma_le_cons rfl (ma_le_cons rfl (ma_le_cons rfl (ma_le_cons rfl (ma_le_cons rfl (ma_le_nil _)))))) h
        · intro hc
          rw [if_pos (Classical.not_not.mp hc)] at h
          refine zf_push fm_0 dF0_349 (v := .inr (.inr (some 125))) rfl ?_
          refine zf_push fm_0 dF0_350 (v := .inl (0 : Int32)) rfl ?_
          refine zf_one fm_0 dF0_351 (oo_la (zO_is hS3 s_125) (zO_h hS3 s_125) (a := 0) rfl ⟨by decide, by decide⟩) ?_
          refine zf_push fm_0 dF0_352 (v := .inl v4) rfl ?_
          refine zf_stk fm_0 dF0_354 (st' := [.inr (.inl (v4.toInt64)), .inr (.inl (mL S3 125 0))]) rfl rfl ?_
          refine zf_stk fm_0 dF0_355 (st' := [.inl (lg_cmp (mL S3 125 0) (v4.toInt64))]) rfl rfl ?_
          refine zf_if0 fm_0 dF0_356 (t := 361) rfl zc0_eq ?_ ?_
          · intro hc
            rw [if_pos hc] at h
            refine zf_goto fm_0 dF0_361 (t := 1461) rfl ?_
            exact zf_sub (ma_nd_of (ks := [0, 1, 2, 3, 4]) rfl (by decide)) (ma_nd_of (ks := [6, 5, 0, 1, 2, 3, 4]) rfl (by decide)) (ma_le_cons rfl (ma_le_cons rfl (ma_le_cons rfl (ma_le_cons rfl (ma_le_cons rfl (ma_le_nil _)))))) h
          · intro hc
            rw [if_neg hc] at h
            refine zf_push fm_0 dF0_359 (v := .inl (0 : Int32)) rfl ?_
            exact zf_bret fm_0 dF0_360 (by decide) h
      · intro hc
        rw [if_neg hc] at h
        refine zf_push fm_0 dF0_342 (v := .inl (0 : Int32)) rfl ?_
        exact zf_bret fm_0 dF0_343 (by decide) h
    · intro x S9 hx
      exact hx.elim
theorem gf_0_364 {X : Nat × (Nat → Int32)} {d w : Nat} {S : ma_S} {Q : Option ma_V → ma_S → Prop} (i : Int32) (hd : 13 ≤ d) (hw : 494 ≤ w) (hS : zO S) (h : ma_wp X (d - 1) (w - 21) 127 0 [(0, .inr (.inr (some 64)))] [] S (zi (fun v2 S1 => zO S1 ∧ (ma_wp X (d - 1) (w - 21) 171 0 [(0, .inr (.inr (some 94)))] [] S1 (zi (fun v4 S3 => zO S3 ∧ (if v2 = v4 then (ma_fp X 0 d w 1461 [(0, .inr (.inr (some 30))), (1, .inr (.inr (some 64))), (2, .inr (.inr (some 94))), (3, .inr (.inr (some 125))), (4, .inl i)] [] S3 Q) else (Q (some (.inl (0 : Int32))) S3))) (fun _ _ => False)))) (fun _ _ => False))) : ma_fp X 0 d w 364 [(0, .inr (.inr (some 30))), (1, .inr (.inr (some 64))), (2, .inr (.inr (some 94))), (3, .inr (.inr (some 125))), (4, .inl i)] [] S Q := by
  refine zf_push fm_0 dF0_364 (v := .inr (.inr (some 64))) rfl ?_
  refine zf_cv fm_0 dF0_365 v_14_106_11 hm_127 [] [] rfl (zO_rt hS s_64 rfl) ⟨by omega, by omega⟩ rfl (zw_mono h (zi_go ?_ ?_))
  · intro v2 S1 hv
    obtain ⟨hS1, h⟩ := hv
    refine zf_push fm_0 dF0_368 (v := .inr (.inr (some 94))) rfl ?_
    refine zf_cv fm_0 dF0_369 v_14_109_12 hm_171 [] [.inl v2] rfl (zO_rt hS1 s_94 rfl) ⟨by omega, by omega⟩ rfl (zw_mono h (zi_go ?_ ?_))
    · intro v4 S3 hv
      obtain ⟨hS3, h⟩ := hv
      refine zf_if2 fm_0 dF0_372 (t := 1461) rfl zc2_eq ?_ ?_
      · intro hc
        rw [if_pos hc] at h
        exact h
      · intro hc
        rw [if_neg hc] at h
        refine zf_push fm_0 dF0_375 (v := .inl (0 : Int32)) rfl ?_
        exact zf_bret fm_0 dF0_376 (by decide) h
    · intro x S9 hx
      exact hx.elim
  · intro x S9 hx
    exact hx.elim
theorem gf_0_377 {X : Nat × (Nat → Int32)} {d w : Nat} {S : ma_S} {Q : Option ma_V → ma_S → Prop} (i : Int32) (hd : 13 ≤ d) (hw : 494 ≤ w) (hS : zO S) (h : (0 ≤ (i + (1 : Int32)) ∧ ((i + (1 : Int32))).toNatClampNeg < X.1) ∧ ((0 ≤ (i + (2 : Int32)) ∧ ((i + (2 : Int32))).toNatClampNeg < X.1) ∧ (ma_fp X 4 (d - 1) (w - 24) 0 [(0, .inr (.inr (some 64))), (1, .inl (X.2 ((i + (1 : Int32))).toNatClampNeg)), (2, .inl (X.2 ((i + (2 : Int32))).toNatClampNeg)), (3, .inr (.inr (some 125)))] [] S (zfi_ (fun v1 S2 => zO S2 ∧ ((0 ≤ (i + (1 : Int32)) ∧ ((i + (1 : Int32))).toNatClampNeg < X.1) ∧ ((0 ≤ (i + (2 : Int32)) ∧ ((i + (2 : Int32))).toNatClampNeg < X.1) ∧ (ma_wp X (d - 1) (w - 22) 181 0 [(0, .inr (.inr (some 94))), (1, .inl (X.2 ((i + (1 : Int32))).toNatClampNeg)), (2, .inl (X.2 ((i + (2 : Int32))).toNatClampNeg))] [] S2 (zi (fun v4 S3 => zO S3 ∧ (if (mI S3 94 0) = v1 then (if v1 = 0 then (if (lg_cmp (mL S3 125 0) (v4.toInt64)) = 0 then (ma_fp X 0 d w 1461 [(0, .inr (.inr (some 30))), (1, .inr (.inr (some 64))), (2, .inr (.inr (some 94))), (3, .inr (.inr (some 125))), (4, .inl i)] [] S3 Q) else (Q (some (.inl (0 : Int32))) S3)) else (ma_fp X 0 d w 1461 [(0, .inr (.inr (some 30))), (1, .inr (.inr (some 64))), (2, .inr (.inr (some 94))), (3, .inr (.inr (some 125))), (4, .inl i)] [] S3 Q)) else (Q (some (.inl (0 : Int32))) S3))) (fun _ _ => False)))))))))) : ma_fp X 0 d w 377 [(0, .inr (.inr (some 30))), (1, .inr (.inr (some 64))), (2, .inr (.inr (some 94))), (3, .inr (.inr (some 125))), (4, .inl i)] [] S Q := by
  refine zf_push fm_0 dF0_377 (v := .inr (.inr (some 64))) rfl ?_
  refine zf_push fm_0 dF0_378 (v := .inr (.inr (some 30))) rfl ?_
  refine zf_push fm_0 dF0_379 (v := .inl i) rfl ?_
  refine zf_push fm_0 dF0_381 (v := .inl (1 : Int32)) rfl ?_
  refine zf_stk fm_0 dF0_382 (st' := [.inl (i + (1 : Int32)), .inr (.inr (some 30)), .inr (.inr (some 64))]) rfl rfl ?_
  obtain ⟨hg, h⟩ := h
  refine zf_one fm_0 dF0_383 (oo_sc hg) ?_
  refine zf_push fm_0 dF0_384 (v := .inr (.inr (some 30))) rfl ?_
  refine zf_push fm_0 dF0_385 (v := .inl i) rfl ?_
  refine zf_push fm_0 dF0_387 (v := .inl (2 : Int32)) rfl ?_
  refine zf_stk fm_0 dF0_388 (st' := [.inl (i + (2 : Int32)), .inr (.inr (some 30)), .inl (X.2 ((i + (1 : Int32))).toNatClampNeg), .inr (.inr (some 64))]) rfl rfl ?_
  obtain ⟨hg, h⟩ := h
  refine zf_one fm_0 dF0_389 (oo_sc hg) ?_
  refine zf_push fm_0 dF0_390 (v := .inr (.inr (some 125))) rfl ?_
  refine zf_cw fm_0 dF0_391 cw_110 fm_4 [.inr (.inr (some 125)), .inl (X.2 ((i + (2 : Int32))).toNatClampNeg), .inl (X.2 ((i + (1 : Int32))).toNatClampNeg), .inr (.inr (some 64))] [] rfl (by omega) (by omega) rfl (zf_mono h (zfi_go ?_))
  · intro v1 S2 hv
    obtain ⟨hS2, h⟩ := hv
    refine zf_sto fm_0 dF0_394 [(5, .inl v1), (0, .inr (.inr (some 30))), (1, .inr (.inr (some 64))), (2, .inr (.inr (some 94))), (3, .inr (.inr (some 125))), (4, .inl i)] rfl rfl rfl ?_
    refine zf_push fm_0 dF0_396 (v := .inr (.inr (some 94))) rfl ?_
    refine zf_push fm_0 dF0_397 (v := .inr (.inr (some 30))) rfl ?_
    refine zf_push fm_0 dF0_398 (v := .inl i) rfl ?_
    refine zf_push fm_0 dF0_400 (v := .inl (1 : Int32)) rfl ?_
    refine zf_stk fm_0 dF0_401 (st' := [.inl (i + (1 : Int32)), .inr (.inr (some 30)), .inr (.inr (some 94))]) rfl rfl ?_
    obtain ⟨hg, h⟩ := h
    refine zf_one fm_0 dF0_402 (oo_sc hg) ?_
    refine zf_push fm_0 dF0_403 (v := .inr (.inr (some 30))) rfl ?_
    refine zf_push fm_0 dF0_404 (v := .inl i) rfl ?_
    refine zf_push fm_0 dF0_406 (v := .inl (2 : Int32)) rfl ?_
    refine zf_stk fm_0 dF0_407 (st' := [.inl (i + (2 : Int32)), .inr (.inr (some 30)), .inl (X.2 ((i + (1 : Int32))).toNatClampNeg), .inr (.inr (some 94))]) rfl rfl ?_
    obtain ⟨hg, h⟩ := h
    refine zf_one fm_0 dF0_408 (oo_sc hg) ?_
    refine zf_cv fm_0 dF0_409 v_14_112_12 hm_181 [.inl (X.2 ((i + (2 : Int32))).toNatClampNeg), .inl (X.2 ((i + (1 : Int32))).toNatClampNeg)] [] rfl (zO_rt hS2 s_94 rfl) ⟨by omega, by omega⟩ rfl (zw_mono h (zi_go ?_ ?_))
    · intro v4 S3 hv
      obtain ⟨hS3, h⟩ := hv
      refine zf_sto fm_0 dF0_412 [(6, .inl v4), (5, .inl v1), (0, .inr (.inr (some 30))), (1, .inr (.inr (some 64))), (2, .inr (.inr (some 94))), (3, .inr (.inr (some 125))), (4, .inl i)] rfl rfl rfl ?_
      refine zf_push fm_0 dF0_414 (v := .inr (.inr (some 94))) rfl ?_
      refine zf_cv fm_0 dF0_415 v_14_95_12 hm_164 [] [] rfl (zO_rt hS3 s_94 rfl) ⟨by omega, by omega⟩ rfl ?_
      show ma_wp X (d - 1) (w - 20) 164 0 [(0, .inr (.inr (some 94)))] [] S3 _
      refine zw_push hm_164 dX12_thrown_0 (v := .inr (.inr (some 94))) rfl ?_
      refine zw_gf hm_164 dX12_thrown_1 (v := .inl (mI S3 94 0)) (zO_is hS3 s_94) (zO_t hS3 s_94) rfl f_12_1_12 rfl ?_
      refine zw_iret hm_164 dX12_thrown_4 ?_
      show ma_fp X 0 d w 418 [(6, .inl v4), (5, .inl v1), (0, .inr (.inr (some 30))), (1, .inr (.inr (some 64))), (2, .inr (.inr (some 94))), (3, .inr (.inr (some 125))), (4, .inl i)] [.inl (mI S3 94 0)] S3 Q
      refine zf_push fm_0 dF0_418 (v := .inl v1) rfl ?_
      refine zf_if2 fm_0 dF0_420 (t := 425) rfl zc2_eq ?_ ?_
      · intro hc
        rw [if_pos hc] at h
        refine zf_push fm_0 dF0_425 (v := .inl v1) rfl ?_
        refine zf_if0 fm_0 dF0_427 (t := 442) rfl zc0_ne ?_ ?_
        · intro hc
          rw [if_neg hc] at h
          refine zf_goto fm_0 dF0_442 (t := 1461) rfl ?_
          exact zf_sub (ma_nd_of (ks := [0, 1, 2, 3, 4]) rfl (by decide)) (ma_nd_of (ks := [6, 5, 0, 1, 2, 3, 4]) rfl (by decide)) (ma_le_cons rfl (ma_le_cons rfl (ma_le_cons rfl (ma_le_cons rfl (ma_le_cons rfl (ma_le_nil _)))))) h
        · intro hc
          rw [if_pos (Classical.not_not.mp hc)] at h
          refine zf_push fm_0 dF0_430 (v := .inr (.inr (some 125))) rfl ?_
          refine zf_push fm_0 dF0_431 (v := .inl (0 : Int32)) rfl ?_
          refine zf_one fm_0 dF0_432 (oo_la (zO_is hS3 s_125) (zO_h hS3 s_125) (a := 0) rfl ⟨by decide, by decide⟩) ?_
          refine zf_push fm_0 dF0_433 (v := .inl v4) rfl ?_
          refine zf_stk fm_0 dF0_435 (st' := [.inr (.inl (v4.toInt64)), .inr (.inl (mL S3 125 0))]) rfl rfl ?_
          refine zf_stk fm_0 dF0_436 (st' := [.inl (lg_cmp (mL S3 125 0) (v4.toInt64))]) rfl rfl ?_
          refine zf_if0 fm_0 dF0_437 (t := 442) rfl zc0_eq ?_ ?_
          · intro hc
            rw [if_pos hc] at h
            refine zf_goto fm_0 dF0_442 (t := 1461) rfl ?_
            exact zf_sub (ma_nd_of (ks := [0, 1, 2, 3, 4]) rfl (by decide)) (ma_nd_of (ks := [6, 5, 0, 1, 2, 3, 4]) rfl (by decide)) (ma_le_cons rfl (ma_le_cons rfl (ma_le_cons rfl (ma_le_cons rfl (ma_le_cons rfl (ma_le_nil _)))))) h
          · intro hc
            rw [if_neg hc] at h
            refine zf_push fm_0 dF0_440 (v := .inl (0 : Int32)) rfl ?_
            exact zf_bret fm_0 dF0_441 (by decide) h
      · intro hc
        rw [if_neg hc] at h
        refine zf_push fm_0 dF0_423 (v := .inl (0 : Int32)) rfl ?_
        exact zf_bret fm_0 dF0_424 (by decide) h
    · intro x S9 hx
      exact hx.elim
theorem gf_0_445 {X : Nat × (Nat → Int32)} {d w : Nat} {S : ma_S} {Q : Option ma_V → ma_S → Prop} (i : Int32) (hd : 13 ≤ d) (hw : 494 ≤ w) (hS : zO S) (h : (0 ≤ (i + (1 : Int32)) ∧ ((i + (1 : Int32))).toNatClampNeg < X.1) ∧ (if (X.2 ((i + (1 : Int32))).toNatClampNeg) = 0 then ((0 ≤ (i + (2 : Int32)) ∧ ((i + (2 : Int32))).toNatClampNeg < X.1) ∧ ((0 ≤ (i + (3 : Int32)) ∧ ((i + (3 : Int32))).toNatClampNeg < X.1) ∧ (ma_fp X 5 (d - 1) (w - 25) 0 [(0, .inr (.inr (some 64))), (1, .inl (0 : Int32)), (2, .inl (X.2 ((i + (2 : Int32))).toNatClampNeg)), (3, .inl (X.2 ((i + (3 : Int32))).toNatClampNeg)), (4, .inr (.inr (some 125)))] [] S (zfi_ (fun v1 S2 => zO S2 ∧ ((0 ≤ (i + (1 : Int32)) ∧ ((i + (1 : Int32))).toNatClampNeg < X.1) ∧ (if (X.2 ((i + (1 : Int32))).toNatClampNeg) = 0 then ((0 ≤ (i + (2 : Int32)) ∧ ((i + (2 : Int32))).toNatClampNeg < X.1) ∧ ((0 ≤ (i + (3 : Int32)) ∧ ((i + (3 : Int32))).toNatClampNeg < X.1) ∧ (ma_wp X (d - 1) (w - 23) 243 0 [(0, .inr (.inr (some 94))), (1, .inl (0 : Int32)), (2, .inl (X.2 ((i + (2 : Int32))).toNatClampNeg)), (3, .inl (X.2 ((i + (3 : Int32))).toNatClampNeg))] [] S2 (zi (fun v4 S3 => zO S3 ∧ (if (mI S3 94 0) = v1 then (if v1 = 0 then (if (lg_cmp (mL S3 125 0) (v4.toInt64)) = 0 then (ma_fp X 0 d w 1461 [(0, .inr (.inr (some 30))), (1, .inr (.inr (some 64))), (2, .inr (.inr (some 94))), (3, .inr (.inr (some 125))), (4, .inl i)] [] S3 Q) else (Q (some (.inl (0 : Int32))) S3)) else (ma_fp X 0 d w 1461 [(0, .inr (.inr (some 30))), (1, .inr (.inr (some 64))), (2, .inr (.inr (some 94))), (3, .inr (.inr (some 125))), (4, .inl i)] [] S3 Q)) else (Q (some (.inl (0 : Int32))) S3))) (fun _ _ => False))))) else ((0 ≤ (i + (2 : Int32)) ∧ ((i + (2 : Int32))).toNatClampNeg < X.1) ∧ ((0 ≤ (i + (3 : Int32)) ∧ ((i + (3 : Int32))).toNatClampNeg < X.1) ∧ (ma_wp X (d - 1) (w - 23) 243 0 [(0, .inr (.inr (some 94))), (1, .inl (1 : Int32)), (2, .inl (X.2 ((i + (2 : Int32))).toNatClampNeg)), (3, .inl (X.2 ((i + (3 : Int32))).toNatClampNeg))] [] S2 (zi (fun v6 S5 => zO S5 ∧ (if (mI S5 94 0) = v1 then (if v1 = 0 then (if (lg_cmp (mL S5 125 0) (v6.toInt64)) = 0 then (ma_fp X 0 d w 1461 [(0, .inr (.inr (some 30))), (1, .inr (.inr (some 64))), (2, .inr (.inr (some 94))), (3, .inr (.inr (some 125))), (4, .inl i)] [] S5 Q) else (Q (some (.inl (0 : Int32))) S5)) else (ma_fp X 0 d w 1461 [(0, .inr (.inr (some 30))), (1, .inr (.inr (some 64))), (2, .inr (.inr (some 94))), (3, .inr (.inr (some 125))), (4, .inl i)] [] S5 Q)) else (Q (some (.inl (0 : Int32))) S5))) (fun _ _ => False)))))))))))) else ((0 ≤ (i + (2 : Int32)) ∧ ((i + (2 : Int32))).toNatClampNeg < X.1) ∧ ((0 ≤ (i + (3 : Int32)) ∧ ((i + (3 : Int32))).toNatClampNeg < X.1) ∧ (ma_fp X 5 (d - 1) (w - 25) 0 [(0, .inr (.inr (some 64))), (1, .inl (1 : Int32)), (2, .inl (X.2 ((i + (2 : Int32))).toNatClampNeg)), (3, .inl (X.2 ((i + (3 : Int32))).toNatClampNeg)), (4, .inr (.inr (some 125)))] [] S (zfi_ (fun v7 S8 => zO S8 ∧ ((0 ≤ (i + (1 : Int32)) ∧ ((i + (1 : Int32))).toNatClampNeg < X.1) ∧ (if (X.2 ((i + (1 : Int32))).toNatClampNeg) = 0 then ((0 ≤ (i + (2 : Int32)) ∧ ((i + (2 : Int32))).toNatClampNeg < X.1) ∧ ((0 ≤ (i + (3 : Int32)) ∧ ((i + (3 : Int32))).toNatClampNeg < X.1) ∧ (ma_wp X (d - 1) (w - 23) 243 0 [(0, .inr (.inr (some 94))), (1, .inl (0 : Int32)), (2, .inl (X.2 ((i + (2 : Int32))).toNatClampNeg)), (3, .inl (X.2 ((i + (3 : Int32))).toNatClampNeg))] [] S8 (zi (fun v10 S9 => zO S9 ∧ (if (mI S9 94 0) = v7 then (if v7 = 0 then (if (lg_cmp (mL S9 125 0) (v10.toInt64)) = 0 then (ma_fp X 0 d w 1461 [(0, .inr (.inr (some 30))), (1, .inr (.inr (some 64))), (2, .inr (.inr (some 94))), (3, .inr (.inr (some 125))), (4, .inl i)] [] S9 Q) else (Q (some (.inl (0 : Int32))) S9)) else (ma_fp X 0 d w 1461 [(0, .inr (.inr (some 30))), (1, .inr (.inr (some 64))), (2, .inr (.inr (some 94))), (3, .inr (.inr (some 125))), (4, .inl i)] [] S9 Q)) else (Q (some (.inl (0 : Int32))) S9))) (fun _ _ => False))))) else ((0 ≤ (i + (2 : Int32)) ∧ ((i + (2 : Int32))).toNatClampNeg < X.1) ∧ ((0 ≤ (i + (3 : Int32)) ∧ ((i + (3 : Int32))).toNatClampNeg < X.1) ∧ (ma_wp X (d - 1) (w - 23) 243 0 [(0, .inr (.inr (some 94))), (1, .inl (1 : Int32)), (2, .inl (X.2 ((i + (2 : Int32))).toNatClampNeg)), (3, .inl (X.2 ((i + (3 : Int32))).toNatClampNeg))] [] S8 (zi (fun v12 S11 => zO S11 ∧ (if (mI S11 94 0) = v7 then (if v7 = 0 then (if (lg_cmp (mL S11 125 0) (v12.toInt64)) = 0 then (ma_fp X 0 d w 1461 [(0, .inr (.inr (some 30))), (1, .inr (.inr (some 64))), (2, .inr (.inr (some 94))), (3, .inr (.inr (some 125))), (4, .inl i)] [] S11 Q) else (Q (some (.inl (0 : Int32))) S11)) else (ma_fp X 0 d w 1461 [(0, .inr (.inr (some 30))), (1, .inr (.inr (some 64))), (2, .inr (.inr (some 94))), (3, .inr (.inr (some 125))), (4, .inl i)] [] S11 Q)) else (Q (some (.inl (0 : Int32))) S11))) (fun _ _ => False)))))))))))))) : ma_fp X 0 d w 445 [(0, .inr (.inr (some 30))), (1, .inr (.inr (some 64))), (2, .inr (.inr (some 94))), (3, .inr (.inr (some 125))), (4, .inl i)] [] S Q := by
  refine zf_push fm_0 dF0_445 (v := .inr (.inr (some 64))) rfl ?_
  refine zf_push fm_0 dF0_446 (v := .inr (.inr (some 30))) rfl ?_
  refine zf_push fm_0 dF0_447 (v := .inl i) rfl ?_
  refine zf_push fm_0 dF0_449 (v := .inl (1 : Int32)) rfl ?_
  refine zf_stk fm_0 dF0_450 (st' := [.inl (i + (1 : Int32)), .inr (.inr (some 30)), .inr (.inr (some 64))]) rfl rfl ?_
  obtain ⟨hg, h⟩ := h
  refine zf_one fm_0 dF0_451 (oo_sc hg) ?_
  refine zf_if0 fm_0 dF0_452 (t := 459) rfl zc0_eq ?_ ?_
  · intro hc
    rw [if_pos hc] at h
    refine zf_push fm_0 dF0_459 (v := .inl (0 : Int32)) rfl ?_
    refine zf_push fm_0 dF0_460 (v := .inr (.inr (some 30))) rfl ?_
    refine zf_push fm_0 dF0_461 (v := .inl i) rfl ?_
    refine zf_push fm_0 dF0_463 (v := .inl (2 : Int32)) rfl ?_
    refine zf_stk fm_0 dF0_464 (st' := [.inl (i + (2 : Int32)), .inr (.inr (some 30)), .inl (0 : Int32), .inr (.inr (some 64))]) rfl rfl ?_
    obtain ⟨hg, h⟩ := h
    refine zf_one fm_0 dF0_465 (oo_sc hg) ?_
    refine zf_push fm_0 dF0_466 (v := .inr (.inr (some 30))) rfl ?_
    refine zf_push fm_0 dF0_467 (v := .inl i) rfl ?_
    refine zf_push fm_0 dF0_469 (v := .inl (3 : Int32)) rfl ?_
    refine zf_stk fm_0 dF0_470 (st' := [.inl (i + (3 : Int32)), .inr (.inr (some 30)), .inl (X.2 ((i + (2 : Int32))).toNatClampNeg), .inl (0 : Int32), .inr (.inr (some 64))]) rfl rfl ?_
    obtain ⟨hg, h⟩ := h
    refine zf_one fm_0 dF0_471 (oo_sc hg) ?_
    refine zf_push fm_0 dF0_472 (v := .inr (.inr (some 125))) rfl ?_
    refine zf_cw fm_0 dF0_473 cw_113 fm_5 [.inr (.inr (some 125)), .inl (X.2 ((i + (3 : Int32))).toNatClampNeg), .inl (X.2 ((i + (2 : Int32))).toNatClampNeg), .inl (0 : Int32), .inr (.inr (some 64))] [] rfl (by omega) (by omega) rfl (zf_mono h (zfi_go ?_))
    · intro v1 S2 hv
      obtain ⟨hS2, h⟩ := hv
      refine zf_sto fm_0 dF0_476 [(5, .inl v1), (0, .inr (.inr (some 30))), (1, .inr (.inr (some 64))), (2, .inr (.inr (some 94))), (3, .inr (.inr (some 125))), (4, .inl i)] rfl rfl rfl ?_
      refine zf_push fm_0 dF0_478 (v := .inr (.inr (some 94))) rfl ?_
      refine zf_push fm_0 dF0_479 (v := .inr (.inr (some 30))) rfl ?_
      refine zf_push fm_0 dF0_480 (v := .inl i) rfl ?_
      refine zf_push fm_0 dF0_482 (v := .inl (1 : Int32)) rfl ?_
      refine zf_stk fm_0 dF0_483 (st' := [.inl (i + (1 : Int32)), .inr (.inr (some 30)), .inr (.inr (some 94))]) rfl rfl ?_
      obtain ⟨hg, h⟩ := h
      refine zf_one fm_0 dF0_484 (oo_sc hg) ?_
      refine zf_if0 fm_0 dF0_485 (t := 492) rfl zc0_eq ?_ ?_
      · intro hc
        rw [if_pos hc] at h
        refine zf_push fm_0 dF0_492 (v := .inl (0 : Int32)) rfl ?_
        refine zf_push fm_0 dF0_493 (v := .inr (.inr (some 30))) rfl ?_
        refine zf_push fm_0 dF0_494 (v := .inl i) rfl ?_
        refine zf_push fm_0 dF0_496 (v := .inl (2 : Int32)) rfl ?_
        refine zf_stk fm_0 dF0_497 (st' := [.inl (i + (2 : Int32)), .inr (.inr (some 30)), .inl (0 : Int32), .inr (.inr (some 94))]) rfl rfl ?_
        obtain ⟨hg, h⟩ := h
        refine zf_one fm_0 dF0_498 (oo_sc hg) ?_
        refine zf_push fm_0 dF0_499 (v := .inr (.inr (some 30))) rfl ?_
        refine zf_push fm_0 dF0_500 (v := .inl i) rfl ?_
        refine zf_push fm_0 dF0_502 (v := .inl (3 : Int32)) rfl ?_
        refine zf_stk fm_0 dF0_503 (st' := [.inl (i + (3 : Int32)), .inr (.inr (some 30)), .inl (X.2 ((i + (2 : Int32))).toNatClampNeg), .inl (0 : Int32), .inr (.inr (some 94))]) rfl rfl ?_
        obtain ⟨hg, h⟩ := h
        refine zf_one fm_0 dF0_504 (oo_sc hg) ?_
        refine zf_cv fm_0 dF0_505 v_14_116_12 hm_243 [.inl (X.2 ((i + (3 : Int32))).toNatClampNeg), .inl (X.2 ((i + (2 : Int32))).toNatClampNeg), .inl (0 : Int32)] [] rfl (zO_rt hS2 s_94 rfl) ⟨by omega, by omega⟩ rfl (zw_mono h (zi_go ?_ ?_))
        · intro v4 S3 hv
          obtain ⟨hS3, h⟩ := hv
          refine zf_sto fm_0 dF0_508 [(6, .inl v4), (5, .inl v1), (0, .inr (.inr (some 30))), (1, .inr (.inr (some 64))), (2, .inr (.inr (some 94))), (3, .inr (.inr (some 125))), (4, .inl i)] rfl rfl rfl ?_
          refine zf_push fm_0 dF0_510 (v := .inr (.inr (some 94))) rfl ?_
          refine zf_cv fm_0 dF0_511 v_14_95_12 hm_164 [] [] rfl (zO_rt hS3 s_94 rfl) ⟨by omega, by omega⟩ rfl ?_
          show ma_wp X (d - 1) (w - 20) 164 0 [(0, .inr (.inr (some 94)))] [] S3 _
          refine zw_push hm_164 dX12_thrown_0 (v := .inr (.inr (some 94))) rfl ?_
          refine zw_gf hm_164 dX12_thrown_1 (v := .inl (mI S3 94 0)) (zO_is hS3 s_94) (zO_t hS3 s_94) rfl f_12_1_12 rfl ?_
          refine zw_iret hm_164 dX12_thrown_4 ?_
          show ma_fp X 0 d w 514 [(6, .inl v4), (5, .inl v1), (0, .inr (.inr (some 30))), (1, .inr (.inr (some 64))), (2, .inr (.inr (some 94))), (3, .inr (.inr (some 125))), (4, .inl i)] [.inl (mI S3 94 0)] S3 Q
          refine zf_push fm_0 dF0_514 (v := .inl v1) rfl ?_
          refine zf_if2 fm_0 dF0_516 (t := 521) rfl zc2_eq ?_ ?_
          · intro hc
            rw [if_pos hc] at h
            refine zf_push fm_0 dF0_521 (v := .inl v1) rfl ?_
            refine zf_if0 fm_0 dF0_523 (t := 538) rfl zc0_ne ?_ ?_
            · intro hc
              rw [if_neg hc] at h
              refine zf_goto fm_0 dF0_538 (t := 1461) rfl ?_
              exact zf_sub (ma_nd_of (ks := [0, 1, 2, 3, 4]) rfl (by decide)) (ma_nd_of (ks := [6, 5, 0, 1, 2, 3, 4]) rfl (by decide)) (ma_le_cons rfl (ma_le_cons rfl (ma_le_cons rfl (ma_le_cons rfl (ma_le_cons rfl (ma_le_nil _)))))) h
            · intro hc
              rw [if_pos (Classical.not_not.mp hc)] at h
              refine zf_push fm_0 dF0_526 (v := .inr (.inr (some 125))) rfl ?_
              refine zf_push fm_0 dF0_527 (v := .inl (0 : Int32)) rfl ?_
              refine zf_one fm_0 dF0_528 (oo_la (zO_is hS3 s_125) (zO_h hS3 s_125) (a := 0) rfl ⟨by decide, by decide⟩) ?_
              refine zf_push fm_0 dF0_529 (v := .inl v4) rfl ?_
              refine zf_stk fm_0 dF0_531 (st' := [.inr (.inl (v4.toInt64)), .inr (.inl (mL S3 125 0))]) rfl rfl ?_
              refine zf_stk fm_0 dF0_532 (st' := [.inl (lg_cmp (mL S3 125 0) (v4.toInt64))]) rfl rfl ?_
              refine zf_if0 fm_0 dF0_533 (t := 538) rfl zc0_eq ?_ ?_
              · intro hc
                rw [if_pos hc] at h
                refine zf_goto fm_0 dF0_538 (t := 1461) rfl ?_
                exact zf_sub (ma_nd_of (ks := [0, 1, 2, 3, 4]) rfl (by decide)) (ma_nd_of (ks := [6, 5, 0, 1, 2, 3, 4]) rfl (by decide)) (ma_le_cons rfl (ma_le_cons rfl (ma_le_cons rfl (ma_le_cons rfl (ma_le_cons rfl (ma_le_nil _)))))) h
              · intro hc
                rw [if_neg hc] at h
                refine zf_push fm_0 dF0_536 (v := .inl (0 : Int32)) rfl ?_
                exact zf_bret fm_0 dF0_537 (by decide) h
          · intro hc
            rw [if_neg hc] at h
            refine zf_push fm_0 dF0_519 (v := .inl (0 : Int32)) rfl ?_
            exact zf_bret fm_0 dF0_520 (by decide) h
        · intro x S9 hx
          exact hx.elim
      · intro hc
        rw [if_neg hc] at h
        refine zf_push fm_0 dF0_488 (v := .inl (1 : Int32)) rfl ?_
        refine zf_goto fm_0 dF0_489 (t := 493) rfl ?_
        refine zf_push fm_0 dF0_493 (v := .inr (.inr (some 30))) rfl ?_
        refine zf_push fm_0 dF0_494 (v := .inl i) rfl ?_
        refine zf_push fm_0 dF0_496 (v := .inl (2 : Int32)) rfl ?_
        refine zf_stk fm_0 dF0_497 (st' := [.inl (i + (2 : Int32)), .inr (.inr (some 30)), .inl (1 : Int32), .inr (.inr (some 94))]) rfl rfl ?_
        obtain ⟨hg, h⟩ := h
        refine zf_one fm_0 dF0_498 (oo_sc hg) ?_
        refine zf_push fm_0 dF0_499 (v := .inr (.inr (some 30))) rfl ?_
        refine zf_push fm_0 dF0_500 (v := .inl i) rfl ?_
        refine zf_push fm_0 dF0_502 (v := .inl (3 : Int32)) rfl ?_
        refine zf_stk fm_0 dF0_503 (st' := [.inl (i + (3 : Int32)), .inr (.inr (some 30)), .inl (X.2 ((i + (2 : Int32))).toNatClampNeg), .inl (1 : Int32), .inr (.inr (some 94))]) rfl rfl ?_
        obtain ⟨hg, h⟩ := h
        refine zf_one fm_0 dF0_504 (oo_sc hg) ?_
        refine zf_cv fm_0 dF0_505 v_14_116_12 hm_243 [.inl (X.2 ((i + (3 : Int32))).toNatClampNeg), .inl (X.2 ((i + (2 : Int32))).toNatClampNeg), .inl (1 : Int32)] [] rfl (zO_rt hS2 s_94 rfl) ⟨by omega, by omega⟩ rfl (zw_mono h (zi_go ?_ ?_))
        · intro v6 S5 hv
          obtain ⟨hS5, h⟩ := hv
          refine zf_sto fm_0 dF0_508 [(6, .inl v6), (5, .inl v1), (0, .inr (.inr (some 30))), (1, .inr (.inr (some 64))), (2, .inr (.inr (some 94))), (3, .inr (.inr (some 125))), (4, .inl i)] rfl rfl rfl ?_
          refine zf_push fm_0 dF0_510 (v := .inr (.inr (some 94))) rfl ?_
          refine zf_cv fm_0 dF0_511 v_14_95_12 hm_164 [] [] rfl (zO_rt hS5 s_94 rfl) ⟨by omega, by omega⟩ rfl ?_
          show ma_wp X (d - 1) (w - 20) 164 0 [(0, .inr (.inr (some 94)))] [] S5 _
          refine zw_push hm_164 dX12_thrown_0 (v := .inr (.inr (some 94))) rfl ?_
          refine zw_gf hm_164 dX12_thrown_1 (v := .inl (mI S5 94 0)) (zO_is hS5 s_94) (zO_t hS5 s_94) rfl f_12_1_12 rfl ?_
          refine zw_iret hm_164 dX12_thrown_4 ?_
          show ma_fp X 0 d w 514 [(6, .inl v6), (5, .inl v1), (0, .inr (.inr (some 30))), (1, .inr (.inr (some 64))), (2, .inr (.inr (some 94))), (3, .inr (.inr (some 125))), (4, .inl i)] [.inl (mI S5 94 0)] S5 Q
          refine zf_push fm_0 dF0_514 (v := .inl v1) rfl ?_
          refine zf_if2 fm_0 dF0_516 (t := 521) rfl zc2_eq ?_ ?_
          · intro hc
            rw [if_pos hc] at h
            refine zf_push fm_0 dF0_521 (v := .inl v1) rfl ?_
            refine zf_if0 fm_0 dF0_523 (t := 538) rfl zc0_ne ?_ ?_
            · intro hc
              rw [if_neg hc] at h
              refine zf_goto fm_0 dF0_538 (t := 1461) rfl ?_
              exact zf_sub (ma_nd_of (ks := [0, 1, 2, 3, 4]) rfl (by decide)) (ma_nd_of (ks := [6, 5, 0, 1, 2, 3, 4]) rfl (by decide)) (ma_le_cons rfl (ma_le_cons rfl (ma_le_cons rfl (ma_le_cons rfl (ma_le_cons rfl (ma_le_nil _)))))) h
            · intro hc
              rw [if_pos (Classical.not_not.mp hc)] at h
              refine zf_push fm_0 dF0_526 (v := .inr (.inr (some 125))) rfl ?_
              refine zf_push fm_0 dF0_527 (v := .inl (0 : Int32)) rfl ?_
              refine zf_one fm_0 dF0_528 (oo_la (zO_is hS5 s_125) (zO_h hS5 s_125) (a := 0) rfl ⟨by decide, by decide⟩) ?_
              refine zf_push fm_0 dF0_529 (v := .inl v6) rfl ?_
              refine zf_stk fm_0 dF0_531 (st' := [.inr (.inl (v6.toInt64)), .inr (.inl (mL S5 125 0))]) rfl rfl ?_
              refine zf_stk fm_0 dF0_532 (st' := [.inl (lg_cmp (mL S5 125 0) (v6.toInt64))]) rfl rfl ?_
              refine zf_if0 fm_0 dF0_533 (t := 538) rfl zc0_eq ?_ ?_
              · intro hc
                rw [if_pos hc] at h
                refine zf_goto fm_0 dF0_538 (t := 1461) rfl ?_
                exact zf_sub (ma_nd_of (ks := [0, 1, 2, 3, 4]) rfl (by decide)) (ma_nd_of (ks := [6, 5, 0, 1, 2, 3, 4]) rfl (by decide)) (ma_le_cons rfl (ma_le_cons rfl (ma_le_cons rfl (ma_le_cons rfl (ma_le_cons rfl (ma_le_nil _)))))) h
              · intro hc
                rw [if_neg hc] at h
                refine zf_push fm_0 dF0_536 (v := .inl (0 : Int32)) rfl ?_
                exact zf_bret fm_0 dF0_537 (by decide) h
          · intro hc
            rw [if_neg hc] at h
            refine zf_push fm_0 dF0_519 (v := .inl (0 : Int32)) rfl ?_
            exact zf_bret fm_0 dF0_520 (by decide) h
        · intro x S9 hx
          exact hx.elim
  · intro hc
    rw [if_neg hc] at h
    refine zf_push fm_0 dF0_455 (v := .inl (1 : Int32)) rfl ?_
    refine zf_goto fm_0 dF0_456 (t := 460) rfl ?_
    refine zf_push fm_0 dF0_460 (v := .inr (.inr (some 30))) rfl ?_
    refine zf_push fm_0 dF0_461 (v := .inl i) rfl ?_
    refine zf_push fm_0 dF0_463 (v := .inl (2 : Int32)) rfl ?_
    refine zf_stk fm_0 dF0_464 (st' := [.inl (i + (2 : Int32)), .inr (.inr (some 30)), .inl (1 : Int32), .inr (.inr (some 64))]) rfl rfl ?_
    obtain ⟨hg, h⟩ := h
    refine zf_one fm_0 dF0_465 (oo_sc hg) ?_
    refine zf_push fm_0 dF0_466 (v := .inr (.inr (some 30))) rfl ?_
    refine zf_push fm_0 dF0_467 (v := .inl i) rfl ?_
    refine zf_push fm_0 dF0_469 (v := .inl (3 : Int32)) rfl ?_
    refine zf_stk fm_0 dF0_470 (st' := [.inl (i + (3 : Int32)), .inr (.inr (some 30)), .inl (X.2 ((i + (2 : Int32))).toNatClampNeg), .inl (1 : Int32), .inr (.inr (some 64))]) rfl rfl ?_
    obtain ⟨hg, h⟩ := h
    refine zf_one fm_0 dF0_471 (oo_sc hg) ?_
    refine zf_push fm_0 dF0_472 (v := .inr (.inr (some 125))) rfl ?_
    refine zf_cw fm_0 dF0_473 cw_113 fm_5 [.inr (.inr (some 125)), .inl (X.2 ((i + (3 : Int32))).toNatClampNeg), .inl (X.2 ((i + (2 : Int32))).toNatClampNeg), .inl (1 : Int32), .inr (.inr (some 64))] [] rfl (by omega) (by omega) rfl (zf_mono h (zfi_go ?_))
    · intro v7 S8 hv
      obtain ⟨hS8, h⟩ := hv
      refine zf_sto fm_0 dF0_476 [(5, .inl v7), (0, .inr (.inr (some 30))), (1, .inr (.inr (some 64))), (2, .inr (.inr (some 94))), (3, .inr (.inr (some 125))), (4, .inl i)] rfl rfl rfl ?_
      refine zf_push fm_0 dF0_478 (v := .inr (.inr (some 94))) rfl ?_
      refine zf_push fm_0 dF0_479 (v := .inr (.inr (some 30))) rfl ?_
      refine zf_push fm_0 dF0_480 (v := .inl i) rfl ?_
      refine zf_push fm_0 dF0_482 (v := .inl (1 : Int32)) rfl ?_
      refine zf_stk fm_0 dF0_483 (st' := [.inl (i + (1 : Int32)), .inr (.inr (some 30)), .inr (.inr (some 94))]) rfl rfl ?_
      obtain ⟨hg, h⟩ := h
      refine zf_one fm_0 dF0_484 (oo_sc hg) ?_
      refine zf_if0 fm_0 dF0_485 (t := 492) rfl zc0_eq ?_ ?_
      · intro hc
        rw [if_pos hc] at h
        refine zf_push fm_0 dF0_492 (v := .inl (0 : Int32)) rfl ?_
        refine zf_push fm_0 dF0_493 (v := .inr (.inr (some 30))) rfl ?_
        refine zf_push fm_0 dF0_494 (v := .inl i) rfl ?_
        refine zf_push fm_0 dF0_496 (v := .inl (2 : Int32)) rfl ?_
        refine zf_stk fm_0 dF0_497 (st' := [.inl (i + (2 : Int32)), .inr (.inr (some 30)), .inl (0 : Int32), .inr (.inr (some 94))]) rfl rfl ?_
        obtain ⟨hg, h⟩ := h
        refine zf_one fm_0 dF0_498 (oo_sc hg) ?_
        refine zf_push fm_0 dF0_499 (v := .inr (.inr (some 30))) rfl ?_
        refine zf_push fm_0 dF0_500 (v := .inl i) rfl ?_
        refine zf_push fm_0 dF0_502 (v := .inl (3 : Int32)) rfl ?_
        refine zf_stk fm_0 dF0_503 (st' := [.inl (i + (3 : Int32)), .inr (.inr (some 30)), .inl (X.2 ((i + (2 : Int32))).toNatClampNeg), .inl (0 : Int32), .inr (.inr (some 94))]) rfl rfl ?_
        obtain ⟨hg, h⟩ := h
        refine zf_one fm_0 dF0_504 (oo_sc hg) ?_
        refine zf_cv fm_0 dF0_505 v_14_116_12 hm_243 [.inl (X.2 ((i + (3 : Int32))).toNatClampNeg), .inl (X.2 ((i + (2 : Int32))).toNatClampNeg), .inl (0 : Int32)] [] rfl (zO_rt hS8 s_94 rfl) ⟨by omega, by omega⟩ rfl (zw_mono h (zi_go ?_ ?_))
        · intro v10 S9 hv
          obtain ⟨hS9, h⟩ := hv
          refine zf_sto fm_0 dF0_508 [(6, .inl v10), (5, .inl v7), (0, .inr (.inr (some 30))), (1, .inr (.inr (some 64))), (2, .inr (.inr (some 94))), (3, .inr (.inr (some 125))), (4, .inl i)] rfl rfl rfl ?_
          refine zf_push fm_0 dF0_510 (v := .inr (.inr (some 94))) rfl ?_
          refine zf_cv fm_0 dF0_511 v_14_95_12 hm_164 [] [] rfl (zO_rt hS9 s_94 rfl) ⟨by omega, by omega⟩ rfl ?_
          show ma_wp X (d - 1) (w - 20) 164 0 [(0, .inr (.inr (some 94)))] [] S9 _
          refine zw_push hm_164 dX12_thrown_0 (v := .inr (.inr (some 94))) rfl ?_
          refine zw_gf hm_164 dX12_thrown_1 (v := .inl (mI S9 94 0)) (zO_is hS9 s_94) (zO_t hS9 s_94) rfl f_12_1_12 rfl ?_
          refine zw_iret hm_164 dX12_thrown_4 ?_
          show ma_fp X 0 d w 514 [(6, .inl v10), (5, .inl v7), (0, .inr (.inr (some 30))), (1, .inr (.inr (some 64))), (2, .inr (.inr (some 94))), (3, .inr (.inr (some 125))), (4, .inl i)] [.inl (mI S9 94 0)] S9 Q
          refine zf_push fm_0 dF0_514 (v := .inl v7) rfl ?_
          refine zf_if2 fm_0 dF0_516 (t := 521) rfl zc2_eq ?_ ?_
          · intro hc
            rw [if_pos hc] at h
            refine zf_push fm_0 dF0_521 (v := .inl v7) rfl ?_
            refine zf_if0 fm_0 dF0_523 (t := 538) rfl zc0_ne ?_ ?_
            · intro hc
              rw [if_neg hc] at h
              refine zf_goto fm_0 dF0_538 (t := 1461) rfl ?_
              exact zf_sub (ma_nd_of (ks := [0, 1, 2, 3, 4]) rfl (by decide)) (ma_nd_of (ks := [6, 5, 0, 1, 2, 3, 4]) rfl (by decide)) (ma_le_cons rfl (ma_le_cons rfl (ma_le_cons rfl (ma_le_cons rfl (ma_le_cons rfl (ma_le_nil _)))))) h
            · intro hc
              rw [if_pos (Classical.not_not.mp hc)] at h
              refine zf_push fm_0 dF0_526 (v := .inr (.inr (some 125))) rfl ?_
              refine zf_push fm_0 dF0_527 (v := .inl (0 : Int32)) rfl ?_
              refine zf_one fm_0 dF0_528 (oo_la (zO_is hS9 s_125) (zO_h hS9 s_125) (a := 0) rfl ⟨by decide, by decide⟩) ?_
              refine zf_push fm_0 dF0_529 (v := .inl v10) rfl ?_
              refine zf_stk fm_0 dF0_531 (st' := [.inr (.inl (v10.toInt64)), .inr (.inl (mL S9 125 0))]) rfl rfl ?_
              refine zf_stk fm_0 dF0_532 (st' := [.inl (lg_cmp (mL S9 125 0) (v10.toInt64))]) rfl rfl ?_
              refine zf_if0 fm_0 dF0_533 (t := 538) rfl zc0_eq ?_ ?_
              · intro hc
                rw [if_pos hc] at h
                refine zf_goto fm_0 dF0_538 (t := 1461) rfl ?_
                exact zf_sub (ma_nd_of (ks := [0, 1, 2, 3, 4]) rfl (by decide)) (ma_nd_of (ks := [6, 5, 0, 1, 2, 3, 4]) rfl (by decide)) (ma_le_cons rfl (ma_le_cons rfl (ma_le_cons rfl (ma_le_cons rfl (ma_le_cons rfl (ma_le_nil _)))))) h
              · intro hc
                rw [if_neg hc] at h
                refine zf_push fm_0 dF0_536 (v := .inl (0 : Int32)) rfl ?_
                exact zf_bret fm_0 dF0_537 (by decide) h
          · intro hc
            rw [if_neg hc] at h
            refine zf_push fm_0 dF0_519 (v := .inl (0 : Int32)) rfl ?_
            exact zf_bret fm_0 dF0_520 (by decide) h
        · intro x S9 hx
          exact hx.elim
      · intro hc
        rw [if_neg hc] at h
        refine zf_push fm_0 dF0_488 (v := .inl (1 : Int32)) rfl ?_
        refine zf_goto fm_0 dF0_489 (t := 493) rfl ?_
        refine zf_push fm_0 dF0_493 (v := .inr (.inr (some 30))) rfl ?_
        refine zf_push fm_0 dF0_494 (v := .inl i) rfl ?_
        refine zf_push fm_0 dF0_496 (v := .inl (2 : Int32)) rfl ?_
        refine zf_stk fm_0 dF0_497 (st' := [.inl (i + (2 : Int32)), .inr (.inr (some 30)), .inl (1 : Int32), .inr (.inr (some 94))]) rfl rfl ?_
        obtain ⟨hg, h⟩ := h
        refine zf_one fm_0 dF0_498 (oo_sc hg) ?_
        refine zf_push fm_0 dF0_499 (v := .inr (.inr (some 30))) rfl ?_
        refine zf_push fm_0 dF0_500 (v := .inl i) rfl ?_
        refine zf_push fm_0 dF0_502 (v := .inl (3 : Int32)) rfl ?_
        refine zf_stk fm_0 dF0_503 (st' := [.inl (i + (3 : Int32)), .inr (.inr (some 30)), .inl (X.2 ((i + (2 : Int32))).toNatClampNeg), .inl (1 : Int32), .inr (.inr (some 94))]) rfl rfl ?_
        obtain ⟨hg, h⟩ := h
        refine zf_one fm_0 dF0_504 (oo_sc hg) ?_
        refine zf_cv fm_0 dF0_505 v_14_116_12 hm_243 [.inl (X.2 ((i + (3 : Int32))).toNatClampNeg), .inl (X.2 ((i + (2 : Int32))).toNatClampNeg), .inl (1 : Int32)] [] rfl (zO_rt hS8 s_94 rfl) ⟨by omega, by omega⟩ rfl (zw_mono h (zi_go ?_ ?_))
        · intro v12 S11 hv
          obtain ⟨hS11, h⟩ := hv
          refine zf_sto fm_0 dF0_508 [(6, .inl v12), (5, .inl v7), (0, .inr (.inr (some 30))), (1, .inr (.inr (some 64))), (2, .inr (.inr (some 94))), (3, .inr (.inr (some 125))), (4, .inl i)] rfl rfl rfl ?_
          refine zf_push fm_0 dF0_510 (v := .inr (.inr (some 94))) rfl ?_
          refine zf_cv fm_0 dF0_511 v_14_95_12 hm_164 [] [] rfl (zO_rt hS11 s_94 rfl) ⟨by omega, by omega⟩ rfl ?_
          show ma_wp X (d - 1) (w - 20) 164 0 [(0, .inr (.inr (some 94)))] [] S11 _
          refine zw_push hm_164 dX12_thrown_0 (v := .inr (.inr (some 94))) rfl ?_
          refine zw_gf hm_164 dX12_thrown_1 (v := .inl (mI S11 94 0)) (zO_is hS11 s_94) (zO_t hS11 s_94) rfl f_12_1_12 rfl ?_
          refine zw_iret hm_164 dX12_thrown_4 ?_
          show ma_fp X 0 d w 514 [(6, .inl v12), (5, .inl v7), (0, .inr (.inr (some 30))), (1, .inr (.inr (some 64))), (2, .inr (.inr (some 94))), (3, .inr (.inr (some 125))), (4, .inl i)] [.inl (mI S11 94 0)] S11 Q
          refine zf_push fm_0 dF0_514 (v := .inl v7) rfl ?_
          refine zf_if2 fm_0 dF0_516 (t := 521) rfl zc2_eq ?_ ?_
          · intro hc
            rw [if_pos hc] at h
            refine zf_push fm_0 dF0_521 (v := .inl v7) rfl ?_
            refine zf_if0 fm_0 dF0_523 (t := 538) rfl zc0_ne ?_ ?_
            · intro hc
              rw [if_neg hc] at h
              refine zf_goto fm_0 dF0_538 (t := 1461) rfl ?_
              exact zf_sub (ma_nd_of (ks := [0, 1, 2, 3, 4]) rfl (by decide)) (ma_nd_of (ks := [6, 5, 0, 1, 2, 3, 4]) rfl (by decide)) (ma_le_cons rfl (ma_le_cons rfl (ma_le_cons rfl (ma_le_cons rfl (ma_le_cons rfl (ma_le_nil _)))))) h
            · intro hc
              rw [if_pos (Classical.not_not.mp hc)] at h
              refine zf_push fm_0 dF0_526 (v := .inr (.inr (some 125))) rfl ?_
              refine zf_push fm_0 dF0_527 (v := .inl (0 : Int32)) rfl ?_
              refine zf_one fm_0 dF0_528 (oo_la (zO_is hS11 s_125) (zO_h hS11 s_125) (a := 0) rfl ⟨by decide, by decide⟩) ?_
              refine zf_push fm_0 dF0_529 (v := .inl v12) rfl ?_
              refine zf_stk fm_0 dF0_531 (st' := [.inr (.inl (v12.toInt64)), .inr (.inl (mL S11 125 0))]) rfl rfl ?_
              refine zf_stk fm_0 dF0_532 (st' := [.inl (lg_cmp (mL S11 125 0) (v12.toInt64))]) rfl rfl ?_
              refine zf_if0 fm_0 dF0_533 (t := 538) rfl zc0_eq ?_ ?_
              · intro hc
                rw [if_pos hc] at h
                refine zf_goto fm_0 dF0_538 (t := 1461) rfl ?_
                exact zf_sub (ma_nd_of (ks := [0, 1, 2, 3, 4]) rfl (by decide)) (ma_nd_of (ks := [6, 5, 0, 1, 2, 3, 4]) rfl (by decide)) (ma_le_cons rfl (ma_le_cons rfl (ma_le_cons rfl (ma_le_cons rfl (ma_le_cons rfl (ma_le_nil _)))))) h
              · intro hc
                rw [if_neg hc] at h
                refine zf_push fm_0 dF0_536 (v := .inl (0 : Int32)) rfl ?_
                exact zf_bret fm_0 dF0_537 (by decide) h
          · intro hc
            rw [if_neg hc] at h
            refine zf_push fm_0 dF0_519 (v := .inl (0 : Int32)) rfl ?_
            exact zf_bret fm_0 dF0_520 (by decide) h
        · intro x S9 hx
          exact hx.elim
theorem gf_0_541 {X : Nat × (Nat → Int32)} {d w : Nat} {S : ma_S} {Q : Option ma_V → ma_S → Prop} (i : Int32) (hd : 13 ≤ d) (hw : 494 ≤ w) (hS : zO S) (h : (0 ≤ (i + (1 : Int32)) ∧ ((i + (1 : Int32))).toNatClampNeg < X.1) ∧ ((0 ≤ (i + (2 : Int32)) ∧ ((i + (2 : Int32))).toNatClampNeg < X.1) ∧ ((0 ≤ (i + (3 : Int32)) ∧ ((i + (3 : Int32))).toNatClampNeg < X.1) ∧ (ma_fp X 6 (d - 1) (w - 25) 0 [(0, .inr (.inr (some 64))), (1, .inl (X.2 ((i + (1 : Int32))).toNatClampNeg)), (2, .inl (X.2 ((i + (2 : Int32))).toNatClampNeg)), (3, .inl (X.2 ((i + (3 : Int32))).toNatClampNeg)), (4, .inr (.inr (some 125)))] [] S (zfi_ (fun v1 S2 => zO S2 ∧ ((0 ≤ (i + (1 : Int32)) ∧ ((i + (1 : Int32))).toNatClampNeg < X.1) ∧ ((0 ≤ (i + (2 : Int32)) ∧ ((i + (2 : Int32))).toNatClampNeg < X.1) ∧ ((0 ≤ (i + (3 : Int32)) ∧ ((i + (3 : Int32))).toNatClampNeg < X.1) ∧ (ma_wp X (d - 1) (w - 25) 244 0 [(0, .inr (.inr (some 94))), (1, .inl (X.2 ((i + (1 : Int32))).toNatClampNeg)), (2, .inl (X.2 ((i + (2 : Int32))).toNatClampNeg)), (3, .inl (X.2 ((i + (3 : Int32))).toNatClampNeg))] [] S2 (zi (fun v4 S3 => zO S3 ∧ (if (mI S3 94 0) = v1 then (if v1 = 0 then (if (lg_cmp (mL S3 125 0) (v4.toInt64)) = 0 then (ma_fp X 0 d w 1461 [(0, .inr (.inr (some 30))), (1, .inr (.inr (some 64))), (2, .inr (.inr (some 94))), (3, .inr (.inr (some 125))), (4, .inl i)] [] S3 Q) else (Q (some (.inl (0 : Int32))) S3)) else (ma_fp X 0 d w 1461 [(0, .inr (.inr (some 30))), (1, .inr (.inr (some 64))), (2, .inr (.inr (some 94))), (3, .inr (.inr (some 125))), (4, .inl i)] [] S3 Q)) else (Q (some (.inl (0 : Int32))) S3))) (fun _ _ => False)))))))))))) : ma_fp X 0 d w 541 [(0, .inr (.inr (some 30))), (1, .inr (.inr (some 64))), (2, .inr (.inr (some 94))), (3, .inr (.inr (some 125))), (4, .inl i)] [] S Q := by
  refine zf_push fm_0 dF0_541 (v := .inr (.inr (some 64))) rfl ?_
  refine zf_push fm_0 dF0_542 (v := .inr (.inr (some 30))) rfl ?_
  refine zf_push fm_0 dF0_543 (v := .inl i) rfl ?_
  refine zf_push fm_0 dF0_545 (v := .inl (1 : Int32)) rfl ?_
  refine zf_stk fm_0 dF0_546 (st' := [.inl (i + (1 : Int32)), .inr (.inr (some 30)), .inr (.inr (some 64))]) rfl rfl ?_
  obtain ⟨hg, h⟩ := h
  refine zf_one fm_0 dF0_547 (oo_sc hg) ?_
  refine zf_push fm_0 dF0_548 (v := .inr (.inr (some 30))) rfl ?_
  refine zf_push fm_0 dF0_549 (v := .inl i) rfl ?_
  refine zf_push fm_0 dF0_551 (v := .inl (2 : Int32)) rfl ?_
  refine zf_stk fm_0 dF0_552 (st' := [.inl (i + (2 : Int32)), .inr (.inr (some 30)), .inl (X.2 ((i + (1 : Int32))).toNatClampNeg), .inr (.inr (some 64))]) rfl rfl ?_
  obtain ⟨hg, h⟩ := h
  refine zf_one fm_0 dF0_553 (oo_sc hg) ?_
  refine zf_push fm_0 dF0_554 (v := .inr (.inr (some 30))) rfl ?_
  refine zf_push fm_0 dF0_555 (v := .inl i) rfl ?_
  refine zf_push fm_0 dF0_557 (v := .inl (3 : Int32)) rfl ?_
  refine zf_stk fm_0 dF0_558 (st' := [.inl (i + (3 : Int32)), .inr (.inr (some 30)), .inl (X.2 ((i + (2 : Int32))).toNatClampNeg), .inl (X.2 ((i + (1 : Int32))).toNatClampNeg), .inr (.inr (some 64))]) rfl rfl ?_
  obtain ⟨hg, h⟩ := h
  refine zf_one fm_0 dF0_559 (oo_sc hg) ?_
  refine zf_push fm_0 dF0_560 (v := .inr (.inr (some 125))) rfl ?_
  refine zf_cw fm_0 dF0_561 cw_117 fm_6 [.inr (.inr (some 125)), .inl (X.2 ((i + (3 : Int32))).toNatClampNeg), .inl (X.2 ((i + (2 : Int32))).toNatClampNeg), .inl (X.2 ((i + (1 : Int32))).toNatClampNeg), .inr (.inr (some 64))] [] rfl (by omega) (by omega) rfl (zf_mono h (zfi_go ?_))
  · intro v1 S2 hv
    obtain ⟨hS2, h⟩ := hv
    refine zf_sto fm_0 dF0_564 [(5, .inl v1), (0, .inr (.inr (some 30))), (1, .inr (.inr (some 64))), (2, .inr (.inr (some 94))), (3, .inr (.inr (some 125))), (4, .inl i)] rfl rfl rfl ?_
    refine zf_push fm_0 dF0_566 (v := .inr (.inr (some 94))) rfl ?_
    refine zf_push fm_0 dF0_567 (v := .inr (.inr (some 30))) rfl ?_
    refine zf_push fm_0 dF0_568 (v := .inl i) rfl ?_
    refine zf_push fm_0 dF0_570 (v := .inl (1 : Int32)) rfl ?_
    refine zf_stk fm_0 dF0_571 (st' := [.inl (i + (1 : Int32)), .inr (.inr (some 30)), .inr (.inr (some 94))]) rfl rfl ?_
    obtain ⟨hg, h⟩ := h
    refine zf_one fm_0 dF0_572 (oo_sc hg) ?_
    refine zf_push fm_0 dF0_573 (v := .inr (.inr (some 30))) rfl ?_
    refine zf_push fm_0 dF0_574 (v := .inl i) rfl ?_
    refine zf_push fm_0 dF0_576 (v := .inl (2 : Int32)) rfl ?_
    refine zf_stk fm_0 dF0_577 (st' := [.inl (i + (2 : Int32)), .inr (.inr (some 30)), .inl (X.2 ((i + (1 : Int32))).toNatClampNeg), .inr (.inr (some 94))]) rfl rfl ?_
    obtain ⟨hg, h⟩ := h
    refine zf_one fm_0 dF0_578 (oo_sc hg) ?_
    refine zf_push fm_0 dF0_579 (v := .inr (.inr (some 30))) rfl ?_
    refine zf_push fm_0 dF0_580 (v := .inl i) rfl ?_
    refine zf_push fm_0 dF0_582 (v := .inl (3 : Int32)) rfl ?_
    refine zf_stk fm_0 dF0_583 (st' := [.inl (i + (3 : Int32)), .inr (.inr (some 30)), .inl (X.2 ((i + (2 : Int32))).toNatClampNeg), .inl (X.2 ((i + (1 : Int32))).toNatClampNeg), .inr (.inr (some 94))]) rfl rfl ?_
    obtain ⟨hg, h⟩ := h
    refine zf_one fm_0 dF0_584 (oo_sc hg) ?_
    refine zf_cv fm_0 dF0_585 v_14_120_12 hm_244 [.inl (X.2 ((i + (3 : Int32))).toNatClampNeg), .inl (X.2 ((i + (2 : Int32))).toNatClampNeg), .inl (X.2 ((i + (1 : Int32))).toNatClampNeg)] [] rfl (zO_rt hS2 s_94 rfl) ⟨by omega, by omega⟩ rfl (zw_mono h (zi_go ?_ ?_))
    · intro v4 S3 hv
      obtain ⟨hS3, h⟩ := hv
      refine zf_sto fm_0 dF0_588 [(6, .inl v4), (5, .inl v1), (0, .inr (.inr (some 30))), (1, .inr (.inr (some 64))), (2, .inr (.inr (some 94))), (3, .inr (.inr (some 125))), (4, .inl i)] rfl rfl rfl ?_
      refine zf_push fm_0 dF0_590 (v := .inr (.inr (some 94))) rfl ?_
      refine zf_cv fm_0 dF0_591 v_14_95_12 hm_164 [] [] rfl (zO_rt hS3 s_94 rfl) ⟨by omega, by omega⟩ rfl ?_
      show ma_wp X (d - 1) (w - 20) 164 0 [(0, .inr (.inr (some 94)))] [] S3 _
      refine zw_push hm_164 dX12_thrown_0 (v := .inr (.inr (some 94))) rfl ?_
      refine zw_gf hm_164 dX12_thrown_1 (v := .inl (mI S3 94 0)) (zO_is hS3 s_94) (zO_t hS3 s_94) rfl f_12_1_12 rfl ?_
      refine zw_iret hm_164 dX12_thrown_4 ?_
      show ma_fp X 0 d w 594 [(6, .inl v4), (5, .inl v1), (0, .inr (.inr (some 30))), (1, .inr (.inr (some 64))), (2, .inr (.inr (some 94))), (3, .inr (.inr (some 125))), (4, .inl i)] [.inl (mI S3 94 0)] S3 Q
      refine zf_push fm_0 dF0_594 (v := .inl v1) rfl ?_
      refine zf_if2 fm_0 dF0_596 (t := 601) rfl zc2_eq ?_ ?_
      · intro hc
        rw [if_pos hc] at h
        refine zf_push fm_0 dF0_601 (v := .inl v1) rfl ?_
        refine zf_if0 fm_0 dF0_603 (t := 618) rfl zc0_ne ?_ ?_
        · intro hc
          rw [if_neg hc] at h
          refine zf_goto fm_0 dF0_618 (t := 1461) rfl ?_
          exact zf_sub (ma_nd_of (ks := [0, 1, 2, 3, 4]) rfl (by decide)) (ma_nd_of (ks := [6, 5, 0, 1, 2, 3, 4]) rfl (by decide)) (ma_le_cons rfl (ma_le_cons rfl (ma_le_cons rfl (ma_le_cons rfl (ma_le_cons rfl (ma_le_nil _)))))) h
        · intro hc
          rw [if_pos (Classical.not_not.mp hc)] at h
          refine zf_push fm_0 dF0_606 (v := .inr (.inr (some 125))) rfl ?_
          refine zf_push fm_0 dF0_607 (v := .inl (0 : Int32)) rfl ?_
          refine zf_one fm_0 dF0_608 (oo_la (zO_is hS3 s_125) (zO_h hS3 s_125) (a := 0) rfl ⟨by decide, by decide⟩) ?_
          refine zf_push fm_0 dF0_609 (v := .inl v4) rfl ?_
          refine zf_stk fm_0 dF0_611 (st' := [.inr (.inl (v4.toInt64)), .inr (.inl (mL S3 125 0))]) rfl rfl ?_
          refine zf_stk fm_0 dF0_612 (st' := [.inl (lg_cmp (mL S3 125 0) (v4.toInt64))]) rfl rfl ?_
          refine zf_if0 fm_0 dF0_613 (t := 618) rfl zc0_eq ?_ ?_
          · intro hc
            rw [if_pos hc] at h
            refine zf_goto fm_0 dF0_618 (t := 1461) rfl ?_
            exact zf_sub (ma_nd_of (ks := [0, 1, 2, 3, 4]) rfl (by decide)) (ma_nd_of (ks := [6, 5, 0, 1, 2, 3, 4]) rfl (by decide)) (ma_le_cons rfl (ma_le_cons rfl (ma_le_cons rfl (ma_le_cons rfl (ma_le_cons rfl (ma_le_nil _)))))) h
          · intro hc
            rw [if_neg hc] at h
            refine zf_push fm_0 dF0_616 (v := .inl (0 : Int32)) rfl ?_
            exact zf_bret fm_0 dF0_617 (by decide) h
      · intro hc
        rw [if_neg hc] at h
        refine zf_push fm_0 dF0_599 (v := .inl (0 : Int32)) rfl ?_
        exact zf_bret fm_0 dF0_600 (by decide) h
    · intro x S9 hx
      exact hx.elim
theorem gf_0_621 {X : Nat × (Nat → Int32)} {d w : Nat} {S : ma_S} {Q : Option ma_V → ma_S → Prop} (i : Int32) (hd : 13 ≤ d) (hw : 494 ≤ w) (hS : zO S) (h : (0 ≤ (i + (1 : Int32)) ∧ ((i + (1 : Int32))).toNatClampNeg < X.1) ∧ ((0 ≤ (i + (2 : Int32)) ∧ ((i + (2 : Int32))).toNatClampNeg < X.1) ∧ ((0 ≤ (i + (3 : Int32)) ∧ ((i + (3 : Int32))).toNatClampNeg < X.1) ∧ (ma_fp X 7 (d - 1) (w - 25) 0 [(0, .inr (.inr (some 64))), (1, .inl (X.2 ((i + (1 : Int32))).toNatClampNeg)), (2, .inl (X.2 ((i + (2 : Int32))).toNatClampNeg)), (3, .inl (X.2 ((i + (3 : Int32))).toNatClampNeg)), (4, .inr (.inr (some 125)))] [] S (zfi_ (fun v1 S2 => zO S2 ∧ ((0 ≤ (i + (1 : Int32)) ∧ ((i + (1 : Int32))).toNatClampNeg < X.1) ∧ ((0 ≤ (i + (2 : Int32)) ∧ ((i + (2 : Int32))).toNatClampNeg < X.1) ∧ ((0 ≤ (i + (3 : Int32)) ∧ ((i + (3 : Int32))).toNatClampNeg < X.1) ∧ (ma_wp X (d - 1) (w - 28) 247 0 [(0, .inr (.inr (some 94))), (1, .inl (X.2 ((i + (1 : Int32))).toNatClampNeg)), (2, .inl (X.2 ((i + (2 : Int32))).toNatClampNeg)), (3, .inl (X.2 ((i + (3 : Int32))).toNatClampNeg))] [] S2 (zi (fun v4 S3 => zO S3 ∧ (if (mI S3 94 0) = v1 then (if v1 = 0 then (if (lg_cmp (mL S3 125 0) (v4.toInt64)) = 0 then (ma_fp X 0 d w 1461 [(0, .inr (.inr (some 30))), (1, .inr (.inr (some 64))), (2, .inr (.inr (some 94))), (3, .inr (.inr (some 125))), (4, .inl i)] [] S3 Q) else (Q (some (.inl (0 : Int32))) S3)) else (ma_fp X 0 d w 1461 [(0, .inr (.inr (some 30))), (1, .inr (.inr (some 64))), (2, .inr (.inr (some 94))), (3, .inr (.inr (some 125))), (4, .inl i)] [] S3 Q)) else (Q (some (.inl (0 : Int32))) S3))) (fun _ _ => False)))))))))))) : ma_fp X 0 d w 621 [(0, .inr (.inr (some 30))), (1, .inr (.inr (some 64))), (2, .inr (.inr (some 94))), (3, .inr (.inr (some 125))), (4, .inl i)] [] S Q := by
  refine zf_push fm_0 dF0_621 (v := .inr (.inr (some 64))) rfl ?_
  refine zf_push fm_0 dF0_622 (v := .inr (.inr (some 30))) rfl ?_
  refine zf_push fm_0 dF0_623 (v := .inl i) rfl ?_
  refine zf_push fm_0 dF0_625 (v := .inl (1 : Int32)) rfl ?_
  refine zf_stk fm_0 dF0_626 (st' := [.inl (i + (1 : Int32)), .inr (.inr (some 30)), .inr (.inr (some 64))]) rfl rfl ?_
  obtain ⟨hg, h⟩ := h
  refine zf_one fm_0 dF0_627 (oo_sc hg) ?_
  refine zf_push fm_0 dF0_628 (v := .inr (.inr (some 30))) rfl ?_
  refine zf_push fm_0 dF0_629 (v := .inl i) rfl ?_
  refine zf_push fm_0 dF0_631 (v := .inl (2 : Int32)) rfl ?_
  refine zf_stk fm_0 dF0_632 (st' := [.inl (i + (2 : Int32)), .inr (.inr (some 30)), .inl (X.2 ((i + (1 : Int32))).toNatClampNeg), .inr (.inr (some 64))]) rfl rfl ?_
  obtain ⟨hg, h⟩ := h
  refine zf_one fm_0 dF0_633 (oo_sc hg) ?_
  refine zf_push fm_0 dF0_634 (v := .inr (.inr (some 30))) rfl ?_
  refine zf_push fm_0 dF0_635 (v := .inl i) rfl ?_
  refine zf_push fm_0 dF0_637 (v := .inl (3 : Int32)) rfl ?_
  refine zf_stk fm_0 dF0_638 (st' := [.inl (i + (3 : Int32)), .inr (.inr (some 30)), .inl (X.2 ((i + (2 : Int32))).toNatClampNeg), .inl (X.2 ((i + (1 : Int32))).toNatClampNeg), .inr (.inr (some 64))]) rfl rfl ?_
  obtain ⟨hg, h⟩ := h
  refine zf_one fm_0 dF0_639 (oo_sc hg) ?_
  refine zf_push fm_0 dF0_640 (v := .inr (.inr (some 125))) rfl ?_
  refine zf_cw fm_0 dF0_641 cw_121 fm_7 [.inr (.inr (some 125)), .inl (X.2 ((i + (3 : Int32))).toNatClampNeg), .inl (X.2 ((i + (2 : Int32))).toNatClampNeg), .inl (X.2 ((i + (1 : Int32))).toNatClampNeg), .inr (.inr (some 64))] [] rfl (by omega) (by omega) rfl (zf_mono h (zfi_go ?_))
  · intro v1 S2 hv
    obtain ⟨hS2, h⟩ := hv
    refine zf_sto fm_0 dF0_644 [(5, .inl v1), (0, .inr (.inr (some 30))), (1, .inr (.inr (some 64))), (2, .inr (.inr (some 94))), (3, .inr (.inr (some 125))), (4, .inl i)] rfl rfl rfl ?_
    refine zf_push fm_0 dF0_646 (v := .inr (.inr (some 94))) rfl ?_
    refine zf_push fm_0 dF0_647 (v := .inr (.inr (some 30))) rfl ?_
    refine zf_push fm_0 dF0_648 (v := .inl i) rfl ?_
    refine zf_push fm_0 dF0_650 (v := .inl (1 : Int32)) rfl ?_
    refine zf_stk fm_0 dF0_651 (st' := [.inl (i + (1 : Int32)), .inr (.inr (some 30)), .inr (.inr (some 94))]) rfl rfl ?_
    obtain ⟨hg, h⟩ := h
    refine zf_one fm_0 dF0_652 (oo_sc hg) ?_
    refine zf_push fm_0 dF0_653 (v := .inr (.inr (some 30))) rfl ?_
    refine zf_push fm_0 dF0_654 (v := .inl i) rfl ?_
    refine zf_push fm_0 dF0_656 (v := .inl (2 : Int32)) rfl ?_
    refine zf_stk fm_0 dF0_657 (st' := [.inl (i + (2 : Int32)), .inr (.inr (some 30)), .inl (X.2 ((i + (1 : Int32))).toNatClampNeg), .inr (.inr (some 94))]) rfl rfl ?_
    obtain ⟨hg, h⟩ := h
    refine zf_one fm_0 dF0_658 (oo_sc hg) ?_
    refine zf_push fm_0 dF0_659 (v := .inr (.inr (some 30))) rfl ?_
    refine zf_push fm_0 dF0_660 (v := .inl i) rfl ?_
    refine zf_push fm_0 dF0_662 (v := .inl (3 : Int32)) rfl ?_
    refine zf_stk fm_0 dF0_663 (st' := [.inl (i + (3 : Int32)), .inr (.inr (some 30)), .inl (X.2 ((i + (2 : Int32))).toNatClampNeg), .inl (X.2 ((i + (1 : Int32))).toNatClampNeg), .inr (.inr (some 94))]) rfl rfl ?_
    obtain ⟨hg, h⟩ := h
    refine zf_one fm_0 dF0_664 (oo_sc hg) ?_
    refine zf_cv fm_0 dF0_665 v_14_123_12 hm_247 [.inl (X.2 ((i + (3 : Int32))).toNatClampNeg), .inl (X.2 ((i + (2 : Int32))).toNatClampNeg), .inl (X.2 ((i + (1 : Int32))).toNatClampNeg)] [] rfl (zO_rt hS2 s_94 rfl) ⟨by omega, by omega⟩ rfl (zw_mono h (zi_go ?_ ?_))
    · intro v4 S3 hv
      obtain ⟨hS3, h⟩ := hv
      refine zf_sto fm_0 dF0_668 [(6, .inl v4), (5, .inl v1), (0, .inr (.inr (some 30))), (1, .inr (.inr (some 64))), (2, .inr (.inr (some 94))), (3, .inr (.inr (some 125))), (4, .inl i)] rfl rfl rfl ?_
      refine zf_push fm_0 dF0_670 (v := .inr (.inr (some 94))) rfl ?_
      refine zf_cv fm_0 dF0_671 v_14_95_12 hm_164 [] [] rfl (zO_rt hS3 s_94 rfl) ⟨by omega, by omega⟩ rfl ?_
      show ma_wp X (d - 1) (w - 20) 164 0 [(0, .inr (.inr (some 94)))] [] S3 _
      refine zw_push hm_164 dX12_thrown_0 (v := .inr (.inr (some 94))) rfl ?_
      refine zw_gf hm_164 dX12_thrown_1 (v := .inl (mI S3 94 0)) (zO_is hS3 s_94) (zO_t hS3 s_94) rfl f_12_1_12 rfl ?_
      refine zw_iret hm_164 dX12_thrown_4 ?_
      show ma_fp X 0 d w 674 [(6, .inl v4), (5, .inl v1), (0, .inr (.inr (some 30))), (1, .inr (.inr (some 64))), (2, .inr (.inr (some 94))), (3, .inr (.inr (some 125))), (4, .inl i)] [.inl (mI S3 94 0)] S3 Q
      refine zf_push fm_0 dF0_674 (v := .inl v1) rfl ?_
      refine zf_if2 fm_0 dF0_676 (t := 681) rfl zc2_eq ?_ ?_
      · intro hc
        rw [if_pos hc] at h
        refine zf_push fm_0 dF0_681 (v := .inl v1) rfl ?_
        refine zf_if0 fm_0 dF0_683 (t := 698) rfl zc0_ne ?_ ?_
        · intro hc
          rw [if_neg hc] at h
          refine zf_goto fm_0 dF0_698 (t := 1461) rfl ?_
          exact zf_sub (ma_nd_of (ks := [0, 1, 2, 3, 4]) rfl (by decide)) (ma_nd_of (ks := [6, 5, 0, 1, 2, 3, 4]) rfl (by decide)) (ma_le_cons rfl (ma_le_cons rfl (ma_le_cons rfl (ma_le_cons rfl (ma_le_cons rfl (ma_le_nil _)))))) h
        · intro hc
          rw [if_pos (Classical.not_not.mp hc)] at h
          refine zf_push fm_0 dF0_686 (v := .inr (.inr (some 125))) rfl ?_
          refine zf_push fm_0 dF0_687 (v := .inl (0 : Int32)) rfl ?_
          refine zf_one fm_0 dF0_688 (oo_la (zO_is hS3 s_125) (zO_h hS3 s_125) (a := 0) rfl ⟨by decide, by decide⟩) ?_
          refine zf_push fm_0 dF0_689 (v := .inl v4) rfl ?_
          refine zf_stk fm_0 dF0_691 (st' := [.inr (.inl (v4.toInt64)), .inr (.inl (mL S3 125 0))]) rfl rfl ?_
          refine zf_stk fm_0 dF0_692 (st' := [.inl (lg_cmp (mL S3 125 0) (v4.toInt64))]) rfl rfl ?_
          refine zf_if0 fm_0 dF0_693 (t := 698) rfl zc0_eq ?_ ?_
          · intro hc
            rw [if_pos hc] at h
            refine zf_goto fm_0 dF0_698 (t := 1461) rfl ?_
            exact zf_sub (ma_nd_of (ks := [0, 1, 2, 3, 4]) rfl (by decide)) (ma_nd_of (ks := [6, 5, 0, 1, 2, 3, 4]) rfl (by decide)) (ma_le_cons rfl (ma_le_cons rfl (ma_le_cons rfl (ma_le_cons rfl (ma_le_cons rfl (ma_le_nil _)))))) h
          · intro hc
            rw [if_neg hc] at h
            refine zf_push fm_0 dF0_696 (v := .inl (0 : Int32)) rfl ?_
            exact zf_bret fm_0 dF0_697 (by decide) h
      · intro hc
        rw [if_neg hc] at h
        refine zf_push fm_0 dF0_679 (v := .inl (0 : Int32)) rfl ?_
        exact zf_bret fm_0 dF0_680 (by decide) h
    · intro x S9 hx
      exact hx.elim
theorem gf_0_701 {X : Nat × (Nat → Int32)} {d w : Nat} {S : ma_S} {Q : Option ma_V → ma_S → Prop} (i : Int32) (hd : 13 ≤ d) (hw : 494 ≤ w) (hS : zO S) (h : (0 ≤ (i + (1 : Int32)) ∧ ((i + (1 : Int32))).toNatClampNeg < X.1) ∧ ((0 ≤ (i + (2 : Int32)) ∧ ((i + (2 : Int32))).toNatClampNeg < X.1) ∧ (ma_fp X 8 (d - 1) (w - 24) 0 [(0, .inr (.inr (some 64))), (1, .inl (X.2 ((i + (1 : Int32))).toNatClampNeg)), (2, .inl (X.2 ((i + (2 : Int32))).toNatClampNeg)), (3, .inr (.inr (some 125)))] [] S (zfi_ (fun v1 S2 => zO S2 ∧ ((0 ≤ (i + (1 : Int32)) ∧ ((i + (1 : Int32))).toNatClampNeg < X.1) ∧ ((0 ≤ (i + (2 : Int32)) ∧ ((i + (2 : Int32))).toNatClampNeg < X.1) ∧ (ma_wp X (d - 1) (w - 23) 249 0 [(0, .inr (.inr (some 94))), (1, .inl (X.2 ((i + (1 : Int32))).toNatClampNeg)), (2, .inl (X.2 ((i + (2 : Int32))).toNatClampNeg))] [] S2 (zi (fun v4 S3 => zO S3 ∧ (if (mI S3 94 0) = v1 then (if v1 = 0 then (if (lg_cmp (mL S3 125 0) (v4.toInt64)) = 0 then (ma_fp X 0 d w 1461 [(0, .inr (.inr (some 30))), (1, .inr (.inr (some 64))), (2, .inr (.inr (some 94))), (3, .inr (.inr (some 125))), (4, .inl i)] [] S3 Q) else (Q (some (.inl (0 : Int32))) S3)) else (ma_fp X 0 d w 1461 [(0, .inr (.inr (some 30))), (1, .inr (.inr (some 64))), (2, .inr (.inr (some 94))), (3, .inr (.inr (some 125))), (4, .inl i)] [] S3 Q)) else (Q (some (.inl (0 : Int32))) S3))) (fun _ _ => False)))))))))) : ma_fp X 0 d w 701 [(0, .inr (.inr (some 30))), (1, .inr (.inr (some 64))), (2, .inr (.inr (some 94))), (3, .inr (.inr (some 125))), (4, .inl i)] [] S Q := by
  refine zf_push fm_0 dF0_701 (v := .inr (.inr (some 64))) rfl ?_
  refine zf_push fm_0 dF0_702 (v := .inr (.inr (some 30))) rfl ?_
  refine zf_push fm_0 dF0_703 (v := .inl i) rfl ?_
  refine zf_push fm_0 dF0_705 (v := .inl (1 : Int32)) rfl ?_
  refine zf_stk fm_0 dF0_706 (st' := [.inl (i + (1 : Int32)), .inr (.inr (some 30)), .inr (.inr (some 64))]) rfl rfl ?_
  obtain ⟨hg, h⟩ := h
  refine zf_one fm_0 dF0_707 (oo_sc hg) ?_
  refine zf_push fm_0 dF0_708 (v := .inr (.inr (some 30))) rfl ?_
  refine zf_push fm_0 dF0_709 (v := .inl i) rfl ?_
  refine zf_push fm_0 dF0_711 (v := .inl (2 : Int32)) rfl ?_
  refine zf_stk fm_0 dF0_712 (st' := [.inl (i + (2 : Int32)), .inr (.inr (some 30)), .inl (X.2 ((i + (1 : Int32))).toNatClampNeg), .inr (.inr (some 64))]) rfl rfl ?_
  obtain ⟨hg, h⟩ := h
  refine zf_one fm_0 dF0_713 (oo_sc hg) ?_
  refine zf_push fm_0 dF0_714 (v := .inr (.inr (some 125))) rfl ?_
  refine zf_cw fm_0 dF0_715 cw_124 fm_8 [.inr (.inr (some 125)), .inl (X.2 ((i + (2 : Int32))).toNatClampNeg), .inl (X.2 ((i + (1 : Int32))).toNatClampNeg), .inr (.inr (some 64))] [] rfl (by omega) (by omega) rfl (zf_mono h (zfi_go ?_))
  · intro v1 S2 hv
    obtain ⟨hS2, h⟩ := hv
    refine zf_sto fm_0 dF0_718 [(5, .inl v1), (0, .inr (.inr (some 30))), (1, .inr (.inr (some 64))), (2, .inr (.inr (some 94))), (3, .inr (.inr (some 125))), (4, .inl i)] rfl rfl rfl ?_
    refine zf_push fm_0 dF0_720 (v := .inr (.inr (some 94))) rfl ?_
    refine zf_push fm_0 dF0_721 (v := .inr (.inr (some 30))) rfl ?_
    refine zf_push fm_0 dF0_722 (v := .inl i) rfl ?_
    refine zf_push fm_0 dF0_724 (v := .inl (1 : Int32)) rfl ?_
    refine zf_stk fm_0 dF0_725 (st' := [.inl (i + (1 : Int32)), .inr (.inr (some 30)), .inr (.inr (some 94))]) rfl rfl ?_
    obtain ⟨hg, h⟩ := h
    refine zf_one fm_0 dF0_726 (oo_sc hg) ?_
    refine zf_push fm_0 dF0_727 (v := .inr (.inr (some 30))) rfl ?_
    refine zf_push fm_0 dF0_728 (v := .inl i) rfl ?_
    refine zf_push fm_0 dF0_730 (v := .inl (2 : Int32)) rfl ?_
    refine zf_stk fm_0 dF0_731 (st' := [.inl (i + (2 : Int32)), .inr (.inr (some 30)), .inl (X.2 ((i + (1 : Int32))).toNatClampNeg), .inr (.inr (some 94))]) rfl rfl ?_
    obtain ⟨hg, h⟩ := h
    refine zf_one fm_0 dF0_732 (oo_sc hg) ?_
    refine zf_cv fm_0 dF0_733 v_14_126_12 hm_249 [.inl (X.2 ((i + (2 : Int32))).toNatClampNeg), .inl (X.2 ((i + (1 : Int32))).toNatClampNeg)] [] rfl (zO_rt hS2 s_94 rfl) ⟨by omega, by omega⟩ rfl (zw_mono h (zi_go ?_ ?_))
    · intro v4 S3 hv
      obtain ⟨hS3, h⟩ := hv
      refine zf_sto fm_0 dF0_736 [(6, .inl v4), (5, .inl v1), (0, .inr (.inr (some 30))), (1, .inr (.inr (some 64))), (2, .inr (.inr (some 94))), (3, .inr (.inr (some 125))), (4, .inl i)] rfl rfl rfl ?_
      refine zf_push fm_0 dF0_738 (v := .inr (.inr (some 94))) rfl ?_
      refine zf_cv fm_0 dF0_739 v_14_95_12 hm_164 [] [] rfl (zO_rt hS3 s_94 rfl) ⟨by omega, by omega⟩ rfl ?_
      show ma_wp X (d - 1) (w - 20) 164 0 [(0, .inr (.inr (some 94)))] [] S3 _
      refine zw_push hm_164 dX12_thrown_0 (v := .inr (.inr (some 94))) rfl ?_
      refine zw_gf hm_164 dX12_thrown_1 (v := .inl (mI S3 94 0)) (zO_is hS3 s_94) (zO_t hS3 s_94) rfl f_12_1_12 rfl ?_
      refine zw_iret hm_164 dX12_thrown_4 ?_
      show ma_fp X 0 d w 742 [(6, .inl v4), (5, .inl v1), (0, .inr (.inr (some 30))), (1, .inr (.inr (some 64))), (2, .inr (.inr (some 94))), (3, .inr (.inr (some 125))), (4, .inl i)] [.inl (mI S3 94 0)] S3 Q
      refine zf_push fm_0 dF0_742 (v := .inl v1) rfl ?_
      refine zf_if2 fm_0 dF0_744 (t := 749) rfl zc2_eq ?_ ?_
      · intro hc
        rw [if_pos hc] at h
        refine zf_push fm_0 dF0_749 (v := .inl v1) rfl ?_
        refine zf_if0 fm_0 dF0_751 (t := 766) rfl zc0_ne ?_ ?_
        · intro hc
          rw [if_neg hc] at h
          refine zf_goto fm_0 dF0_766 (t := 1461) rfl ?_
          exact zf_sub (ma_nd_of (ks := [0, 1, 2, 3, 4]) rfl (by decide)) (ma_nd_of (ks := [6, 5, 0, 1, 2, 3, 4]) rfl (by decide)) (ma_le_cons rfl (ma_le_cons rfl (ma_le_cons rfl (ma_le_cons rfl (ma_le_cons rfl (ma_le_nil _)))))) h
        · intro hc
          rw [if_pos (Classical.not_not.mp hc)] at h
          refine zf_push fm_0 dF0_754 (v := .inr (.inr (some 125))) rfl ?_
          refine zf_push fm_0 dF0_755 (v := .inl (0 : Int32)) rfl ?_
          refine zf_one fm_0 dF0_756 (oo_la (zO_is hS3 s_125) (zO_h hS3 s_125) (a := 0) rfl ⟨by decide, by decide⟩) ?_
          refine zf_push fm_0 dF0_757 (v := .inl v4) rfl ?_
          refine zf_stk fm_0 dF0_759 (st' := [.inr (.inl (v4.toInt64)), .inr (.inl (mL S3 125 0))]) rfl rfl ?_
          refine zf_stk fm_0 dF0_760 (st' := [.inl (lg_cmp (mL S3 125 0) (v4.toInt64))]) rfl rfl ?_
          refine zf_if0 fm_0 dF0_761 (t := 766) rfl zc0_eq ?_ ?_
          · intro hc
            rw [if_pos hc] at h
            refine zf_goto fm_0 dF0_766 (t := 1461) rfl ?_
            exact zf_sub (ma_nd_of (ks := [0, 1, 2, 3, 4]) rfl (by decide)) (ma_nd_of (ks := [6, 5, 0, 1, 2, 3, 4]) rfl (by decide)) (ma_le_cons rfl (ma_le_cons rfl (ma_le_cons rfl (ma_le_cons rfl (ma_le_cons rfl (ma_le_nil _)))))) h
          · intro hc
            rw [if_neg hc] at h
            refine zf_push fm_0 dF0_764 (v := .inl (0 : Int32)) rfl ?_
            exact zf_bret fm_0 dF0_765 (by decide) h
      · intro hc
        rw [if_neg hc] at h
        refine zf_push fm_0 dF0_747 (v := .inl (0 : Int32)) rfl ?_
        exact zf_bret fm_0 dF0_748 (by decide) h
    · intro x S9 hx
      exact hx.elim
theorem gf_0_769 {X : Nat × (Nat → Int32)} {d w : Nat} {S : ma_S} {Q : Option ma_V → ma_S → Prop} (i : Int32) (hd : 13 ≤ d) (hw : 494 ≤ w) (hS : zO S) (h : (0 ≤ (i + (1 : Int32)) ∧ ((i + (1 : Int32))).toNatClampNeg < X.1) ∧ ((0 ≤ (i + (2 : Int32)) ∧ ((i + (2 : Int32))).toNatClampNeg < X.1) ∧ (ma_fp X 9 (d - 1) (w - 24) 0 [(0, .inr (.inr (some 64))), (1, .inl (X.2 ((i + (1 : Int32))).toNatClampNeg)), (2, .inl (X.2 ((i + (2 : Int32))).toNatClampNeg)), (3, .inr (.inr (some 125)))] [] S (zfi_ (fun v1 S2 => zO S2 ∧ ((0 ≤ (i + (1 : Int32)) ∧ ((i + (1 : Int32))).toNatClampNeg < X.1) ∧ ((0 ≤ (i + (2 : Int32)) ∧ ((i + (2 : Int32))).toNatClampNeg < X.1) ∧ (ma_wp X (d - 1) (w - 24) 250 0 [(0, .inr (.inr (some 94))), (1, .inl (X.2 ((i + (1 : Int32))).toNatClampNeg)), (2, .inl (X.2 ((i + (2 : Int32))).toNatClampNeg))] [] S2 (zi (fun v4 S3 => zO S3 ∧ (if (mI S3 94 0) = v1 then (if v1 = 0 then (if (lg_cmp (mL S3 125 0) (v4.toInt64)) = 0 then (ma_fp X 0 d w 1461 [(0, .inr (.inr (some 30))), (1, .inr (.inr (some 64))), (2, .inr (.inr (some 94))), (3, .inr (.inr (some 125))), (4, .inl i)] [] S3 Q) else (Q (some (.inl (0 : Int32))) S3)) else (ma_fp X 0 d w 1461 [(0, .inr (.inr (some 30))), (1, .inr (.inr (some 64))), (2, .inr (.inr (some 94))), (3, .inr (.inr (some 125))), (4, .inl i)] [] S3 Q)) else (Q (some (.inl (0 : Int32))) S3))) (fun _ _ => False)))))))))) : ma_fp X 0 d w 769 [(0, .inr (.inr (some 30))), (1, .inr (.inr (some 64))), (2, .inr (.inr (some 94))), (3, .inr (.inr (some 125))), (4, .inl i)] [] S Q := by
  refine zf_push fm_0 dF0_769 (v := .inr (.inr (some 64))) rfl ?_
  refine zf_push fm_0 dF0_770 (v := .inr (.inr (some 30))) rfl ?_
  refine zf_push fm_0 dF0_771 (v := .inl i) rfl ?_
  refine zf_push fm_0 dF0_773 (v := .inl (1 : Int32)) rfl ?_
  refine zf_stk fm_0 dF0_774 (st' := [.inl (i + (1 : Int32)), .inr (.inr (some 30)), .inr (.inr (some 64))]) rfl rfl ?_
  obtain ⟨hg, h⟩ := h
  refine zf_one fm_0 dF0_775 (oo_sc hg) ?_
  refine zf_push fm_0 dF0_776 (v := .inr (.inr (some 30))) rfl ?_
  refine zf_push fm_0 dF0_777 (v := .inl i) rfl ?_
  refine zf_push fm_0 dF0_779 (v := .inl (2 : Int32)) rfl ?_
  refine zf_stk fm_0 dF0_780 (st' := [.inl (i + (2 : Int32)), .inr (.inr (some 30)), .inl (X.2 ((i + (1 : Int32))).toNatClampNeg), .inr (.inr (some 64))]) rfl rfl ?_
  obtain ⟨hg, h⟩ := h
  refine zf_one fm_0 dF0_781 (oo_sc hg) ?_
  refine zf_push fm_0 dF0_782 (v := .inr (.inr (some 125))) rfl ?_
  refine zf_cw fm_0 dF0_783 cw_127 fm_9 [.inr (.inr (some 125)), .inl (X.2 ((i + (2 : Int32))).toNatClampNeg), .inl (X.2 ((i + (1 : Int32))).toNatClampNeg), .inr (.inr (some 64))] [] rfl (by omega) (by omega) rfl (zf_mono h (zfi_go ?_))
  · intro v1 S2 hv
    obtain ⟨hS2, h⟩ := hv
    refine zf_sto fm_0 dF0_786 [(5, .inl v1), (0, .inr (.inr (some 30))), (1, .inr (.inr (some 64))), (2, .inr (.inr (some 94))), (3, .inr (.inr (some 125))), (4, .inl i)] rfl rfl rfl ?_
    refine zf_push fm_0 dF0_788 (v := .inr (.inr (some 94))) rfl ?_
    refine zf_push fm_0 dF0_789 (v := .inr (.inr (some 30))) rfl ?_
    refine zf_push fm_0 dF0_790 (v := .inl i) rfl ?_
    refine zf_push fm_0 dF0_792 (v := .inl (1 : Int32)) rfl ?_
    refine zf_stk fm_0 dF0_793 (st' := [.inl (i + (1 : Int32)), .inr (.inr (some 30)), .inr (.inr (some 94))]) rfl rfl ?_
    obtain ⟨hg, h⟩ := h
    refine zf_one fm_0 dF0_794 (oo_sc hg) ?_
    refine zf_push fm_0 dF0_795 (v := .inr (.inr (some 30))) rfl ?_
    refine zf_push fm_0 dF0_796 (v := .inl i) rfl ?_
    refine zf_push fm_0 dF0_798 (v := .inl (2 : Int32)) rfl ?_
    refine zf_stk fm_0 dF0_799 (st' := [.inl (i + (2 : Int32)), .inr (.inr (some 30)), .inl (X.2 ((i + (1 : Int32))).toNatClampNeg), .inr (.inr (some 94))]) rfl rfl ?_
    obtain ⟨hg, h⟩ := h
    refine zf_one fm_0 dF0_800 (oo_sc hg) ?_
    refine zf_cv fm_0 dF0_801 v_14_129_12 hm_250 [.inl (X.2 ((i + (2 : Int32))).toNatClampNeg), .inl (X.2 ((i + (1 : Int32))).toNatClampNeg)] [] rfl (zO_rt hS2 s_94 rfl) ⟨by omega, by omega⟩ rfl (zw_mono h (zi_go ?_ ?_))
    · intro v4 S3 hv
      obtain ⟨hS3, h⟩ := hv
      refine zf_sto fm_0 dF0_804 [(6, .inl v4), (5, .inl v1), (0, .inr (.inr (some 30))), (1, .inr (.inr (some 64))), (2, .inr (.inr (some 94))), (3, .inr (.inr (some 125))), (4, .inl i)] rfl rfl rfl ?_
      refine zf_push fm_0 dF0_806 (v := .inr (.inr (some 94))) rfl ?_
      refine zf_cv fm_0 dF0_807 v_14_95_12 hm_164 [] [] rfl (zO_rt hS3 s_94 rfl) ⟨by omega, by omega⟩ rfl ?_
      show ma_wp X (d - 1) (w - 20) 164 0 [(0, .inr (.inr (some 94)))] [] S3 _
      refine zw_push hm_164 dX12_thrown_0 (v := .inr (.inr (some 94))) rfl ?_
      refine zw_gf hm_164 dX12_thrown_1 (v := .inl (mI S3 94 0)) (zO_is hS3 s_94) (zO_t hS3 s_94) rfl f_12_1_12 rfl ?_
      refine zw_iret hm_164 dX12_thrown_4 ?_
      show ma_fp X 0 d w 810 [(6, .inl v4), (5, .inl v1), (0, .inr (.inr (some 30))), (1, .inr (.inr (some 64))), (2, .inr (.inr (some 94))), (3, .inr (.inr (some 125))), (4, .inl i)] [.inl (mI S3 94 0)] S3 Q
      refine zf_push fm_0 dF0_810 (v := .inl v1) rfl ?_
      refine zf_if2 fm_0 dF0_812 (t := 817) rfl zc2_eq ?_ ?_
      · intro hc
        rw [if_pos hc] at h
        refine zf_push fm_0 dF0_817 (v := .inl v1) rfl ?_
        refine zf_if0 fm_0 dF0_819 (t := 834) rfl zc0_ne ?_ ?_
        · intro hc
          rw [if_neg hc] at h
          refine zf_goto fm_0 dF0_834 (t := 1461) rfl ?_
          exact zf_sub (ma_nd_of (ks := [0, 1, 2, 3, 4]) rfl (by decide)) (ma_nd_of (ks := [6, 5, 0, 1, 2, 3, 4]) rfl (by decide)) (ma_le_cons rfl (ma_le_cons rfl (ma_le_cons rfl (ma_le_cons rfl (ma_le_cons rfl (ma_le_nil _)))))) h
        · intro hc
          rw [if_pos (Classical.not_not.mp hc)] at h
          refine zf_push fm_0 dF0_822 (v := .inr (.inr (some 125))) rfl ?_
          refine zf_push fm_0 dF0_823 (v := .inl (0 : Int32)) rfl ?_
          refine zf_one fm_0 dF0_824 (oo_la (zO_is hS3 s_125) (zO_h hS3 s_125) (a := 0) rfl ⟨by decide, by decide⟩) ?_
          refine zf_push fm_0 dF0_825 (v := .inl v4) rfl ?_
          refine zf_stk fm_0 dF0_827 (st' := [.inr (.inl (v4.toInt64)), .inr (.inl (mL S3 125 0))]) rfl rfl ?_
          refine zf_stk fm_0 dF0_828 (st' := [.inl (lg_cmp (mL S3 125 0) (v4.toInt64))]) rfl rfl ?_
          refine zf_if0 fm_0 dF0_829 (t := 834) rfl zc0_eq ?_ ?_
          · intro hc
            rw [if_pos hc] at h
            refine zf_goto fm_0 dF0_834 (t := 1461) rfl ?_
            exact zf_sub (ma_nd_of (ks := [0, 1, 2, 3, 4]) rfl (by decide)) (ma_nd_of (ks := [6, 5, 0, 1, 2, 3, 4]) rfl (by decide)) (ma_le_cons rfl (ma_le_cons rfl (ma_le_cons rfl (ma_le_cons rfl (ma_le_cons rfl (ma_le_nil _)))))) h
          · intro hc
            rw [if_neg hc] at h
            refine zf_push fm_0 dF0_832 (v := .inl (0 : Int32)) rfl ?_
            exact zf_bret fm_0 dF0_833 (by decide) h
      · intro hc
        rw [if_neg hc] at h
        refine zf_push fm_0 dF0_815 (v := .inl (0 : Int32)) rfl ?_
        exact zf_bret fm_0 dF0_816 (by decide) h
    · intro x S9 hx
      exact hx.elim
theorem gf_0_837 {X : Nat × (Nat → Int32)} {d w : Nat} {S : ma_S} {Q : Option ma_V → ma_S → Prop} (i : Int32) (hd : 13 ≤ d) (hw : 494 ≤ w) (hS : zO S) (h : (0 ≤ (i + (1 : Int32)) ∧ ((i + (1 : Int32))).toNatClampNeg < X.1) ∧ ((0 ≤ (i + (2 : Int32)) ∧ ((i + (2 : Int32))).toNatClampNeg < X.1) ∧ (ma_fp X 10 (d - 1) (w - 24) 0 [(0, .inr (.inr (some 64))), (1, .inl (X.2 ((i + (1 : Int32))).toNatClampNeg)), (2, .inl (X.2 ((i + (2 : Int32))).toNatClampNeg)), (3, .inr (.inr (some 125)))] [] S (zfi_ (fun v1 S2 => zO S2 ∧ ((0 ≤ (i + (1 : Int32)) ∧ ((i + (1 : Int32))).toNatClampNeg < X.1) ∧ ((0 ≤ (i + (2 : Int32)) ∧ ((i + (2 : Int32))).toNatClampNeg < X.1) ∧ (ma_wp X (d - 1) (w - 24) 251 0 [(0, .inr (.inr (some 94))), (1, .inl (X.2 ((i + (1 : Int32))).toNatClampNeg)), (2, .inl (X.2 ((i + (2 : Int32))).toNatClampNeg))] [] S2 (zi (fun v4 S3 => zO S3 ∧ (if (mI S3 94 0) = v1 then (if v1 = 0 then (if (lg_cmp (mL S3 125 0) (v4.toInt64)) = 0 then (ma_fp X 0 d w 1461 [(0, .inr (.inr (some 30))), (1, .inr (.inr (some 64))), (2, .inr (.inr (some 94))), (3, .inr (.inr (some 125))), (4, .inl i)] [] S3 Q) else (Q (some (.inl (0 : Int32))) S3)) else (ma_fp X 0 d w 1461 [(0, .inr (.inr (some 30))), (1, .inr (.inr (some 64))), (2, .inr (.inr (some 94))), (3, .inr (.inr (some 125))), (4, .inl i)] [] S3 Q)) else (Q (some (.inl (0 : Int32))) S3))) (fun _ _ => False)))))))))) : ma_fp X 0 d w 837 [(0, .inr (.inr (some 30))), (1, .inr (.inr (some 64))), (2, .inr (.inr (some 94))), (3, .inr (.inr (some 125))), (4, .inl i)] [] S Q := by
  refine zf_push fm_0 dF0_837 (v := .inr (.inr (some 64))) rfl ?_
  refine zf_push fm_0 dF0_838 (v := .inr (.inr (some 30))) rfl ?_
  refine zf_push fm_0 dF0_839 (v := .inl i) rfl ?_
  refine zf_push fm_0 dF0_841 (v := .inl (1 : Int32)) rfl ?_
  refine zf_stk fm_0 dF0_842 (st' := [.inl (i + (1 : Int32)), .inr (.inr (some 30)), .inr (.inr (some 64))]) rfl rfl ?_
  obtain ⟨hg, h⟩ := h
  refine zf_one fm_0 dF0_843 (oo_sc hg) ?_
  refine zf_push fm_0 dF0_844 (v := .inr (.inr (some 30))) rfl ?_
  refine zf_push fm_0 dF0_845 (v := .inl i) rfl ?_
  refine zf_push fm_0 dF0_847 (v := .inl (2 : Int32)) rfl ?_
  refine zf_stk fm_0 dF0_848 (st' := [.inl (i + (2 : Int32)), .inr (.inr (some 30)), .inl (X.2 ((i + (1 : Int32))).toNatClampNeg), .inr (.inr (some 64))]) rfl rfl ?_
  obtain ⟨hg, h⟩ := h
  refine zf_one fm_0 dF0_849 (oo_sc hg) ?_
  refine zf_push fm_0 dF0_850 (v := .inr (.inr (some 125))) rfl ?_
  refine zf_cw fm_0 dF0_851 cw_130 fm_10 [.inr (.inr (some 125)), .inl (X.2 ((i + (2 : Int32))).toNatClampNeg), .inl (X.2 ((i + (1 : Int32))).toNatClampNeg), .inr (.inr (some 64))] [] rfl (by omega) (by omega) rfl (zf_mono h (zfi_go ?_))
  · intro v1 S2 hv
    obtain ⟨hS2, h⟩ := hv
    refine zf_sto fm_0 dF0_854 [(5, .inl v1), (0, .inr (.inr (some 30))), (1, .inr (.inr (some 64))), (2, .inr (.inr (some 94))), (3, .inr (.inr (some 125))), (4, .inl i)] rfl rfl rfl ?_
    refine zf_push fm_0 dF0_856 (v := .inr (.inr (some 94))) rfl ?_
    refine zf_push fm_0 dF0_857 (v := .inr (.inr (some 30))) rfl ?_
    refine zf_push fm_0 dF0_858 (v := .inl i) rfl ?_
    refine zf_push fm_0 dF0_860 (v := .inl (1 : Int32)) rfl ?_
    refine zf_stk fm_0 dF0_861 (st' := [.inl (i + (1 : Int32)), .inr (.inr (some 30)), .inr (.inr (some 94))]) rfl rfl ?_
    obtain ⟨hg, h⟩ := h
    refine zf_one fm_0 dF0_862 (oo_sc hg) ?_
    refine zf_push fm_0 dF0_863 (v := .inr (.inr (some 30))) rfl ?_
    refine zf_push fm_0 dF0_864 (v := .inl i) rfl ?_
    refine zf_push fm_0 dF0_866 (v := .inl (2 : Int32)) rfl ?_
    refine zf_stk fm_0 dF0_867 (st' := [.inl (i + (2 : Int32)), .inr (.inr (some 30)), .inl (X.2 ((i + (1 : Int32))).toNatClampNeg), .inr (.inr (some 94))]) rfl rfl ?_
    obtain ⟨hg, h⟩ := h
    refine zf_one fm_0 dF0_868 (oo_sc hg) ?_
    refine zf_cv fm_0 dF0_869 v_14_132_12 hm_251 [.inl (X.2 ((i + (2 : Int32))).toNatClampNeg), .inl (X.2 ((i + (1 : Int32))).toNatClampNeg)] [] rfl (zO_rt hS2 s_94 rfl) ⟨by omega, by omega⟩ rfl (zw_mono h (zi_go ?_ ?_))
    · intro v4 S3 hv
      obtain ⟨hS3, h⟩ := hv
      refine zf_sto fm_0 dF0_872 [(6, .inl v4), (5, .inl v1), (0, .inr (.inr (some 30))), (1, .inr (.inr (some 64))), (2, .inr (.inr (some 94))), (3, .inr (.inr (some 125))), (4, .inl i)] rfl rfl rfl ?_
      refine zf_push fm_0 dF0_874 (v := .inr (.inr (some 94))) rfl ?_
      refine zf_cv fm_0 dF0_875 v_14_95_12 hm_164 [] [] rfl (zO_rt hS3 s_94 rfl) ⟨by omega, by omega⟩ rfl ?_
      show ma_wp X (d - 1) (w - 20) 164 0 [(0, .inr (.inr (some 94)))] [] S3 _
      refine zw_push hm_164 dX12_thrown_0 (v := .inr (.inr (some 94))) rfl ?_
      refine zw_gf hm_164 dX12_thrown_1 (v := .inl (mI S3 94 0)) (zO_is hS3 s_94) (zO_t hS3 s_94) rfl f_12_1_12 rfl ?_
      refine zw_iret hm_164 dX12_thrown_4 ?_
      show ma_fp X 0 d w 878 [(6, .inl v4), (5, .inl v1), (0, .inr (.inr (some 30))), (1, .inr (.inr (some 64))), (2, .inr (.inr (some 94))), (3, .inr (.inr (some 125))), (4, .inl i)] [.inl (mI S3 94 0)] S3 Q
      refine zf_push fm_0 dF0_878 (v := .inl v1) rfl ?_
      refine zf_if2 fm_0 dF0_880 (t := 885) rfl zc2_eq ?_ ?_
      · intro hc
        rw [if_pos hc] at h
        refine zf_push fm_0 dF0_885 (v := .inl v1) rfl ?_
        refine zf_if0 fm_0 dF0_887 (t := 902) rfl zc0_ne ?_ ?_
        · intro hc
          rw [if_neg hc] at h
          refine zf_goto fm_0 dF0_902 (t := 1461) rfl ?_
          exact zf_sub (ma_nd_of (ks := [0, 1, 2, 3, 4]) rfl (by decide)) (ma_nd_of (ks := [6, 5, 0, 1, 2, 3, 4]) rfl (by decide)) (ma_le_cons rfl (ma_le_cons rfl (ma_le_cons rfl (ma_le_cons rfl (ma_le_cons rfl (ma_le_nil _)))))) h
        · intro hc
          rw [if_pos (Classical.not_not.mp hc)] at h
          refine zf_push fm_0 dF0_890 (v := .inr (.inr (some 125))) rfl ?_
          refine zf_push fm_0 dF0_891 (v := .inl (0 : Int32)) rfl ?_
          refine zf_one fm_0 dF0_892 (oo_la (zO_is hS3 s_125) (zO_h hS3 s_125) (a := 0) rfl ⟨by decide, by decide⟩) ?_
          refine zf_push fm_0 dF0_893 (v := .inl v4) rfl ?_
          refine zf_stk fm_0 dF0_895 (st' := [.inr (.inl (v4.toInt64)), .inr (.inl (mL S3 125 0))]) rfl rfl ?_
          refine zf_stk fm_0 dF0_896 (st' := [.inl (lg_cmp (mL S3 125 0) (v4.toInt64))]) rfl rfl ?_
          refine zf_if0 fm_0 dF0_897 (t := 902) rfl zc0_eq ?_ ?_
          · intro hc
            rw [if_pos hc] at h
            refine zf_goto fm_0 dF0_902 (t := 1461) rfl ?_
            exact zf_sub (ma_nd_of (ks := [0, 1, 2, 3, 4]) rfl (by decide)) (ma_nd_of (ks := [6, 5, 0, 1, 2, 3, 4]) rfl (by decide)) (ma_le_cons rfl (ma_le_cons rfl (ma_le_cons rfl (ma_le_cons rfl (ma_le_cons rfl (ma_le_nil _)))))) h
          · intro hc
            rw [if_neg hc] at h
            refine zf_push fm_0 dF0_900 (v := .inl (0 : Int32)) rfl ?_
            exact zf_bret fm_0 dF0_901 (by decide) h
      · intro hc
        rw [if_neg hc] at h
        refine zf_push fm_0 dF0_883 (v := .inl (0 : Int32)) rfl ?_
        exact zf_bret fm_0 dF0_884 (by decide) h
    · intro x S9 hx
      exact hx.elim
theorem gf_0_905 {X : Nat × (Nat → Int32)} {d w : Nat} {S : ma_S} {Q : Option ma_V → ma_S → Prop} (i : Int32) (hd : 13 ≤ d) (hw : 494 ≤ w) (hS : zO S) (h : (0 ≤ (i + (1 : Int32)) ∧ ((i + (1 : Int32))).toNatClampNeg < X.1) ∧ ((0 ≤ (i + (2 : Int32)) ∧ ((i + (2 : Int32))).toNatClampNeg < X.1) ∧ (ma_fp X 11 (d - 1) (w - 24) 0 [(0, .inr (.inr (some 64))), (1, .inl (X.2 ((i + (1 : Int32))).toNatClampNeg)), (2, .inl (X.2 ((i + (2 : Int32))).toNatClampNeg)), (3, .inr (.inr (some 125)))] [] S (zfi_ (fun v1 S2 => zO S2 ∧ ((0 ≤ (i + (1 : Int32)) ∧ ((i + (1 : Int32))).toNatClampNeg < X.1) ∧ ((0 ≤ (i + (2 : Int32)) ∧ ((i + (2 : Int32))).toNatClampNeg < X.1) ∧ (ma_wp X (d - 1) (w - 23) 252 0 [(0, .inr (.inr (some 94))), (1, .inl (X.2 ((i + (1 : Int32))).toNatClampNeg)), (2, .inl (X.2 ((i + (2 : Int32))).toNatClampNeg))] [] S2 (zi (fun v4 S3 => zO S3 ∧ (if (mI S3 94 0) = v1 then (if v1 = 0 then (if (lg_cmp (mL S3 125 0) (v4.toInt64)) = 0 then (ma_fp X 0 d w 1461 [(0, .inr (.inr (some 30))), (1, .inr (.inr (some 64))), (2, .inr (.inr (some 94))), (3, .inr (.inr (some 125))), (4, .inl i)] [] S3 Q) else (Q (some (.inl (0 : Int32))) S3)) else (ma_fp X 0 d w 1461 [(0, .inr (.inr (some 30))), (1, .inr (.inr (some 64))), (2, .inr (.inr (some 94))), (3, .inr (.inr (some 125))), (4, .inl i)] [] S3 Q)) else (Q (some (.inl (0 : Int32))) S3))) (fun _ _ => False)))))))))) : ma_fp X 0 d w 905 [(0, .inr (.inr (some 30))), (1, .inr (.inr (some 64))), (2, .inr (.inr (some 94))), (3, .inr (.inr (some 125))), (4, .inl i)] [] S Q := by
  refine zf_push fm_0 dF0_905 (v := .inr (.inr (some 64))) rfl ?_
  refine zf_push fm_0 dF0_906 (v := .inr (.inr (some 30))) rfl ?_
  refine zf_push fm_0 dF0_907 (v := .inl i) rfl ?_
  refine zf_push fm_0 dF0_909 (v := .inl (1 : Int32)) rfl ?_
  refine zf_stk fm_0 dF0_910 (st' := [.inl (i + (1 : Int32)), .inr (.inr (some 30)), .inr (.inr (some 64))]) rfl rfl ?_
  obtain ⟨hg, h⟩ := h
  refine zf_one fm_0 dF0_911 (oo_sc hg) ?_
  refine zf_push fm_0 dF0_912 (v := .inr (.inr (some 30))) rfl ?_
  refine zf_push fm_0 dF0_913 (v := .inl i) rfl ?_
  refine zf_push fm_0 dF0_915 (v := .inl (2 : Int32)) rfl ?_
  refine zf_stk fm_0 dF0_916 (st' := [.inl (i + (2 : Int32)), .inr (.inr (some 30)), .inl (X.2 ((i + (1 : Int32))).toNatClampNeg), .inr (.inr (some 64))]) rfl rfl ?_
  obtain ⟨hg, h⟩ := h
  refine zf_one fm_0 dF0_917 (oo_sc hg) ?_
  refine zf_push fm_0 dF0_918 (v := .inr (.inr (some 125))) rfl ?_
  refine zf_cw fm_0 dF0_919 cw_133 fm_11 [.inr (.inr (some 125)), .inl (X.2 ((i + (2 : Int32))).toNatClampNeg), .inl (X.2 ((i + (1 : Int32))).toNatClampNeg), .inr (.inr (some 64))] [] rfl (by omega) (by omega) rfl (zf_mono h (zfi_go ?_))
  · intro v1 S2 hv
    obtain ⟨hS2, h⟩ := hv
    refine zf_sto fm_0 dF0_922 [(5, .inl v1), (0, .inr (.inr (some 30))), (1, .inr (.inr (some 64))), (2, .inr (.inr (some 94))), (3, .inr (.inr (some 125))), (4, .inl i)] rfl rfl rfl ?_
    refine zf_push fm_0 dF0_924 (v := .inr (.inr (some 94))) rfl ?_
    refine zf_push fm_0 dF0_925 (v := .inr (.inr (some 30))) rfl ?_
    refine zf_push fm_0 dF0_926 (v := .inl i) rfl ?_
    refine zf_push fm_0 dF0_928 (v := .inl (1 : Int32)) rfl ?_
    refine zf_stk fm_0 dF0_929 (st' := [.inl (i + (1 : Int32)), .inr (.inr (some 30)), .inr (.inr (some 94))]) rfl rfl ?_
    obtain ⟨hg, h⟩ := h
    refine zf_one fm_0 dF0_930 (oo_sc hg) ?_
    refine zf_push fm_0 dF0_931 (v := .inr (.inr (some 30))) rfl ?_
    refine zf_push fm_0 dF0_932 (v := .inl i) rfl ?_
    refine zf_push fm_0 dF0_934 (v := .inl (2 : Int32)) rfl ?_
    refine zf_stk fm_0 dF0_935 (st' := [.inl (i + (2 : Int32)), .inr (.inr (some 30)), .inl (X.2 ((i + (1 : Int32))).toNatClampNeg), .inr (.inr (some 94))]) rfl rfl ?_
    obtain ⟨hg, h⟩ := h
    refine zf_one fm_0 dF0_936 (oo_sc hg) ?_
    refine zf_cv fm_0 dF0_937 v_14_135_12 hm_252 [.inl (X.2 ((i + (2 : Int32))).toNatClampNeg), .inl (X.2 ((i + (1 : Int32))).toNatClampNeg)] [] rfl (zO_rt hS2 s_94 rfl) ⟨by omega, by omega⟩ rfl (zw_mono h (zi_go ?_ ?_))
    · intro v4 S3 hv
      obtain ⟨hS3, h⟩ := hv
      refine zf_sto fm_0 dF0_940 [(6, .inl v4), (5, .inl v1), (0, .inr (.inr (some 30))), (1, .inr (.inr (some 64))), (2, .inr (.inr (some 94))), (3, .inr (.inr (some 125))), (4, .inl i)] rfl rfl rfl ?_
      refine zf_push fm_0 dF0_942 (v := .inr (.inr (some 94))) rfl ?_
      refine zf_cv fm_0 dF0_943 v_14_95_12 hm_164 [] [] rfl (zO_rt hS3 s_94 rfl) ⟨by omega, by omega⟩ rfl ?_
      show ma_wp X (d - 1) (w - 20) 164 0 [(0, .inr (.inr (some 94)))] [] S3 _
      refine zw_push hm_164 dX12_thrown_0 (v := .inr (.inr (some 94))) rfl ?_
      refine zw_gf hm_164 dX12_thrown_1 (v := .inl (mI S3 94 0)) (zO_is hS3 s_94) (zO_t hS3 s_94) rfl f_12_1_12 rfl ?_
      refine zw_iret hm_164 dX12_thrown_4 ?_
      show ma_fp X 0 d w 946 [(6, .inl v4), (5, .inl v1), (0, .inr (.inr (some 30))), (1, .inr (.inr (some 64))), (2, .inr (.inr (some 94))), (3, .inr (.inr (some 125))), (4, .inl i)] [.inl (mI S3 94 0)] S3 Q
      refine zf_push fm_0 dF0_946 (v := .inl v1) rfl ?_
      refine zf_if2 fm_0 dF0_948 (t := 953) rfl zc2_eq ?_ ?_
      · intro hc
        rw [if_pos hc] at h
        refine zf_push fm_0 dF0_953 (v := .inl v1) rfl ?_
        refine zf_if0 fm_0 dF0_955 (t := 970) rfl zc0_ne ?_ ?_
        · intro hc
          rw [if_neg hc] at h
          refine zf_goto fm_0 dF0_970 (t := 1461) rfl ?_
          exact zf_sub (ma_nd_of (ks := [0, 1, 2, 3, 4]) rfl (by decide)) (ma_nd_of (ks := [6, 5, 0, 1, 2, 3, 4]) rfl (by decide)) (ma_le_cons rfl (ma_le_cons rfl (ma_le_cons rfl (ma_le_cons rfl (ma_le_cons rfl (ma_le_nil _)))))) h
        · intro hc
          rw [if_pos (Classical.not_not.mp hc)] at h
          refine zf_push fm_0 dF0_958 (v := .inr (.inr (some 125))) rfl ?_
          refine zf_push fm_0 dF0_959 (v := .inl (0 : Int32)) rfl ?_
          refine zf_one fm_0 dF0_960 (oo_la (zO_is hS3 s_125) (zO_h hS3 s_125) (a := 0) rfl ⟨by decide, by decide⟩) ?_
          refine zf_push fm_0 dF0_961 (v := .inl v4) rfl ?_
          refine zf_stk fm_0 dF0_963 (st' := [.inr (.inl (v4.toInt64)), .inr (.inl (mL S3 125 0))]) rfl rfl ?_
          refine zf_stk fm_0 dF0_964 (st' := [.inl (lg_cmp (mL S3 125 0) (v4.toInt64))]) rfl rfl ?_
          refine zf_if0 fm_0 dF0_965 (t := 970) rfl zc0_eq ?_ ?_
          · intro hc
            rw [if_pos hc] at h
            refine zf_goto fm_0 dF0_970 (t := 1461) rfl ?_
            exact zf_sub (ma_nd_of (ks := [0, 1, 2, 3, 4]) rfl (by decide)) (ma_nd_of (ks := [6, 5, 0, 1, 2, 3, 4]) rfl (by decide)) (ma_le_cons rfl (ma_le_cons rfl (ma_le_cons rfl (ma_le_cons rfl (ma_le_cons rfl (ma_le_nil _)))))) h
          · intro hc
            rw [if_neg hc] at h
            refine zf_push fm_0 dF0_968 (v := .inl (0 : Int32)) rfl ?_
            exact zf_bret fm_0 dF0_969 (by decide) h
      · intro hc
        rw [if_neg hc] at h
        refine zf_push fm_0 dF0_951 (v := .inl (0 : Int32)) rfl ?_
        exact zf_bret fm_0 dF0_952 (by decide) h
    · intro x S9 hx
      exact hx.elim
theorem gf_0_973 {X : Nat × (Nat → Int32)} {d w : Nat} {S : ma_S} {Q : Option ma_V → ma_S → Prop} (i : Int32) (hd : 13 ≤ d) (hw : 494 ≤ w) (hS : zO S) (h : (0 ≤ (i + (1 : Int32)) ∧ ((i + (1 : Int32))).toNatClampNeg < X.1) ∧ ((0 ≤ (i + (2 : Int32)) ∧ ((i + (2 : Int32))).toNatClampNeg < X.1) ∧ (if (X.2 ((i + (2 : Int32))).toNatClampNeg) = 0 then (ma_fp X 12 (d - 1) (w - 24) 0 [(0, .inr (.inr (some 64))), (1, .inl (X.2 ((i + (1 : Int32))).toNatClampNeg)), (2, .inl (0 : Int32)), (3, .inr (.inr (some 125)))] [] S (zfi_ (fun v1 S2 => zO S2 ∧ ((0 ≤ (i + (1 : Int32)) ∧ ((i + (1 : Int32))).toNatClampNeg < X.1) ∧ ((0 ≤ (i + (2 : Int32)) ∧ ((i + (2 : Int32))).toNatClampNeg < X.1) ∧ (if (X.2 ((i + (2 : Int32))).toNatClampNeg) = 0 then (ma_wp X (d - 1) (w - 24) 253 0 [(0, .inr (.inr (some 94))), (1, .inl (X.2 ((i + (1 : Int32))).toNatClampNeg)), (2, .inl (0 : Int32))] [] S2 (zi (fun v4 S3 => zO S3 ∧ (if (mI S3 94 0) = v1 then (if v1 = 0 then (if (lg_cmp (mL S3 125 0) (v4.toInt64)) = 0 then (ma_fp X 0 d w 1461 [(0, .inr (.inr (some 30))), (1, .inr (.inr (some 64))), (2, .inr (.inr (some 94))), (3, .inr (.inr (some 125))), (4, .inl i)] [] S3 Q) else (Q (some (.inl (0 : Int32))) S3)) else (ma_fp X 0 d w 1461 [(0, .inr (.inr (some 30))), (1, .inr (.inr (some 64))), (2, .inr (.inr (some 94))), (3, .inr (.inr (some 125))), (4, .inl i)] [] S3 Q)) else (Q (some (.inl (0 : Int32))) S3))) (fun _ _ => False))) else (ma_wp X (d - 1) (w - 24) 253 0 [(0, .inr (.inr (some 94))), (1, .inl (X.2 ((i + (1 : Int32))).toNatClampNeg)), (2, .inl (1 : Int32))] [] S2 (zi (fun v6 S5 => zO S5 ∧ (if (mI S5 94 0) = v1 then (if v1 = 0 then (if (lg_cmp (mL S5 125 0) (v6.toInt64)) = 0 then (ma_fp X 0 d w 1461 [(0, .inr (.inr (some 30))), (1, .inr (.inr (some 64))), (2, .inr (.inr (some 94))), (3, .inr (.inr (some 125))), (4, .inl i)] [] S5 Q) else (Q (some (.inl (0 : Int32))) S5)) else (ma_fp X 0 d w 1461 [(0, .inr (.inr (some 30))), (1, .inr (.inr (some 64))), (2, .inr (.inr (some 94))), (3, .inr (.inr (some 125))), (4, .inl i)] [] S5 Q)) else (Q (some (.inl (0 : Int32))) S5))) (fun _ _ => False))))))))) else (ma_fp X 12 (d - 1) (w - 24) 0 [(0, .inr (.inr (some 64))), (1, .inl (X.2 ((i + (1 : Int32))).toNatClampNeg)), (2, .inl (1 : Int32)), (3, .inr (.inr (some 125)))] [] S (zfi_ (fun v7 S8 => zO S8 ∧ ((0 ≤ (i + (1 : Int32)) ∧ ((i + (1 : Int32))).toNatClampNeg < X.1) ∧ ((0 ≤ (i + (2 : Int32)) ∧ ((i + (2 : Int32))).toNatClampNeg < X.1) ∧ (if (X.2 ((i + (2 : Int32))).toNatClampNeg) = 0 then (ma_wp X (d - 1) (w - 24) 253 0 [(0, .inr (.inr (some 94))), (1, .inl (X.2 ((i + (1 : Int32))).toNatClampNeg)), (2, .inl (0 : Int32))] [] S8 (zi (fun v10 S9 => zO S9 ∧ (if (mI S9 94 0) = v7 then (if v7 = 0 then (if (lg_cmp (mL S9 125 0) (v10.toInt64)) = 0 then (ma_fp X 0 d w 1461 [(0, .inr (.inr (some 30))), (1, .inr (.inr (some 64))), (2, .inr (.inr (some 94))), (3, .inr (.inr (some 125))), (4, .inl i)] [] S9 Q) else (Q (some (.inl (0 : Int32))) S9)) else (ma_fp X 0 d w 1461 [(0, .inr (.inr (some 30))), (1, .inr (.inr (some 64))), (2, .inr (.inr (some 94))), (3, .inr (.inr (some 125))), (4, .inl i)] [] S9 Q)) else (Q (some (.inl (0 : Int32))) S9))) (fun _ _ => False))) else (ma_wp X (d - 1) (w - 24) 253 0 [(0, .inr (.inr (some 94))), (1, .inl (X.2 ((i + (1 : Int32))).toNatClampNeg)), (2, .inl (1 : Int32))] [] S8 (zi (fun v12 S11 => zO S11 ∧ (if (mI S11 94 0) = v7 then (if v7 = 0 then (if (lg_cmp (mL S11 125 0) (v12.toInt64)) = 0 then (ma_fp X 0 d w 1461 [(0, .inr (.inr (some 30))), (1, .inr (.inr (some 64))), (2, .inr (.inr (some 94))), (3, .inr (.inr (some 125))), (4, .inl i)] [] S11 Q) else (Q (some (.inl (0 : Int32))) S11)) else (ma_fp X 0 d w 1461 [(0, .inr (.inr (some 30))), (1, .inr (.inr (some 64))), (2, .inr (.inr (some 94))), (3, .inr (.inr (some 125))), (4, .inl i)] [] S11 Q)) else (Q (some (.inl (0 : Int32))) S11))) (fun _ _ => False)))))))))))) : ma_fp X 0 d w 973 [(0, .inr (.inr (some 30))), (1, .inr (.inr (some 64))), (2, .inr (.inr (some 94))), (3, .inr (.inr (some 125))), (4, .inl i)] [] S Q := by
  refine zf_push fm_0 dF0_973 (v := .inr (.inr (some 64))) rfl ?_
  refine zf_push fm_0 dF0_974 (v := .inr (.inr (some 30))) rfl ?_
  refine zf_push fm_0 dF0_975 (v := .inl i) rfl ?_
  refine zf_push fm_0 dF0_977 (v := .inl (1 : Int32)) rfl ?_
  refine zf_stk fm_0 dF0_978 (st' := [.inl (i + (1 : Int32)), .inr (.inr (some 30)), .inr (.inr (some 64))]) rfl rfl ?_
  obtain ⟨hg, h⟩ := h
  refine zf_one fm_0 dF0_979 (oo_sc hg) ?_
  refine zf_push fm_0 dF0_980 (v := .inr (.inr (some 30))) rfl ?_
  refine zf_push fm_0 dF0_981 (v := .inl i) rfl ?_
  refine zf_push fm_0 dF0_983 (v := .inl (2 : Int32)) rfl ?_
  refine zf_stk fm_0 dF0_984 (st' := [.inl (i + (2 : Int32)), .inr (.inr (some 30)), .inl (X.2 ((i + (1 : Int32))).toNatClampNeg), .inr (.inr (some 64))]) rfl rfl ?_
  obtain ⟨hg, h⟩ := h
  refine zf_one fm_0 dF0_985 (oo_sc hg) ?_
  refine zf_if0 fm_0 dF0_986 (t := 993) rfl zc0_eq ?_ ?_
  · intro hc
    rw [if_pos hc] at h
    refine zf_push fm_0 dF0_993 (v := .inl (0 : Int32)) rfl ?_
    refine zf_push fm_0 dF0_994 (v := .inr (.inr (some 125))) rfl ?_
    refine zf_cw fm_0 dF0_995 cw_136 fm_12 [.inr (.inr (some 125)), .inl (0 : Int32), .inl (X.2 ((i + (1 : Int32))).toNatClampNeg), .inr (.inr (some 64))] [] rfl (by omega) (by omega) rfl (zf_mono h (zfi_go ?_))
    · intro v1 S2 hv
      obtain ⟨hS2, h⟩ := hv
      refine zf_sto fm_0 dF0_998 [(5, .inl v1), (0, .inr (.inr (some 30))), (1, .inr (.inr (some 64))), (2, .inr (.inr (some 94))), (3, .inr (.inr (some 125))), (4, .inl i)] rfl rfl rfl ?_
      refine zf_push fm_0 dF0_1000 (v := .inr (.inr (some 94))) rfl ?_
      refine zf_push fm_0 dF0_1001 (v := .inr (.inr (some 30))) rfl ?_
      refine zf_push fm_0 dF0_1002 (v := .inl i) rfl ?_
      refine zf_push fm_0 dF0_1004 (v := .inl (1 : Int32)) rfl ?_
      refine zf_stk fm_0 dF0_1005 (st' := [.inl (i + (1 : Int32)), .inr (.inr (some 30)), .inr (.inr (some 94))]) rfl rfl ?_
      obtain ⟨hg, h⟩ := h
      refine zf_one fm_0 dF0_1006 (oo_sc hg) ?_
      refine zf_push fm_0 dF0_1007 (v := .inr (.inr (some 30))) rfl ?_
      refine zf_push fm_0 dF0_1008 (v := .inl i) rfl ?_
      refine zf_push fm_0 dF0_1010 (v := .inl (2 : Int32)) rfl ?_
      refine zf_stk fm_0 dF0_1011 (st' := [.inl (i + (2 : Int32)), .inr (.inr (some 30)), .inl (X.2 ((i + (1 : Int32))).toNatClampNeg), .inr (.inr (some 94))]) rfl rfl ?_
      obtain ⟨hg, h⟩ := h
      refine zf_one fm_0 dF0_1012 (oo_sc hg) ?_
      refine zf_if0 fm_0 dF0_1013 (t := 1020) rfl zc0_eq ?_ ?_
      · intro hc
        rw [if_pos hc] at h
        refine zf_push fm_0 dF0_1020 (v := .inl (0 : Int32)) rfl ?_
        refine zf_cv fm_0 dF0_1021 v_14_139_12 hm_253 [.inl (0 : Int32), .inl (X.2 ((i + (1 : Int32))).toNatClampNeg)] [] rfl (zO_rt hS2 s_94 rfl) ⟨by omega, by omega⟩ rfl (zw_mono h (zi_go ?_ ?_))
        · intro v4 S3 hv
          obtain ⟨hS3, h⟩ := hv
          refine zf_sto fm_0 dF0_1024 [(6, .inl v4), (5, .inl v1), (0, .inr (.inr (some 30))), (1, .inr (.inr (some 64))), (2, .inr (.inr (some 94))), (3, .inr (.inr (some 125))), (4, .inl i)] rfl rfl rfl ?_
          refine zf_push fm_0 dF0_1026 (v := .inr (.inr (some 94))) rfl ?_
          refine zf_cv fm_0 dF0_1027 v_14_95_12 hm_164 [] [] rfl (zO_rt hS3 s_94 rfl) ⟨by omega, by omega⟩ rfl ?_
          show ma_wp X (d - 1) (w - 20) 164 0 [(0, .inr (.inr (some 94)))] [] S3 _
          refine zw_push hm_164 dX12_thrown_0 (v := .inr (.inr (some 94))) rfl ?_
          refine zw_gf hm_164 dX12_thrown_1 (v := .inl (mI S3 94 0)) (zO_is hS3 s_94) (zO_t hS3 s_94) rfl f_12_1_12 rfl ?_
          refine zw_iret hm_164 dX12_thrown_4 ?_
          show ma_fp X 0 d w 1030 [(6, .inl v4), (5, .inl v1), (0, .inr (.inr (some 30))), (1, .inr (.inr (some 64))), (2, .inr (.inr (some 94))), (3, .inr (.inr (some 125))), (4, .inl i)] [.inl (mI S3 94 0)] S3 Q
          refine zf_push fm_0 dF0_1030 (v := .inl v1) rfl ?_
          refine zf_if2 fm_0 dF0_1032 (t := 1037) rfl zc2_eq ?_ ?_
          · intro hc
            rw [if_pos hc] at h
            refine zf_push fm_0 dF0_1037 (v := .inl v1) rfl ?_
            refine zf_if0 fm_0 dF0_1039 (t := 1054) rfl zc0_ne ?_ ?_
            · intro hc
              rw [if_neg hc] at h
              refine zf_goto fm_0 dF0_1054 (t := 1461) rfl ?_
              exact zf_sub (ma_nd_of (ks := [0, 1, 2, 3, 4]) rfl (by decide)) (ma_nd_of (ks := [6, 5, 0, 1, 2, 3, 4]) rfl (by decide)) (ma_le_cons rfl (ma_le_cons rfl (ma_le_cons rfl (ma_le_cons rfl (ma_le_cons rfl (ma_le_nil _)))))) h
            · intro hc
              rw [if_pos (Classical.not_not.mp hc)] at h
              refine zf_push fm_0 dF0_1042 (v := .inr (.inr (some 125))) rfl ?_
              refine zf_push fm_0 dF0_1043 (v := .inl (0 : Int32)) rfl ?_
              refine zf_one fm_0 dF0_1044 (oo_la (zO_is hS3 s_125) (zO_h hS3 s_125) (a := 0) rfl ⟨by decide, by decide⟩) ?_
              refine zf_push fm_0 dF0_1045 (v := .inl v4) rfl ?_
              refine zf_stk fm_0 dF0_1047 (st' := [.inr (.inl (v4.toInt64)), .inr (.inl (mL S3 125 0))]) rfl rfl ?_
              refine zf_stk fm_0 dF0_1048 (st' := [.inl (lg_cmp (mL S3 125 0) (v4.toInt64))]) rfl rfl ?_
              refine zf_if0 fm_0 dF0_1049 (t := 1054) rfl zc0_eq ?_ ?_
              · intro hc
                rw [if_pos hc] at h
                refine zf_goto fm_0 dF0_1054 (t := 1461) rfl ?_
                exact zf_sub (ma_nd_of (ks := [0, 1, 2, 3, 4]) rfl (by decide)) (ma_nd_of (ks := [6, 5, 0, 1, 2, 3, 4]) rfl (by decide)) (ma_le_cons rfl (ma_le_cons rfl (ma_le_cons rfl (ma_le_cons rfl (ma_le_cons rfl (ma_le_nil _)))))) h
              · intro hc
                rw [if_neg hc] at h
                refine zf_push fm_0 dF0_1052 (v := .inl (0 : Int32)) rfl ?_
                exact zf_bret fm_0 dF0_1053 (by decide) h
          · intro hc
            rw [if_neg hc] at h
            refine zf_push fm_0 dF0_1035 (v := .inl (0 : Int32)) rfl ?_
            exact zf_bret fm_0 dF0_1036 (by decide) h
        · intro x S9 hx
          exact hx.elim
      · intro hc
        rw [if_neg hc] at h
        refine zf_push fm_0 dF0_1016 (v := .inl (1 : Int32)) rfl ?_
        refine zf_goto fm_0 dF0_1017 (t := 1021) rfl ?_
        refine zf_cv fm_0 dF0_1021 v_14_139_12 hm_253 [.inl (1 : Int32), .inl (X.2 ((i + (1 : Int32))).toNatClampNeg)] [] rfl (zO_rt hS2 s_94 rfl) ⟨by omega, by omega⟩ rfl (zw_mono h (zi_go ?_ ?_))
        · intro v6 S5 hv
          obtain ⟨hS5, h⟩ := hv
          refine zf_sto fm_0 dF0_1024 [(6, .inl v6), (5, .inl v1), (0, .inr (.inr (some 30))), (1, .inr (.inr (some 64))), (2, .inr (.inr (some 94))), (3, .inr (.inr (some 125))), (4, .inl i)] rfl rfl rfl ?_
          refine zf_push fm_0 dF0_1026 (v := .inr (.inr (some 94))) rfl ?_
          refine zf_cv fm_0 dF0_1027 v_14_95_12 hm_164 [] [] rfl (zO_rt hS5 s_94 rfl) ⟨by omega, by omega⟩ rfl ?_
          show ma_wp X (d - 1) (w - 20) 164 0 [(0, .inr (.inr (some 94)))] [] S5 _
          refine zw_push hm_164 dX12_thrown_0 (v := .inr (.inr (some 94))) rfl ?_
          refine zw_gf hm_164 dX12_thrown_1 (v := .inl (mI S5 94 0)) (zO_is hS5 s_94) (zO_t hS5 s_94) rfl f_12_1_12 rfl ?_
          refine zw_iret hm_164 dX12_thrown_4 ?_
          show ma_fp X 0 d w 1030 [(6, .inl v6), (5, .inl v1), (0, .inr (.inr (some 30))), (1, .inr (.inr (some 64))), (2, .inr (.inr (some 94))), (3, .inr (.inr (some 125))), (4, .inl i)] [.inl (mI S5 94 0)] S5 Q
          refine zf_push fm_0 dF0_1030 (v := .inl v1) rfl ?_
          refine zf_if2 fm_0 dF0_1032 (t := 1037) rfl zc2_eq ?_ ?_
          · intro hc
            rw [if_pos hc] at h
            refine zf_push fm_0 dF0_1037 (v := .inl v1) rfl ?_
            refine zf_if0 fm_0 dF0_1039 (t := 1054) rfl zc0_ne ?_ ?_
            · intro hc
              rw [if_neg hc] at h
              refine zf_goto fm_0 dF0_1054 (t := 1461) rfl ?_
              exact zf_sub (ma_nd_of (ks := [0, 1, 2, 3, 4]) rfl (by decide)) (ma_nd_of (ks := [6, 5, 0, 1, 2, 3, 4]) rfl (by decide)) (ma_le_cons rfl (ma_le_cons rfl (ma_le_cons rfl (ma_le_cons rfl (ma_le_cons rfl (ma_le_nil _)))))) h
            · intro hc
              rw [if_pos (Classical.not_not.mp hc)] at h
              refine zf_push fm_0 dF0_1042 (v := .inr (.inr (some 125))) rfl ?_
              refine zf_push fm_0 dF0_1043 (v := .inl (0 : Int32)) rfl ?_
              refine zf_one fm_0 dF0_1044 (oo_la (zO_is hS5 s_125) (zO_h hS5 s_125) (a := 0) rfl ⟨by decide, by decide⟩) ?_
              refine zf_push fm_0 dF0_1045 (v := .inl v6) rfl ?_
              refine zf_stk fm_0 dF0_1047 (st' := [.inr (.inl (v6.toInt64)), .inr (.inl (mL S5 125 0))]) rfl rfl ?_
              refine zf_stk fm_0 dF0_1048 (st' := [.inl (lg_cmp (mL S5 125 0) (v6.toInt64))]) rfl rfl ?_
              refine zf_if0 fm_0 dF0_1049 (t := 1054) rfl zc0_eq ?_ ?_
              · intro hc
                rw [if_pos hc] at h
                refine zf_goto fm_0 dF0_1054 (t := 1461) rfl ?_
                exact zf_sub (ma_nd_of (ks := [0, 1, 2, 3, 4]) rfl (by decide)) (ma_nd_of (ks := [6, 5, 0, 1, 2, 3, 4]) rfl (by decide)) (ma_le_cons rfl (ma_le_cons rfl (ma_le_cons rfl (ma_le_cons rfl (ma_le_cons rfl (ma_le_nil _)))))) h
              · intro hc
                rw [if_neg hc] at h
                refine zf_push fm_0 dF0_1052 (v := .inl (0 : Int32)) rfl ?_
                exact zf_bret fm_0 dF0_1053 (by decide) h
          · intro hc
            rw [if_neg hc] at h
            refine zf_push fm_0 dF0_1035 (v := .inl (0 : Int32)) rfl ?_
            exact zf_bret fm_0 dF0_1036 (by decide) h
        · intro x S9 hx
          exact hx.elim
  · intro hc
    rw [if_neg hc] at h
    refine zf_push fm_0 dF0_989 (v := .inl (1 : Int32)) rfl ?_
    refine zf_goto fm_0 dF0_990 (t := 994) rfl ?_
    refine zf_push fm_0 dF0_994 (v := .inr (.inr (some 125))) rfl ?_
    refine zf_cw fm_0 dF0_995 cw_136 fm_12 [.inr (.inr (some 125)), .inl (1 : Int32), .inl (X.2 ((i + (1 : Int32))).toNatClampNeg), .inr (.inr (some 64))] [] rfl (by omega) (by omega) rfl (zf_mono h (zfi_go ?_))
    · intro v7 S8 hv
      obtain ⟨hS8, h⟩ := hv
      refine zf_sto fm_0 dF0_998 [(5, .inl v7), (0, .inr (.inr (some 30))), (1, .inr (.inr (some 64))), (2, .inr (.inr (some 94))), (3, .inr (.inr (some 125))), (4, .inl i)] rfl rfl rfl ?_
      refine zf_push fm_0 dF0_1000 (v := .inr (.inr (some 94))) rfl ?_
      refine zf_push fm_0 dF0_1001 (v := .inr (.inr (some 30))) rfl ?_
      refine zf_push fm_0 dF0_1002 (v := .inl i) rfl ?_
      refine zf_push fm_0 dF0_1004 (v := .inl (1 : Int32)) rfl ?_
      refine zf_stk fm_0 dF0_1005 (st' := [.inl (i + (1 : Int32)), .inr (.inr (some 30)), .inr (.inr (some 94))]) rfl rfl ?_
      obtain ⟨hg, h⟩ := h
      refine zf_one fm_0 dF0_1006 (oo_sc hg) ?_
      refine zf_push fm_0 dF0_1007 (v := .inr (.inr (some 30))) rfl ?_
      refine zf_push fm_0 dF0_1008 (v := .inl i) rfl ?_
      refine zf_push fm_0 dF0_1010 (v := .inl (2 : Int32)) rfl ?_
      refine zf_stk fm_0 dF0_1011 (st' := [.inl (i + (2 : Int32)), .inr (.inr (some 30)), .inl (X.2 ((i + (1 : Int32))).toNatClampNeg), .inr (.inr (some 94))]) rfl rfl ?_
      obtain ⟨hg, h⟩ := h
      refine zf_one fm_0 dF0_1012 (oo_sc hg) ?_
      refine zf_if0 fm_0 dF0_1013 (t := 1020) rfl zc0_eq ?_ ?_
      · intro hc
        rw [if_pos hc] at h
        refine zf_push fm_0 dF0_1020 (v := .inl (0 : Int32)) rfl ?_
        refine zf_cv fm_0 dF0_1021 v_14_139_12 hm_253 [.inl (0 : Int32), .inl (X.2 ((i + (1 : Int32))).toNatClampNeg)] [] rfl (zO_rt hS8 s_94 rfl) ⟨by omega, by omega⟩ rfl (zw_mono h (zi_go ?_ ?_))
        · intro v10 S9 hv
          obtain ⟨hS9, h⟩ := hv
          refine zf_sto fm_0 dF0_1024 [(6, .inl v10), (5, .inl v7), (0, .inr (.inr (some 30))), (1, .inr (.inr (some 64))), (2, .inr (.inr (some 94))), (3, .inr (.inr (some 125))), (4, .inl i)] rfl rfl rfl ?_
          refine zf_push fm_0 dF0_1026 (v := .inr (.inr (some 94))) rfl ?_
          refine zf_cv fm_0 dF0_1027 v_14_95_12 hm_164 [] [] rfl (zO_rt hS9 s_94 rfl) ⟨by omega, by omega⟩ rfl ?_
          show ma_wp X (d - 1) (w - 20) 164 0 [(0, .inr (.inr (some 94)))] [] S9 _
          refine zw_push hm_164 dX12_thrown_0 (v := .inr (.inr (some 94))) rfl ?_
          refine zw_gf hm_164 dX12_thrown_1 (v := .inl (mI S9 94 0)) (zO_is hS9 s_94) (zO_t hS9 s_94) rfl f_12_1_12 rfl ?_
          refine zw_iret hm_164 dX12_thrown_4 ?_
          show ma_fp X 0 d w 1030 [(6, .inl v10), (5, .inl v7), (0, .inr (.inr (some 30))), (1, .inr (.inr (some 64))), (2, .inr (.inr (some 94))), (3, .inr (.inr (some 125))), (4, .inl i)] [.inl (mI S9 94 0)] S9 Q
          refine zf_push fm_0 dF0_1030 (v := .inl v7) rfl ?_
          refine zf_if2 fm_0 dF0_1032 (t := 1037) rfl zc2_eq ?_ ?_
          · intro hc
            rw [if_pos hc] at h
            refine zf_push fm_0 dF0_1037 (v := .inl v7) rfl ?_
            refine zf_if0 fm_0 dF0_1039 (t := 1054) rfl zc0_ne ?_ ?_
            · intro hc
              rw [if_neg hc] at h
              refine zf_goto fm_0 dF0_1054 (t := 1461) rfl ?_
              exact zf_sub (ma_nd_of (ks := [0, 1, 2, 3, 4]) rfl (by decide)) (ma_nd_of (ks := [6, 5, 0, 1, 2, 3, 4]) rfl (by decide)) (ma_le_cons rfl (ma_le_cons rfl (ma_le_cons rfl (ma_le_cons rfl (ma_le_cons rfl (ma_le_nil _)))))) h
            · intro hc
              rw [if_pos (Classical.not_not.mp hc)] at h
              refine zf_push fm_0 dF0_1042 (v := .inr (.inr (some 125))) rfl ?_
              refine zf_push fm_0 dF0_1043 (v := .inl (0 : Int32)) rfl ?_
              refine zf_one fm_0 dF0_1044 (oo_la (zO_is hS9 s_125) (zO_h hS9 s_125) (a := 0) rfl ⟨by decide, by decide⟩) ?_
              refine zf_push fm_0 dF0_1045 (v := .inl v10) rfl ?_
              refine zf_stk fm_0 dF0_1047 (st' := [.inr (.inl (v10.toInt64)), .inr (.inl (mL S9 125 0))]) rfl rfl ?_
              refine zf_stk fm_0 dF0_1048 (st' := [.inl (lg_cmp (mL S9 125 0) (v10.toInt64))]) rfl rfl ?_
              refine zf_if0 fm_0 dF0_1049 (t := 1054) rfl zc0_eq ?_ ?_
              · intro hc
                rw [if_pos hc] at h
                refine zf_goto fm_0 dF0_1054 (t := 1461) rfl ?_
                exact zf_sub (ma_nd_of (ks := [0, 1, 2, 3, 4]) rfl (by decide)) (ma_nd_of (ks := [6, 5, 0, 1, 2, 3, 4]) rfl (by decide)) (ma_le_cons rfl (ma_le_cons rfl (ma_le_cons rfl (ma_le_cons rfl (ma_le_cons rfl (ma_le_nil _)))))) h
              · intro hc
                rw [if_neg hc] at h
                refine zf_push fm_0 dF0_1052 (v := .inl (0 : Int32)) rfl ?_
                exact zf_bret fm_0 dF0_1053 (by decide) h
          · intro hc
            rw [if_neg hc] at h
            refine zf_push fm_0 dF0_1035 (v := .inl (0 : Int32)) rfl ?_
            exact zf_bret fm_0 dF0_1036 (by decide) h
        · intro x S9 hx
          exact hx.elim
      · intro hc
        rw [if_neg hc] at h
        refine zf_push fm_0 dF0_1016 (v := .inl (1 : Int32)) rfl ?_
        refine zf_goto fm_0 dF0_1017 (t := 1021) rfl ?_
        refine zf_cv fm_0 dF0_1021 v_14_139_12 hm_253 [.inl (1 : Int32), .inl (X.2 ((i + (1 : Int32))).toNatClampNeg)] [] rfl (zO_rt hS8 s_94 rfl) ⟨by omega, by omega⟩ rfl (zw_mono h (zi_go ?_ ?_))
        · intro v12 S11 hv
          obtain ⟨hS11, h⟩ := hv
          refine zf_sto fm_0 dF0_1024 [(6, .inl v12), (5, .inl v7), (0, .inr (.inr (some 30))), (1, .inr (.inr (some 64))), (2, .inr (.inr (some 94))), (3, .inr (.inr (some 125))), (4, .inl i)] rfl rfl rfl ?_
          refine zf_push fm_0 dF0_1026 (v := .inr (.inr (some 94))) rfl ?_
          refine zf_cv fm_0 dF0_1027 v_14_95_12 hm_164 [] [] rfl (zO_rt hS11 s_94 rfl) ⟨by omega, by omega⟩ rfl ?_
          show ma_wp X (d - 1) (w - 20) 164 0 [(0, .inr (.inr (some 94)))] [] S11 _
          refine zw_push hm_164 dX12_thrown_0 (v := .inr (.inr (some 94))) rfl ?_
          refine zw_gf hm_164 dX12_thrown_1 (v := .inl (mI S11 94 0)) (zO_is hS11 s_94) (zO_t hS11 s_94) rfl f_12_1_12 rfl ?_
          refine zw_iret hm_164 dX12_thrown_4 ?_
          show ma_fp X 0 d w 1030 [(6, .inl v12), (5, .inl v7), (0, .inr (.inr (some 30))), (1, .inr (.inr (some 64))), (2, .inr (.inr (some 94))), (3, .inr (.inr (some 125))), (4, .inl i)] [.inl (mI S11 94 0)] S11 Q
          refine zf_push fm_0 dF0_1030 (v := .inl v7) rfl ?_
          refine zf_if2 fm_0 dF0_1032 (t := 1037) rfl zc2_eq ?_ ?_
          · intro hc
            rw [if_pos hc] at h
            refine zf_push fm_0 dF0_1037 (v := .inl v7) rfl ?_
            refine zf_if0 fm_0 dF0_1039 (t := 1054) rfl zc0_ne ?_ ?_
            · intro hc
              rw [if_neg hc] at h
              refine zf_goto fm_0 dF0_1054 (t := 1461) rfl ?_
              exact zf_sub (ma_nd_of (ks := [0, 1, 2, 3, 4]) rfl (by decide)) (ma_nd_of (ks := [6, 5, 0, 1, 2, 3, 4]) rfl (by decide)) (ma_le_cons rfl (ma_le_cons rfl (ma_le_cons rfl (ma_le_cons rfl (ma_le_cons rfl (ma_le_nil _)))))) h
            · intro hc
              rw [if_pos (Classical.not_not.mp hc)] at h
              refine zf_push fm_0 dF0_1042 (v := .inr (.inr (some 125))) rfl ?_
              refine zf_push fm_0 dF0_1043 (v := .inl (0 : Int32)) rfl ?_
              refine zf_one fm_0 dF0_1044 (oo_la (zO_is hS11 s_125) (zO_h hS11 s_125) (a := 0) rfl ⟨by decide, by decide⟩) ?_
              refine zf_push fm_0 dF0_1045 (v := .inl v12) rfl ?_
              refine zf_stk fm_0 dF0_1047 (st' := [.inr (.inl (v12.toInt64)), .inr (.inl (mL S11 125 0))]) rfl rfl ?_
              refine zf_stk fm_0 dF0_1048 (st' := [.inl (lg_cmp (mL S11 125 0) (v12.toInt64))]) rfl rfl ?_
              refine zf_if0 fm_0 dF0_1049 (t := 1054) rfl zc0_eq ?_ ?_
              · intro hc
                rw [if_pos hc] at h
                refine zf_goto fm_0 dF0_1054 (t := 1461) rfl ?_
                exact zf_sub (ma_nd_of (ks := [0, 1, 2, 3, 4]) rfl (by decide)) (ma_nd_of (ks := [6, 5, 0, 1, 2, 3, 4]) rfl (by decide)) (ma_le_cons rfl (ma_le_cons rfl (ma_le_cons rfl (ma_le_cons rfl (ma_le_cons rfl (ma_le_nil _)))))) h
              · intro hc
                rw [if_neg hc] at h
                refine zf_push fm_0 dF0_1052 (v := .inl (0 : Int32)) rfl ?_
                exact zf_bret fm_0 dF0_1053 (by decide) h
          · intro hc
            rw [if_neg hc] at h
            refine zf_push fm_0 dF0_1035 (v := .inl (0 : Int32)) rfl ?_
            exact zf_bret fm_0 dF0_1036 (by decide) h
        · intro x S9 hx
          exact hx.elim
theorem gf_0_1057 {X : Nat × (Nat → Int32)} {d w : Nat} {S : ma_S} {Q : Option ma_V → ma_S → Prop} (i : Int32) (hd : 13 ≤ d) (hw : 494 ≤ w) (hS : zO S) (h : (0 ≤ (i + (1 : Int32)) ∧ ((i + (1 : Int32))).toNatClampNeg < X.1) ∧ (ma_fp X 13 (d - 1) (w - 23) 0 [(0, .inr (.inr (some 64))), (1, .inl (X.2 ((i + (1 : Int32))).toNatClampNeg)), (2, .inr (.inr (some 125)))] [] S (zfi_ (fun v1 S2 => zO S2 ∧ ((0 ≤ (i + (1 : Int32)) ∧ ((i + (1 : Int32))).toNatClampNeg < X.1) ∧ (ma_wp X (d - 1) (w - 23) 254 0 [(0, .inr (.inr (some 94))), (1, .inl (X.2 ((i + (1 : Int32))).toNatClampNeg))] [] S2 (zi (fun v4 S3 => zO S3 ∧ (if (mI S3 94 0) = v1 then (if v1 = 0 then (if (lg_cmp (mL S3 125 0) (v4.toInt64)) = 0 then (ma_fp X 0 d w 1461 [(0, .inr (.inr (some 30))), (1, .inr (.inr (some 64))), (2, .inr (.inr (some 94))), (3, .inr (.inr (some 125))), (4, .inl i)] [] S3 Q) else (Q (some (.inl (0 : Int32))) S3)) else (ma_fp X 0 d w 1461 [(0, .inr (.inr (some 30))), (1, .inr (.inr (some 64))), (2, .inr (.inr (some 94))), (3, .inr (.inr (some 125))), (4, .inl i)] [] S3 Q)) else (Q (some (.inl (0 : Int32))) S3))) (fun _ _ => False)))))))) : ma_fp X 0 d w 1057 [(0, .inr (.inr (some 30))), (1, .inr (.inr (some 64))), (2, .inr (.inr (some 94))), (3, .inr (.inr (some 125))), (4, .inl i)] [] S Q := by
  refine zf_push fm_0 dF0_1057 (v := .inr (.inr (some 64))) rfl ?_
  refine zf_push fm_0 dF0_1058 (v := .inr (.inr (some 30))) rfl ?_
  refine zf_push fm_0 dF0_1059 (v := .inl i) rfl ?_
  refine zf_push fm_0 dF0_1061 (v := .inl (1 : Int32)) rfl ?_
  refine zf_stk fm_0 dF0_1062 (st' := [.inl (i + (1 : Int32)), .inr (.inr (some 30)), .inr (.inr (some 64))]) rfl rfl ?_
  obtain ⟨hg, h⟩ := h
  refine zf_one fm_0 dF0_1063 (oo_sc hg) ?_
  refine zf_push fm_0 dF0_1064 (v := .inr (.inr (some 125))) rfl ?_
  refine zf_cw fm_0 dF0_1065 cw_140 fm_13 [.inr (.inr (some 125)), .inl (X.2 ((i + (1 : Int32))).toNatClampNeg), .inr (.inr (some 64))] [] rfl (by omega) (by omega) rfl (zf_mono h (zfi_go ?_))
  · intro v1 S2 hv
    obtain ⟨hS2, h⟩ := hv
    refine zf_sto fm_0 dF0_1068 [(5, .inl v1), (0, .inr (.inr (some 30))), (1, .inr (.inr (some 64))), (2, .inr (.inr (some 94))), (3, .inr (.inr (some 125))), (4, .inl i)] rfl rfl rfl ?_
    refine zf_push fm_0 dF0_1070 (v := .inr (.inr (some 94))) rfl ?_
    refine zf_push fm_0 dF0_1071 (v := .inr (.inr (some 30))) rfl ?_
    refine zf_push fm_0 dF0_1072 (v := .inl i) rfl ?_
    refine zf_push fm_0 dF0_1074 (v := .inl (1 : Int32)) rfl ?_
    refine zf_stk fm_0 dF0_1075 (st' := [.inl (i + (1 : Int32)), .inr (.inr (some 30)), .inr (.inr (some 94))]) rfl rfl ?_
    obtain ⟨hg, h⟩ := h
    refine zf_one fm_0 dF0_1076 (oo_sc hg) ?_
    refine zf_cv fm_0 dF0_1077 v_14_142_12 hm_254 [.inl (X.2 ((i + (1 : Int32))).toNatClampNeg)] [] rfl (zO_rt hS2 s_94 rfl) ⟨by omega, by omega⟩ rfl (zw_mono h (zi_go ?_ ?_))
    · intro v4 S3 hv
      obtain ⟨hS3, h⟩ := hv
      refine zf_sto fm_0 dF0_1080 [(6, .inl v4), (5, .inl v1), (0, .inr (.inr (some 30))), (1, .inr (.inr (some 64))), (2, .inr (.inr (some 94))), (3, .inr (.inr (some 125))), (4, .inl i)] rfl rfl rfl ?_
      refine zf_push fm_0 dF0_1082 (v := .inr (.inr (some 94))) rfl ?_
      refine zf_cv fm_0 dF0_1083 v_14_95_12 hm_164 [] [] rfl (zO_rt hS3 s_94 rfl) ⟨by omega, by omega⟩ rfl ?_
      show ma_wp X (d - 1) (w - 20) 164 0 [(0, .inr (.inr (some 94)))] [] S3 _
      refine zw_push hm_164 dX12_thrown_0 (v := .inr (.inr (some 94))) rfl ?_
      refine zw_gf hm_164 dX12_thrown_1 (v := .inl (mI S3 94 0)) (zO_is hS3 s_94) (zO_t hS3 s_94) rfl f_12_1_12 rfl ?_
      refine zw_iret hm_164 dX12_thrown_4 ?_
      show ma_fp X 0 d w 1086 [(6, .inl v4), (5, .inl v1), (0, .inr (.inr (some 30))), (1, .inr (.inr (some 64))), (2, .inr (.inr (some 94))), (3, .inr (.inr (some 125))), (4, .inl i)] [.inl (mI S3 94 0)] S3 Q
      refine zf_push fm_0 dF0_1086 (v := .inl v1) rfl ?_
      refine zf_if2 fm_0 dF0_1088 (t := 1093) rfl zc2_eq ?_ ?_
      · intro hc
        rw [if_pos hc] at h
        refine zf_push fm_0 dF0_1093 (v := .inl v1) rfl ?_
        refine zf_if0 fm_0 dF0_1095 (t := 1110) rfl zc0_ne ?_ ?_
        · intro hc
          rw [if_neg hc] at h
          refine zf_goto fm_0 dF0_1110 (t := 1461) rfl ?_
          exact zf_sub (ma_nd_of (ks := [0, 1, 2, 3, 4]) rfl (by decide)) (ma_nd_of (ks := [6, 5, 0, 1, 2, 3, 4]) rfl (by decide)) (ma_le_cons rfl (ma_le_cons rfl (ma_le_cons rfl (ma_le_cons rfl (ma_le_cons rfl (ma_le_nil _)))))) h
        · intro hc
          rw [if_pos (Classical.not_not.mp hc)] at h
          refine zf_push fm_0 dF0_1098 (v := .inr (.inr (some 125))) rfl ?_
          refine zf_push fm_0 dF0_1099 (v := .inl (0 : Int32)) rfl ?_
          refine zf_one fm_0 dF0_1100 (oo_la (zO_is hS3 s_125) (zO_h hS3 s_125) (a := 0) rfl ⟨by decide, by decide⟩) ?_
          refine zf_push fm_0 dF0_1101 (v := .inl v4) rfl ?_
          refine zf_stk fm_0 dF0_1103 (st' := [.inr (.inl (v4.toInt64)), .inr (.inl (mL S3 125 0))]) rfl rfl ?_
          refine zf_stk fm_0 dF0_1104 (st' := [.inl (lg_cmp (mL S3 125 0) (v4.toInt64))]) rfl rfl ?_
          refine zf_if0 fm_0 dF0_1105 (t := 1110) rfl zc0_eq ?_ ?_
          · intro hc
            rw [if_pos hc] at h
            refine zf_goto fm_0 dF0_1110 (t := 1461) rfl ?_
            exact zf_sub (ma_nd_of (ks := [0, 1, 2, 3, 4]) rfl (by decide)) (ma_nd_of (ks := [6, 5, 0, 1, 2, 3, 4]) rfl (by decide)) (ma_le_cons rfl (ma_le_cons rfl (ma_le_cons rfl (ma_le_cons rfl (ma_le_cons rfl (ma_le_nil _)))))) h
          · intro hc
            rw [if_neg hc] at h
            refine zf_push fm_0 dF0_1108 (v := .inl (0 : Int32)) rfl ?_
            exact zf_bret fm_0 dF0_1109 (by decide) h
      · intro hc
        rw [if_neg hc] at h
        refine zf_push fm_0 dF0_1091 (v := .inl (0 : Int32)) rfl ?_
        exact zf_bret fm_0 dF0_1092 (by decide) h
    · intro x S9 hx
      exact hx.elim
theorem gf_0_1113 {X : Nat × (Nat → Int32)} {d w : Nat} {S : ma_S} {Q : Option ma_V → ma_S → Prop} (i : Int32) (hd : 13 ≤ d) (hw : 494 ≤ w) (hS : zO S) (h : (0 ≤ (i + (1 : Int32)) ∧ ((i + (1 : Int32))).toNatClampNeg < X.1) ∧ (ma_fp X 14 (d - 1) (w - 23) 0 [(0, .inr (.inr (some 64))), (1, .inl (X.2 ((i + (1 : Int32))).toNatClampNeg)), (2, .inr (.inr (some 125)))] [] S (zfi_ (fun v1 S2 => zO S2 ∧ ((0 ≤ (i + (1 : Int32)) ∧ ((i + (1 : Int32))).toNatClampNeg < X.1) ∧ (ma_wp X (d - 1) (w - 23) 255 0 [(0, .inr (.inr (some 94))), (1, .inl (X.2 ((i + (1 : Int32))).toNatClampNeg))] [] S2 (zi (fun v4 S3 => zO S3 ∧ (if (mI S3 94 0) = v1 then (if v1 = 0 then (if (lg_cmp (mL S3 125 0) (v4.toInt64)) = 0 then (ma_fp X 0 d w 1461 [(0, .inr (.inr (some 30))), (1, .inr (.inr (some 64))), (2, .inr (.inr (some 94))), (3, .inr (.inr (some 125))), (4, .inl i)] [] S3 Q) else (Q (some (.inl (0 : Int32))) S3)) else (ma_fp X 0 d w 1461 [(0, .inr (.inr (some 30))), (1, .inr (.inr (some 64))), (2, .inr (.inr (some 94))), (3, .inr (.inr (some 125))), (4, .inl i)] [] S3 Q)) else (Q (some (.inl (0 : Int32))) S3))) (fun _ _ => False)))))))) : ma_fp X 0 d w 1113 [(0, .inr (.inr (some 30))), (1, .inr (.inr (some 64))), (2, .inr (.inr (some 94))), (3, .inr (.inr (some 125))), (4, .inl i)] [] S Q := by
  refine zf_push fm_0 dF0_1113 (v := .inr (.inr (some 64))) rfl ?_
  refine zf_push fm_0 dF0_1114 (v := .inr (.inr (some 30))) rfl ?_
  refine zf_push fm_0 dF0_1115 (v := .inl i) rfl ?_
  refine zf_push fm_0 dF0_1117 (v := .inl (1 : Int32)) rfl ?_
  refine zf_stk fm_0 dF0_1118 (st' := [.inl (i + (1 : Int32)), .inr (.inr (some 30)), .inr (.inr (some 64))]) rfl rfl ?_
  obtain ⟨hg, h⟩ := h
  refine zf_one fm_0 dF0_1119 (oo_sc hg) ?_
  refine zf_push fm_0 dF0_1120 (v := .inr (.inr (some 125))) rfl ?_
  refine zf_cw fm_0 dF0_1121 cw_143 fm_14 [.inr (.inr (some 125)), .inl (X.2 ((i + (1 : Int32))).toNatClampNeg), .inr (.inr (some 64))] [] rfl (by omega) (by omega) rfl (zf_mono h (zfi_go ?_))
  · intro v1 S2 hv
    obtain ⟨hS2, h⟩ := hv
    refine zf_sto fm_0 dF0_1124 [(5, .inl v1), (0, .inr (.inr (some 30))), (1, .inr (.inr (some 64))), (2, .inr (.inr (some 94))), (3, .inr (.inr (some 125))), (4, .inl i)] rfl rfl rfl ?_
    refine zf_push fm_0 dF0_1126 (v := .inr (.inr (some 94))) rfl ?_
    refine zf_push fm_0 dF0_1127 (v := .inr (.inr (some 30))) rfl ?_
    refine zf_push fm_0 dF0_1128 (v := .inl i) rfl ?_
    refine zf_push fm_0 dF0_1130 (v := .inl (1 : Int32)) rfl ?_
    refine zf_stk fm_0 dF0_1131 (st' := [.inl (i + (1 : Int32)), .inr (.inr (some 30)), .inr (.inr (some 94))]) rfl rfl ?_
    obtain ⟨hg, h⟩ := h
    refine zf_one fm_0 dF0_1132 (oo_sc hg) ?_
    refine zf_cv fm_0 dF0_1133 v_14_145_12 hm_255 [.inl (X.2 ((i + (1 : Int32))).toNatClampNeg)] [] rfl (zO_rt hS2 s_94 rfl) ⟨by omega, by omega⟩ rfl (zw_mono h (zi_go ?_ ?_))
    · intro v4 S3 hv
      obtain ⟨hS3, h⟩ := hv
      refine zf_sto fm_0 dF0_1136 [(6, .inl v4), (5, .inl v1), (0, .inr (.inr (some 30))), (1, .inr (.inr (some 64))), (2, .inr (.inr (some 94))), (3, .inr (.inr (some 125))), (4, .inl i)] rfl rfl rfl ?_
      refine zf_push fm_0 dF0_1138 (v := .inr (.inr (some 94))) rfl ?_
      refine zf_cv fm_0 dF0_1139 v_14_95_12 hm_164 [] [] rfl (zO_rt hS3 s_94 rfl) ⟨by omega, by omega⟩ rfl ?_
      show ma_wp X (d - 1) (w - 20) 164 0 [(0, .inr (.inr (some 94)))] [] S3 _
      refine zw_push hm_164 dX12_thrown_0 (v := .inr (.inr (some 94))) rfl ?_
      refine zw_gf hm_164 dX12_thrown_1 (v := .inl (mI S3 94 0)) (zO_is hS3 s_94) (zO_t hS3 s_94) rfl f_12_1_12 rfl ?_
      refine zw_iret hm_164 dX12_thrown_4 ?_
      show ma_fp X 0 d w 1142 [(6, .inl v4), (5, .inl v1), (0, .inr (.inr (some 30))), (1, .inr (.inr (some 64))), (2, .inr (.inr (some 94))), (3, .inr (.inr (some 125))), (4, .inl i)] [.inl (mI S3 94 0)] S3 Q
      refine zf_push fm_0 dF0_1142 (v := .inl v1) rfl ?_
      refine zf_if2 fm_0 dF0_1144 (t := 1149) rfl zc2_eq ?_ ?_
      · intro hc
        rw [if_pos hc] at h
        refine zf_push fm_0 dF0_1149 (v := .inl v1) rfl ?_
        refine zf_if0 fm_0 dF0_1151 (t := 1166) rfl zc0_ne ?_ ?_
        · intro hc
          rw [if_neg hc] at h
          refine zf_goto fm_0 dF0_1166 (t := 1461) rfl ?_
          exact zf_sub (ma_nd_of (ks := [0, 1, 2, 3, 4]) rfl (by decide)) (ma_nd_of (ks := [6, 5, 0, 1, 2, 3, 4]) rfl (by decide)) (ma_le_cons rfl (ma_le_cons rfl (ma_le_cons rfl (ma_le_cons rfl (ma_le_cons rfl (ma_le_nil _)))))) h
        · intro hc
          rw [if_pos (Classical.not_not.mp hc)] at h
          refine zf_push fm_0 dF0_1154 (v := .inr (.inr (some 125))) rfl ?_
          refine zf_push fm_0 dF0_1155 (v := .inl (0 : Int32)) rfl ?_
          refine zf_one fm_0 dF0_1156 (oo_la (zO_is hS3 s_125) (zO_h hS3 s_125) (a := 0) rfl ⟨by decide, by decide⟩) ?_
          refine zf_push fm_0 dF0_1157 (v := .inl v4) rfl ?_
          refine zf_stk fm_0 dF0_1159 (st' := [.inr (.inl (v4.toInt64)), .inr (.inl (mL S3 125 0))]) rfl rfl ?_
          refine zf_stk fm_0 dF0_1160 (st' := [.inl (lg_cmp (mL S3 125 0) (v4.toInt64))]) rfl rfl ?_
          refine zf_if0 fm_0 dF0_1161 (t := 1166) rfl zc0_eq ?_ ?_
          · intro hc
            rw [if_pos hc] at h
            refine zf_goto fm_0 dF0_1166 (t := 1461) rfl ?_
            exact zf_sub (ma_nd_of (ks := [0, 1, 2, 3, 4]) rfl (by decide)) (ma_nd_of (ks := [6, 5, 0, 1, 2, 3, 4]) rfl (by decide)) (ma_le_cons rfl (ma_le_cons rfl (ma_le_cons rfl (ma_le_cons rfl (ma_le_cons rfl (ma_le_nil _)))))) h
          · intro hc
            rw [if_neg hc] at h
            refine zf_push fm_0 dF0_1164 (v := .inl (0 : Int32)) rfl ?_
            exact zf_bret fm_0 dF0_1165 (by decide) h
      · intro hc
        rw [if_neg hc] at h
        refine zf_push fm_0 dF0_1147 (v := .inl (0 : Int32)) rfl ?_
        exact zf_bret fm_0 dF0_1148 (by decide) h
    · intro x S9 hx
      exact hx.elim
theorem gf_0_1169 {X : Nat × (Nat → Int32)} {d w : Nat} {S : ma_S} {Q : Option ma_V → ma_S → Prop} (i : Int32) (hd : 13 ≤ d) (hw : 494 ≤ w) (hS : zO S) (h : ma_fp X 15 (d - 1) (w - 22) 0 [(0, .inr (.inr (some 64))), (1, .inr (.inr (some 125)))] [] S (zfi_ (fun v1 S2 => zO S2 ∧ (ma_wp X (d - 1) (w - 21) 256 0 [(0, .inr (.inr (some 94)))] [] S2 (zi (fun v4 S3 => zO S3 ∧ (if (mI S3 94 0) = v1 then (if v1 = 0 then (if (lg_cmp (mL S3 125 0) (v4.toInt64)) = 0 then (ma_fp X 0 d w 1461 [(0, .inr (.inr (some 30))), (1, .inr (.inr (some 64))), (2, .inr (.inr (some 94))), (3, .inr (.inr (some 125))), (4, .inl i)] [] S3 Q) else (Q (some (.inl (0 : Int32))) S3)) else (ma_fp X 0 d w 1461 [(0, .inr (.inr (some 30))), (1, .inr (.inr (some 64))), (2, .inr (.inr (some 94))), (3, .inr (.inr (some 125))), (4, .inl i)] [] S3 Q)) else (Q (some (.inl (0 : Int32))) S3))) (fun _ _ => False)))))) : ma_fp X 0 d w 1169 [(0, .inr (.inr (some 30))), (1, .inr (.inr (some 64))), (2, .inr (.inr (some 94))), (3, .inr (.inr (some 125))), (4, .inl i)] [] S Q := by
  refine zf_push fm_0 dF0_1169 (v := .inr (.inr (some 64))) rfl ?_
  refine zf_push fm_0 dF0_1170 (v := .inr (.inr (some 125))) rfl ?_
  refine zf_cw fm_0 dF0_1171 cw_146 fm_15 [.inr (.inr (some 125)), .inr (.inr (some 64))] [] rfl (by omega) (by omega) rfl (zf_mono h (zfi_go ?_))
  · intro v1 S2 hv
    obtain ⟨hS2, h⟩ := hv
    refine zf_sto fm_0 dF0_1174 [(5, .inl v1), (0, .inr (.inr (some 30))), (1, .inr (.inr (some 64))), (2, .inr (.inr (some 94))), (3, .inr (.inr (some 125))), (4, .inl i)] rfl rfl rfl ?_
    refine zf_push fm_0 dF0_1176 (v := .inr (.inr (some 94))) rfl ?_
    refine zf_cv fm_0 dF0_1177 v_14_149_12 hm_256 [] [] rfl (zO_rt hS2 s_94 rfl) ⟨by omega, by omega⟩ rfl (zw_mono h (zi_go ?_ ?_))
    · intro v4 S3 hv
      obtain ⟨hS3, h⟩ := hv
      refine zf_sto fm_0 dF0_1180 [(6, .inl v4), (5, .inl v1), (0, .inr (.inr (some 30))), (1, .inr (.inr (some 64))), (2, .inr (.inr (some 94))), (3, .inr (.inr (some 125))), (4, .inl i)] rfl rfl rfl ?_
      refine zf_push fm_0 dF0_1182 (v := .inr (.inr (some 94))) rfl ?_
      refine zf_cv fm_0 dF0_1183 v_14_95_12 hm_164 [] [] rfl (zO_rt hS3 s_94 rfl) ⟨by omega, by omega⟩ rfl ?_
      show ma_wp X (d - 1) (w - 20) 164 0 [(0, .inr (.inr (some 94)))] [] S3 _
      refine zw_push hm_164 dX12_thrown_0 (v := .inr (.inr (some 94))) rfl ?_
      refine zw_gf hm_164 dX12_thrown_1 (v := .inl (mI S3 94 0)) (zO_is hS3 s_94) (zO_t hS3 s_94) rfl f_12_1_12 rfl ?_
      refine zw_iret hm_164 dX12_thrown_4 ?_
      show ma_fp X 0 d w 1186 [(6, .inl v4), (5, .inl v1), (0, .inr (.inr (some 30))), (1, .inr (.inr (some 64))), (2, .inr (.inr (some 94))), (3, .inr (.inr (some 125))), (4, .inl i)] [.inl (mI S3 94 0)] S3 Q
      refine zf_push fm_0 dF0_1186 (v := .inl v1) rfl ?_
      refine zf_if2 fm_0 dF0_1188 (t := 1193) rfl zc2_eq ?_ ?_
      · intro hc
        rw [if_pos hc] at h
        refine zf_push fm_0 dF0_1193 (v := .inl v1) rfl ?_
        refine zf_if0 fm_0 dF0_1195 (t := 1210) rfl zc0_ne ?_ ?_
        · intro hc
          rw [if_neg hc] at h
          refine zf_goto fm_0 dF0_1210 (t := 1461) rfl ?_
          exact zf_sub (ma_nd_of (ks := [0, 1, 2, 3, 4]) rfl (by decide)) (ma_nd_of (ks := [6, 5, 0, 1, 2, 3, 4]) rfl (by decide)) (ma_le_cons rfl (ma_le_cons rfl (ma_le_cons rfl (ma_le_cons rfl (ma_le_cons rfl (ma_le_nil _)))))) h
        · intro hc
          rw [if_pos (Classical.not_not.mp hc)] at h
          refine zf_push fm_0 dF0_1198 (v := .inr (.inr (some 125))) rfl ?_
          refine zf_push fm_0 dF0_1199 (v := .inl (0 : Int32)) rfl ?_
          refine zf_one fm_0 dF0_1200 (oo_la (zO_is hS3 s_125) (zO_h hS3 s_125) (a := 0) rfl ⟨by decide, by decide⟩) ?_
          refine zf_push fm_0 dF0_1201 (v := .inl v4) rfl ?_
          refine zf_stk fm_0 dF0_1203 (st' := [.inr (.inl (v4.toInt64)), .inr (.inl (mL S3 125 0))]) rfl rfl ?_
          refine zf_stk fm_0 dF0_1204 (st' := [.inl (lg_cmp (mL S3 125 0) (v4.toInt64))]) rfl rfl ?_
          refine zf_if0 fm_0 dF0_1205 (t := 1210) rfl zc0_eq ?_ ?_
          · intro hc
            rw [if_pos hc] at h
            refine zf_goto fm_0 dF0_1210 (t := 1461) rfl ?_
            exact zf_sub (ma_nd_of (ks := [0, 1, 2, 3, 4]) rfl (by decide)) (ma_nd_of (ks := [6, 5, 0, 1, 2, 3, 4]) rfl (by decide)) (ma_le_cons rfl (ma_le_cons rfl (ma_le_cons rfl (ma_le_cons rfl (ma_le_cons rfl (ma_le_nil _)))))) h
          · intro hc
            rw [if_neg hc] at h
            refine zf_push fm_0 dF0_1208 (v := .inl (0 : Int32)) rfl ?_
            exact zf_bret fm_0 dF0_1209 (by decide) h
      · intro hc
        rw [if_neg hc] at h
        refine zf_push fm_0 dF0_1191 (v := .inl (0 : Int32)) rfl ?_
        exact zf_bret fm_0 dF0_1192 (by decide) h
    · intro x S9 hx
      exact hx.elim
theorem gf_0_1213 {X : Nat × (Nat → Int32)} {d w : Nat} {S : ma_S} {Q : Option ma_V → ma_S → Prop} (i : Int32) (hd : 13 ≤ d) (hw : 494 ≤ w) (hS : zO S) (h : (0 ≤ (i + (1 : Int32)) ∧ ((i + (1 : Int32))).toNatClampNeg < X.1) ∧ (ma_fp X 16 (d - 1) (w - 23) 0 [(0, .inr (.inr (some 64))), (1, .inl (X.2 ((i + (1 : Int32))).toNatClampNeg)), (2, .inr (.inr (some 125)))] [] S (zfi_ (fun v1 S2 => zO S2 ∧ ((0 ≤ (i + (1 : Int32)) ∧ ((i + (1 : Int32))).toNatClampNeg < X.1) ∧ (ma_wp X (d - 1) (w - 23) 257 0 [(0, .inr (.inr (some 94))), (1, .inl (X.2 ((i + (1 : Int32))).toNatClampNeg))] [] S2 (zi (fun v4 S3 => zO S3 ∧ (if (mI S3 94 0) = v1 then (if v1 = 0 then (if (lg_cmp (mL S3 125 0) (v4.toInt64)) = 0 then (ma_fp X 0 d w 1461 [(0, .inr (.inr (some 30))), (1, .inr (.inr (some 64))), (2, .inr (.inr (some 94))), (3, .inr (.inr (some 125))), (4, .inl i)] [] S3 Q) else (Q (some (.inl (0 : Int32))) S3)) else (ma_fp X 0 d w 1461 [(0, .inr (.inr (some 30))), (1, .inr (.inr (some 64))), (2, .inr (.inr (some 94))), (3, .inr (.inr (some 125))), (4, .inl i)] [] S3 Q)) else (Q (some (.inl (0 : Int32))) S3))) (fun _ _ => False)))))))) : ma_fp X 0 d w 1213 [(0, .inr (.inr (some 30))), (1, .inr (.inr (some 64))), (2, .inr (.inr (some 94))), (3, .inr (.inr (some 125))), (4, .inl i)] [] S Q := by
  refine zf_push fm_0 dF0_1213 (v := .inr (.inr (some 64))) rfl ?_
  refine zf_push fm_0 dF0_1214 (v := .inr (.inr (some 30))) rfl ?_
  refine zf_push fm_0 dF0_1215 (v := .inl i) rfl ?_
  refine zf_push fm_0 dF0_1217 (v := .inl (1 : Int32)) rfl ?_
  refine zf_stk fm_0 dF0_1218 (st' := [.inl (i + (1 : Int32)), .inr (.inr (some 30)), .inr (.inr (some 64))]) rfl rfl ?_
  obtain ⟨hg, h⟩ := h
  refine zf_one fm_0 dF0_1219 (oo_sc hg) ?_
  refine zf_push fm_0 dF0_1220 (v := .inr (.inr (some 125))) rfl ?_
  refine zf_cw fm_0 dF0_1221 cw_150 fm_16 [.inr (.inr (some 125)), .inl (X.2 ((i + (1 : Int32))).toNatClampNeg), .inr (.inr (some 64))] [] rfl (by omega) (by omega) rfl (zf_mono h (zfi_go ?_))
  · intro v1 S2 hv
    obtain ⟨hS2, h⟩ := hv
    refine zf_sto fm_0 dF0_1224 [(5, .inl v1), (0, .inr (.inr (some 30))), (1, .inr (.inr (some 64))), (2, .inr (.inr (some 94))), (3, .inr (.inr (some 125))), (4, .inl i)] rfl rfl rfl ?_
    refine zf_push fm_0 dF0_1226 (v := .inr (.inr (some 94))) rfl ?_
    refine zf_push fm_0 dF0_1227 (v := .inr (.inr (some 30))) rfl ?_
    refine zf_push fm_0 dF0_1228 (v := .inl i) rfl ?_
    refine zf_push fm_0 dF0_1230 (v := .inl (1 : Int32)) rfl ?_
    refine zf_stk fm_0 dF0_1231 (st' := [.inl (i + (1 : Int32)), .inr (.inr (some 30)), .inr (.inr (some 94))]) rfl rfl ?_
    obtain ⟨hg, h⟩ := h
    refine zf_one fm_0 dF0_1232 (oo_sc hg) ?_
    refine zf_cv fm_0 dF0_1233 v_14_152_12 hm_257 [.inl (X.2 ((i + (1 : Int32))).toNatClampNeg)] [] rfl (zO_rt hS2 s_94 rfl) ⟨by omega, by omega⟩ rfl (zw_mono h (zi_go ?_ ?_))
    · intro v4 S3 hv
      obtain ⟨hS3, h⟩ := hv
      refine zf_sto fm_0 dF0_1236 [(6, .inl v4), (5, .inl v1), (0, .inr (.inr (some 30))), (1, .inr (.inr (some 64))), (2, .inr (.inr (some 94))), (3, .inr (.inr (some 125))), (4, .inl i)] rfl rfl rfl ?_
      refine zf_push fm_0 dF0_1238 (v := .inr (.inr (some 94))) rfl ?_
      refine zf_cv fm_0 dF0_1239 v_14_95_12 hm_164 [] [] rfl (zO_rt hS3 s_94 rfl) ⟨by omega, by omega⟩ rfl ?_
      show ma_wp X (d - 1) (w - 20) 164 0 [(0, .inr (.inr (some 94)))] [] S3 _
      refine zw_push hm_164 dX12_thrown_0 (v := .inr (.inr (some 94))) rfl ?_
      refine zw_gf hm_164 dX12_thrown_1 (v := .inl (mI S3 94 0)) (zO_is hS3 s_94) (zO_t hS3 s_94) rfl f_12_1_12 rfl ?_
      refine zw_iret hm_164 dX12_thrown_4 ?_
      show ma_fp X 0 d w 1242 [(6, .inl v4), (5, .inl v1), (0, .inr (.inr (some 30))), (1, .inr (.inr (some 64))), (2, .inr (.inr (some 94))), (3, .inr (.inr (some 125))), (4, .inl i)] [.inl (mI S3 94 0)] S3 Q
      refine zf_push fm_0 dF0_1242 (v := .inl v1) rfl ?_
      refine zf_if2 fm_0 dF0_1244 (t := 1249) rfl zc2_eq ?_ ?_
      · intro hc
        rw [if_pos hc] at h
        refine zf_push fm_0 dF0_1249 (v := .inl v1) rfl ?_
        refine zf_if0 fm_0 dF0_1251 (t := 1266) rfl zc0_ne ?_ ?_
        · intro hc
          rw [if_neg hc] at h
          refine zf_goto fm_0 dF0_1266 (t := 1461) rfl ?_
          exact zf_sub (ma_nd_of (ks := [0, 1, 2, 3, 4]) rfl (by decide)) (ma_nd_of (ks := [6, 5, 0, 1, 2, 3, 4]) rfl (by decide)) (ma_le_cons rfl (ma_le_cons rfl (ma_le_cons rfl (ma_le_cons rfl (ma_le_cons rfl (ma_le_nil _)))))) h
        · intro hc
          rw [if_pos (Classical.not_not.mp hc)] at h
          refine zf_push fm_0 dF0_1254 (v := .inr (.inr (some 125))) rfl ?_
          refine zf_push fm_0 dF0_1255 (v := .inl (0 : Int32)) rfl ?_
          refine zf_one fm_0 dF0_1256 (oo_la (zO_is hS3 s_125) (zO_h hS3 s_125) (a := 0) rfl ⟨by decide, by decide⟩) ?_
          refine zf_push fm_0 dF0_1257 (v := .inl v4) rfl ?_
          refine zf_stk fm_0 dF0_1259 (st' := [.inr (.inl (v4.toInt64)), .inr (.inl (mL S3 125 0))]) rfl rfl ?_
          refine zf_stk fm_0 dF0_1260 (st' := [.inl (lg_cmp (mL S3 125 0) (v4.toInt64))]) rfl rfl ?_
          refine zf_if0 fm_0 dF0_1261 (t := 1266) rfl zc0_eq ?_ ?_
          · intro hc
            rw [if_pos hc] at h
            refine zf_goto fm_0 dF0_1266 (t := 1461) rfl ?_
            exact zf_sub (ma_nd_of (ks := [0, 1, 2, 3, 4]) rfl (by decide)) (ma_nd_of (ks := [6, 5, 0, 1, 2, 3, 4]) rfl (by decide)) (ma_le_cons rfl (ma_le_cons rfl (ma_le_cons rfl (ma_le_cons rfl (ma_le_cons rfl (ma_le_nil _)))))) h
          · intro hc
            rw [if_neg hc] at h
            refine zf_push fm_0 dF0_1264 (v := .inl (0 : Int32)) rfl ?_
            exact zf_bret fm_0 dF0_1265 (by decide) h
      · intro hc
        rw [if_neg hc] at h
        refine zf_push fm_0 dF0_1247 (v := .inl (0 : Int32)) rfl ?_
        exact zf_bret fm_0 dF0_1248 (by decide) h
    · intro x S9 hx
      exact hx.elim
theorem gf_0_1269 {X : Nat × (Nat → Int32)} {d w : Nat} {S : ma_S} {Q : Option ma_V → ma_S → Prop} (i : Int32) (hd : 13 ≤ d) (hw : 494 ≤ w) (hS : zO S) (h : (0 ≤ (i + (1 : Int32)) ∧ ((i + (1 : Int32))).toNatClampNeg < X.1) ∧ ((0 ≤ (i + (2 : Int32)) ∧ ((i + (2 : Int32))).toNatClampNeg < X.1) ∧ (ma_fp X 17 (d - 1) (w - 24) 0 [(0, .inr (.inr (some 64))), (1, .inl (X.2 ((i + (1 : Int32))).toNatClampNeg)), (2, .inl (X.2 ((i + (2 : Int32))).toNatClampNeg)), (3, .inr (.inr (some 125)))] [] S (zfi_ (fun v1 S2 => zO S2 ∧ ((0 ≤ (i + (1 : Int32)) ∧ ((i + (1 : Int32))).toNatClampNeg < X.1) ∧ ((0 ≤ (i + (2 : Int32)) ∧ ((i + (2 : Int32))).toNatClampNeg < X.1) ∧ (ma_wp X (d - 1) (w - 23) 258 0 [(0, .inr (.inr (some 94))), (1, .inl (X.2 ((i + (1 : Int32))).toNatClampNeg)), (2, .inl (X.2 ((i + (2 : Int32))).toNatClampNeg))] [] S2 (zi (fun v4 S3 => zO S3 ∧ (if (mI S3 94 0) = v1 then (if v1 = 0 then (if (lg_cmp (mL S3 125 0) (v4.toInt64)) = 0 then (ma_fp X 0 d w 1461 [(0, .inr (.inr (some 30))), (1, .inr (.inr (some 64))), (2, .inr (.inr (some 94))), (3, .inr (.inr (some 125))), (4, .inl i)] [] S3 Q) else (Q (some (.inl (0 : Int32))) S3)) else (ma_fp X 0 d w 1461 [(0, .inr (.inr (some 30))), (1, .inr (.inr (some 64))), (2, .inr (.inr (some 94))), (3, .inr (.inr (some 125))), (4, .inl i)] [] S3 Q)) else (Q (some (.inl (0 : Int32))) S3))) (fun _ _ => False)))))))))) : ma_fp X 0 d w 1269 [(0, .inr (.inr (some 30))), (1, .inr (.inr (some 64))), (2, .inr (.inr (some 94))), (3, .inr (.inr (some 125))), (4, .inl i)] [] S Q := by
  refine zf_push fm_0 dF0_1269 (v := .inr (.inr (some 64))) rfl ?_
  refine zf_push fm_0 dF0_1270 (v := .inr (.inr (some 30))) rfl ?_
  refine zf_push fm_0 dF0_1271 (v := .inl i) rfl ?_
  refine zf_push fm_0 dF0_1273 (v := .inl (1 : Int32)) rfl ?_
  refine zf_stk fm_0 dF0_1274 (st' := [.inl (i + (1 : Int32)), .inr (.inr (some 30)), .inr (.inr (some 64))]) rfl rfl ?_
  obtain ⟨hg, h⟩ := h
  refine zf_one fm_0 dF0_1275 (oo_sc hg) ?_
  refine zf_push fm_0 dF0_1276 (v := .inr (.inr (some 30))) rfl ?_
  refine zf_push fm_0 dF0_1277 (v := .inl i) rfl ?_
  refine zf_push fm_0 dF0_1279 (v := .inl (2 : Int32)) rfl ?_
  refine zf_stk fm_0 dF0_1280 (st' := [.inl (i + (2 : Int32)), .inr (.inr (some 30)), .inl (X.2 ((i + (1 : Int32))).toNatClampNeg), .inr (.inr (some 64))]) rfl rfl ?_
  obtain ⟨hg, h⟩ := h
  refine zf_one fm_0 dF0_1281 (oo_sc hg) ?_
  refine zf_push fm_0 dF0_1282 (v := .inr (.inr (some 125))) rfl ?_
  refine zf_cw fm_0 dF0_1283 cw_153 fm_17 [.inr (.inr (some 125)), .inl (X.2 ((i + (2 : Int32))).toNatClampNeg), .inl (X.2 ((i + (1 : Int32))).toNatClampNeg), .inr (.inr (some 64))] [] rfl (by omega) (by omega) rfl (zf_mono h (zfi_go ?_))
  · intro v1 S2 hv
    obtain ⟨hS2, h⟩ := hv
    refine zf_sto fm_0 dF0_1286 [(5, .inl v1), (0, .inr (.inr (some 30))), (1, .inr (.inr (some 64))), (2, .inr (.inr (some 94))), (3, .inr (.inr (some 125))), (4, .inl i)] rfl rfl rfl ?_
    refine zf_push fm_0 dF0_1288 (v := .inr (.inr (some 94))) rfl ?_
    refine zf_push fm_0 dF0_1289 (v := .inr (.inr (some 30))) rfl ?_
    refine zf_push fm_0 dF0_1290 (v := .inl i) rfl ?_
    refine zf_push fm_0 dF0_1292 (v := .inl (1 : Int32)) rfl ?_
    refine zf_stk fm_0 dF0_1293 (st' := [.inl (i + (1 : Int32)), .inr (.inr (some 30)), .inr (.inr (some 94))]) rfl rfl ?_
    obtain ⟨hg, h⟩ := h
    refine zf_one fm_0 dF0_1294 (oo_sc hg) ?_
    refine zf_push fm_0 dF0_1295 (v := .inr (.inr (some 30))) rfl ?_
    refine zf_push fm_0 dF0_1296 (v := .inl i) rfl ?_
    refine zf_push fm_0 dF0_1298 (v := .inl (2 : Int32)) rfl ?_
    refine zf_stk fm_0 dF0_1299 (st' := [.inl (i + (2 : Int32)), .inr (.inr (some 30)), .inl (X.2 ((i + (1 : Int32))).toNatClampNeg), .inr (.inr (some 94))]) rfl rfl ?_
    obtain ⟨hg, h⟩ := h
    refine zf_one fm_0 dF0_1300 (oo_sc hg) ?_
    refine zf_cv fm_0 dF0_1301 v_14_155_12 hm_258 [.inl (X.2 ((i + (2 : Int32))).toNatClampNeg), .inl (X.2 ((i + (1 : Int32))).toNatClampNeg)] [] rfl (zO_rt hS2 s_94 rfl) ⟨by omega, by omega⟩ rfl (zw_mono h (zi_go ?_ ?_))
    · intro v4 S3 hv
      obtain ⟨hS3, h⟩ := hv
      refine zf_sto fm_0 dF0_1304 [(6, .inl v4), (5, .inl v1), (0, .inr (.inr (some 30))), (1, .inr (.inr (some 64))), (2, .inr (.inr (some 94))), (3, .inr (.inr (some 125))), (4, .inl i)] rfl rfl rfl ?_
      refine zf_push fm_0 dF0_1306 (v := .inr (.inr (some 94))) rfl ?_
      refine zf_cv fm_0 dF0_1307 v_14_95_12 hm_164 [] [] rfl (zO_rt hS3 s_94 rfl) ⟨by omega, by omega⟩ rfl ?_
      show ma_wp X (d - 1) (w - 20) 164 0 [(0, .inr (.inr (some 94)))] [] S3 _
      refine zw_push hm_164 dX12_thrown_0 (v := .inr (.inr (some 94))) rfl ?_
      refine zw_gf hm_164 dX12_thrown_1 (v := .inl (mI S3 94 0)) (zO_is hS3 s_94) (zO_t hS3 s_94) rfl f_12_1_12 rfl ?_
      refine zw_iret hm_164 dX12_thrown_4 ?_
      show ma_fp X 0 d w 1310 [(6, .inl v4), (5, .inl v1), (0, .inr (.inr (some 30))), (1, .inr (.inr (some 64))), (2, .inr (.inr (some 94))), (3, .inr (.inr (some 125))), (4, .inl i)] [.inl (mI S3 94 0)] S3 Q
      refine zf_push fm_0 dF0_1310 (v := .inl v1) rfl ?_
      refine zf_if2 fm_0 dF0_1312 (t := 1317) rfl zc2_eq ?_ ?_
      · intro hc
        rw [if_pos hc] at h
        refine zf_push fm_0 dF0_1317 (v := .inl v1) rfl ?_
        refine zf_if0 fm_0 dF0_1319 (t := 1334) rfl zc0_ne ?_ ?_
        · intro hc
          rw [if_neg hc] at h
          refine zf_goto fm_0 dF0_1334 (t := 1461) rfl ?_
          exact zf_sub (ma_nd_of (ks := [0, 1, 2, 3, 4]) rfl (by decide)) (ma_nd_of (ks := [6, 5, 0, 1, 2, 3, 4]) rfl (by decide)) (ma_le_cons rfl (ma_le_cons rfl (ma_le_cons rfl (ma_le_cons rfl (ma_le_cons rfl (ma_le_nil _)))))) h
        · intro hc
          rw [if_pos (Classical.not_not.mp hc)] at h
          refine zf_push fm_0 dF0_1322 (v := .inr (.inr (some 125))) rfl ?_
          refine zf_push fm_0 dF0_1323 (v := .inl (0 : Int32)) rfl ?_
          refine zf_one fm_0 dF0_1324 (oo_la (zO_is hS3 s_125) (zO_h hS3 s_125) (a := 0) rfl ⟨by decide, by decide⟩) ?_
          refine zf_push fm_0 dF0_1325 (v := .inl v4) rfl ?_
          refine zf_stk fm_0 dF0_1327 (st' := [.inr (.inl (v4.toInt64)), .inr (.inl (mL S3 125 0))]) rfl rfl ?_
          refine zf_stk fm_0 dF0_1328 (st' := [.inl (lg_cmp (mL S3 125 0) (v4.toInt64))]) rfl rfl ?_
          refine zf_if0 fm_0 dF0_1329 (t := 1334) rfl zc0_eq ?_ ?_
          · intro hc
            rw [if_pos hc] at h
            refine zf_goto fm_0 dF0_1334 (t := 1461) rfl ?_
            exact zf_sub (ma_nd_of (ks := [0, 1, 2, 3, 4]) rfl (by decide)) (ma_nd_of (ks := [6, 5, 0, 1, 2, 3, 4]) rfl (by decide)) (ma_le_cons rfl (ma_le_cons rfl (ma_le_cons rfl (ma_le_cons rfl (ma_le_cons rfl (ma_le_nil _)))))) h
          · intro hc
            rw [if_neg hc] at h
            refine zf_push fm_0 dF0_1332 (v := .inl (0 : Int32)) rfl ?_
            exact zf_bret fm_0 dF0_1333 (by decide) h
      · intro hc
        rw [if_neg hc] at h
        refine zf_push fm_0 dF0_1315 (v := .inl (0 : Int32)) rfl ?_
        exact zf_bret fm_0 dF0_1316 (by decide) h
    · intro x S9 hx
      exact hx.elim
theorem gf_0_1337 {X : Nat × (Nat → Int32)} {d w : Nat} {S : ma_S} {Q : Option ma_V → ma_S → Prop} (i : Int32) (hd : 13 ≤ d) (hw : 494 ≤ w) (hS : zO S) (h : (0 ≤ (i + (1 : Int32)) ∧ ((i + (1 : Int32))).toNatClampNeg < X.1) ∧ ((0 ≤ (i + (2 : Int32)) ∧ ((i + (2 : Int32))).toNatClampNeg < X.1) ∧ (ma_fp X 18 (d - 1) (w - 24) 0 [(0, .inr (.inr (some 64))), (1, .inl (X.2 ((i + (1 : Int32))).toNatClampNeg)), (2, .inl (X.2 ((i + (2 : Int32))).toNatClampNeg)), (3, .inr (.inr (some 125)))] [] S (zfi_ (fun v1 S2 => zO S2 ∧ ((0 ≤ (i + (1 : Int32)) ∧ ((i + (1 : Int32))).toNatClampNeg < X.1) ∧ ((0 ≤ (i + (2 : Int32)) ∧ ((i + (2 : Int32))).toNatClampNeg < X.1) ∧ (ma_wp X (d - 1) (w - 25) 259 0 [(0, .inr (.inr (some 94))), (1, .inl (X.2 ((i + (1 : Int32))).toNatClampNeg)), (2, .inl (X.2 ((i + (2 : Int32))).toNatClampNeg))] [] S2 (zi (fun v4 S3 => zO S3 ∧ (if (mI S3 94 0) = v1 then (if v1 = 0 then (if (lg_cmp (mL S3 125 0) (v4.toInt64)) = 0 then (ma_fp X 0 d w 1461 [(0, .inr (.inr (some 30))), (1, .inr (.inr (some 64))), (2, .inr (.inr (some 94))), (3, .inr (.inr (some 125))), (4, .inl i)] [] S3 Q) else (Q (some (.inl (0 : Int32))) S3)) else (ma_fp X 0 d w 1461 [(0, .inr (.inr (some 30))), (1, .inr (.inr (some 64))), (2, .inr (.inr (some 94))), (3, .inr (.inr (some 125))), (4, .inl i)] [] S3 Q)) else (Q (some (.inl (0 : Int32))) S3))) (fun _ _ => False)))))))))) : ma_fp X 0 d w 1337 [(0, .inr (.inr (some 30))), (1, .inr (.inr (some 64))), (2, .inr (.inr (some 94))), (3, .inr (.inr (some 125))), (4, .inl i)] [] S Q := by
  refine zf_push fm_0 dF0_1337 (v := .inr (.inr (some 64))) rfl ?_
  refine zf_push fm_0 dF0_1338 (v := .inr (.inr (some 30))) rfl ?_
  refine zf_push fm_0 dF0_1339 (v := .inl i) rfl ?_
  refine zf_push fm_0 dF0_1341 (v := .inl (1 : Int32)) rfl ?_
  refine zf_stk fm_0 dF0_1342 (st' := [.inl (i + (1 : Int32)), .inr (.inr (some 30)), .inr (.inr (some 64))]) rfl rfl ?_
  obtain ⟨hg, h⟩ := h
  refine zf_one fm_0 dF0_1343 (oo_sc hg) ?_
  refine zf_push fm_0 dF0_1344 (v := .inr (.inr (some 30))) rfl ?_
  refine zf_push fm_0 dF0_1345 (v := .inl i) rfl ?_
  refine zf_push fm_0 dF0_1347 (v := .inl (2 : Int32)) rfl ?_
  refine zf_stk fm_0 dF0_1348 (st' := [.inl (i + (2 : Int32)), .inr (.inr (some 30)), .inl (X.2 ((i + (1 : Int32))).toNatClampNeg), .inr (.inr (some 64))]) rfl rfl ?_
  obtain ⟨hg, h⟩ := h
  refine zf_one fm_0 dF0_1349 (oo_sc hg) ?_
  refine zf_push fm_0 dF0_1350 (v := .inr (.inr (some 125))) rfl ?_
  refine zf_cw fm_0 dF0_1351 cw_156 fm_18 [.inr (.inr (some 125)), .inl (X.2 ((i + (2 : Int32))).toNatClampNeg), .inl (X.2 ((i + (1 : Int32))).toNatClampNeg), .inr (.inr (some 64))] [] rfl (by omega) (by omega) rfl (zf_mono h (zfi_go ?_))
  · intro v1 S2 hv
    obtain ⟨hS2, h⟩ := hv
    refine zf_sto fm_0 dF0_1354 [(5, .inl v1), (0, .inr (.inr (some 30))), (1, .inr (.inr (some 64))), (2, .inr (.inr (some 94))), (3, .inr (.inr (some 125))), (4, .inl i)] rfl rfl rfl ?_
    refine zf_push fm_0 dF0_1356 (v := .inr (.inr (some 94))) rfl ?_
    refine zf_push fm_0 dF0_1357 (v := .inr (.inr (some 30))) rfl ?_
    refine zf_push fm_0 dF0_1358 (v := .inl i) rfl ?_
    refine zf_push fm_0 dF0_1360 (v := .inl (1 : Int32)) rfl ?_
    refine zf_stk fm_0 dF0_1361 (st' := [.inl (i + (1 : Int32)), .inr (.inr (some 30)), .inr (.inr (some 94))]) rfl rfl ?_
    obtain ⟨hg, h⟩ := h
    refine zf_one fm_0 dF0_1362 (oo_sc hg) ?_
    refine zf_push fm_0 dF0_1363 (v := .inr (.inr (some 30))) rfl ?_
    refine zf_push fm_0 dF0_1364 (v := .inl i) rfl ?_
    refine zf_push fm_0 dF0_1366 (v := .inl (2 : Int32)) rfl ?_
    refine zf_stk fm_0 dF0_1367 (st' := [.inl (i + (2 : Int32)), .inr (.inr (some 30)), .inl (X.2 ((i + (1 : Int32))).toNatClampNeg), .inr (.inr (some 94))]) rfl rfl ?_
    obtain ⟨hg, h⟩ := h
    refine zf_one fm_0 dF0_1368 (oo_sc hg) ?_
    refine zf_cv fm_0 dF0_1369 v_14_158_12 hm_259 [.inl (X.2 ((i + (2 : Int32))).toNatClampNeg), .inl (X.2 ((i + (1 : Int32))).toNatClampNeg)] [] rfl (zO_rt hS2 s_94 rfl) ⟨by omega, by omega⟩ rfl (zw_mono h (zi_go ?_ ?_))
    · intro v4 S3 hv
      obtain ⟨hS3, h⟩ := hv
      refine zf_sto fm_0 dF0_1372 [(6, .inl v4), (5, .inl v1), (0, .inr (.inr (some 30))), (1, .inr (.inr (some 64))), (2, .inr (.inr (some 94))), (3, .inr (.inr (some 125))), (4, .inl i)] rfl rfl rfl ?_
      refine zf_push fm_0 dF0_1374 (v := .inr (.inr (some 94))) rfl ?_
      refine zf_cv fm_0 dF0_1375 v_14_95_12 hm_164 [] [] rfl (zO_rt hS3 s_94 rfl) ⟨by omega, by omega⟩ rfl ?_
      show ma_wp X (d - 1) (w - 20) 164 0 [(0, .inr (.inr (some 94)))] [] S3 _
      refine zw_push hm_164 dX12_thrown_0 (v := .inr (.inr (some 94))) rfl ?_
      refine zw_gf hm_164 dX12_thrown_1 (v := .inl (mI S3 94 0)) (zO_is hS3 s_94) (zO_t hS3 s_94) rfl f_12_1_12 rfl ?_
      refine zw_iret hm_164 dX12_thrown_4 ?_
      show ma_fp X 0 d w 1378 [(6, .inl v4), (5, .inl v1), (0, .inr (.inr (some 30))), (1, .inr (.inr (some 64))), (2, .inr (.inr (some 94))), (3, .inr (.inr (some 125))), (4, .inl i)] [.inl (mI S3 94 0)] S3 Q
      refine zf_push fm_0 dF0_1378 (v := .inl v1) rfl ?_
      refine zf_if2 fm_0 dF0_1380 (t := 1385) rfl zc2_eq ?_ ?_
      · intro hc
        rw [if_pos hc] at h
        refine zf_push fm_0 dF0_1385 (v := .inl v1) rfl ?_
        refine zf_if0 fm_0 dF0_1387 (t := 1402) rfl zc0_ne ?_ ?_
        · intro hc
          rw [if_neg hc] at h
          refine zf_goto fm_0 dF0_1402 (t := 1461) rfl ?_
          exact zf_sub (ma_nd_of (ks := [0, 1, 2, 3, 4]) rfl (by decide)) (ma_nd_of (ks := [6, 5, 0, 1, 2, 3, 4]) rfl (by decide)) (ma_le_cons rfl (ma_le_cons rfl (ma_le_cons rfl (ma_le_cons rfl (ma_le_cons rfl (ma_le_nil _)))))) h
        · intro hc
          rw [if_pos (Classical.not_not.mp hc)] at h
          refine zf_push fm_0 dF0_1390 (v := .inr (.inr (some 125))) rfl ?_
          refine zf_push fm_0 dF0_1391 (v := .inl (0 : Int32)) rfl ?_
          refine zf_one fm_0 dF0_1392 (oo_la (zO_is hS3 s_125) (zO_h hS3 s_125) (a := 0) rfl ⟨by decide, by decide⟩) ?_
          refine zf_push fm_0 dF0_1393 (v := .inl v4) rfl ?_
          refine zf_stk fm_0 dF0_1395 (st' := [.inr (.inl (v4.toInt64)), .inr (.inl (mL S3 125 0))]) rfl rfl ?_
          refine zf_stk fm_0 dF0_1396 (st' := [.inl (lg_cmp (mL S3 125 0) (v4.toInt64))]) rfl rfl ?_
          refine zf_if0 fm_0 dF0_1397 (t := 1402) rfl zc0_eq ?_ ?_
          · intro hc
            rw [if_pos hc] at h
            refine zf_goto fm_0 dF0_1402 (t := 1461) rfl ?_
            exact zf_sub (ma_nd_of (ks := [0, 1, 2, 3, 4]) rfl (by decide)) (ma_nd_of (ks := [6, 5, 0, 1, 2, 3, 4]) rfl (by decide)) (ma_le_cons rfl (ma_le_cons rfl (ma_le_cons rfl (ma_le_cons rfl (ma_le_cons rfl (ma_le_nil _)))))) h
          · intro hc
            rw [if_neg hc] at h
            refine zf_push fm_0 dF0_1400 (v := .inl (0 : Int32)) rfl ?_
            exact zf_bret fm_0 dF0_1401 (by decide) h
      · intro hc
        rw [if_neg hc] at h
        refine zf_push fm_0 dF0_1383 (v := .inl (0 : Int32)) rfl ?_
        exact zf_bret fm_0 dF0_1384 (by decide) h
    · intro x S9 hx
      exact hx.elim
theorem gf_0_1405 {X : Nat × (Nat → Int32)} {d w : Nat} {S : ma_S} {Q : Option ma_V → ma_S → Prop} (i : Int32) (hd : 13 ≤ d) (hw : 494 ≤ w) (hS : zO S) (h : (0 ≤ (i + (1 : Int32)) ∧ ((i + (1 : Int32))).toNatClampNeg < X.1) ∧ (ma_fp X 19 (d - 1) (w - 23) 0 [(0, .inr (.inr (some 64))), (1, .inl (X.2 ((i + (1 : Int32))).toNatClampNeg)), (2, .inr (.inr (some 125)))] [] S (zfi_ (fun v1 S2 => zO S2 ∧ ((0 ≤ (i + (1 : Int32)) ∧ ((i + (1 : Int32))).toNatClampNeg < X.1) ∧ (ma_wp X (d - 1) (w - 21) 260 0 [(0, .inr (.inr (some 94))), (1, .inl (X.2 ((i + (1 : Int32))).toNatClampNeg))] [] S2 (zi (fun v4 S3 => zO S3 ∧ (if (mI S3 94 0) = v1 then (if v1 = 0 then (if (lg_cmp (mL S3 125 0) (v4.toInt64)) = 0 then (ma_fp X 0 d w 1461 [(0, .inr (.inr (some 30))), (1, .inr (.inr (some 64))), (2, .inr (.inr (some 94))), (3, .inr (.inr (some 125))), (4, .inl i)] [] S3 Q) else (Q (some (.inl (0 : Int32))) S3)) else (ma_fp X 0 d w 1461 [(0, .inr (.inr (some 30))), (1, .inr (.inr (some 64))), (2, .inr (.inr (some 94))), (3, .inr (.inr (some 125))), (4, .inl i)] [] S3 Q)) else (Q (some (.inl (0 : Int32))) S3))) (fun _ _ => False)))))))) : ma_fp X 0 d w 1405 [(0, .inr (.inr (some 30))), (1, .inr (.inr (some 64))), (2, .inr (.inr (some 94))), (3, .inr (.inr (some 125))), (4, .inl i)] [] S Q := by
  refine zf_push fm_0 dF0_1405 (v := .inr (.inr (some 64))) rfl ?_
  refine zf_push fm_0 dF0_1406 (v := .inr (.inr (some 30))) rfl ?_
  refine zf_push fm_0 dF0_1407 (v := .inl i) rfl ?_
  refine zf_push fm_0 dF0_1409 (v := .inl (1 : Int32)) rfl ?_
  refine zf_stk fm_0 dF0_1410 (st' := [.inl (i + (1 : Int32)), .inr (.inr (some 30)), .inr (.inr (some 64))]) rfl rfl ?_
  obtain ⟨hg, h⟩ := h
  refine zf_one fm_0 dF0_1411 (oo_sc hg) ?_
  refine zf_push fm_0 dF0_1412 (v := .inr (.inr (some 125))) rfl ?_
  refine zf_cw fm_0 dF0_1413 cw_159 fm_19 [.inr (.inr (some 125)), .inl (X.2 ((i + (1 : Int32))).toNatClampNeg), .inr (.inr (some 64))] [] rfl (by omega) (by omega) rfl (zf_mono h (zfi_go ?_))
  · intro v1 S2 hv
    obtain ⟨hS2, h⟩ := hv
    refine zf_sto fm_0 dF0_1416 [(5, .inl v1), (0, .inr (.inr (some 30))), (1, .inr (.inr (some 64))), (2, .inr (.inr (some 94))), (3, .inr (.inr (some 125))), (4, .inl i)] rfl rfl rfl ?_
    refine zf_push fm_0 dF0_1418 (v := .inr (.inr (some 94))) rfl ?_
    refine zf_push fm_0 dF0_1419 (v := .inr (.inr (some 30))) rfl ?_
    refine zf_push fm_0 dF0_1420 (v := .inl i) rfl ?_
    refine zf_push fm_0 dF0_1422 (v := .inl (1 : Int32)) rfl ?_
    refine zf_stk fm_0 dF0_1423 (st' := [.inl (i + (1 : Int32)), .inr (.inr (some 30)), .inr (.inr (some 94))]) rfl rfl ?_
    obtain ⟨hg, h⟩ := h
    refine zf_one fm_0 dF0_1424 (oo_sc hg) ?_
    refine zf_cv fm_0 dF0_1425 v_14_161_12 hm_260 [.inl (X.2 ((i + (1 : Int32))).toNatClampNeg)] [] rfl (zO_rt hS2 s_94 rfl) ⟨by omega, by omega⟩ rfl (zw_mono h (zi_go ?_ ?_))
    · intro v4 S3 hv
      obtain ⟨hS3, h⟩ := hv
      refine zf_sto fm_0 dF0_1428 [(6, .inl v4), (5, .inl v1), (0, .inr (.inr (some 30))), (1, .inr (.inr (some 64))), (2, .inr (.inr (some 94))), (3, .inr (.inr (some 125))), (4, .inl i)] rfl rfl rfl ?_
      refine zf_push fm_0 dF0_1430 (v := .inr (.inr (some 94))) rfl ?_
      refine zf_cv fm_0 dF0_1431 v_14_95_12 hm_164 [] [] rfl (zO_rt hS3 s_94 rfl) ⟨by omega, by omega⟩ rfl ?_
      show ma_wp X (d - 1) (w - 20) 164 0 [(0, .inr (.inr (some 94)))] [] S3 _
      refine zw_push hm_164 dX12_thrown_0 (v := .inr (.inr (some 94))) rfl ?_
      refine zw_gf hm_164 dX12_thrown_1 (v := .inl (mI S3 94 0)) (zO_is hS3 s_94) (zO_t hS3 s_94) rfl f_12_1_12 rfl ?_
      refine zw_iret hm_164 dX12_thrown_4 ?_
      show ma_fp X 0 d w 1434 [(6, .inl v4), (5, .inl v1), (0, .inr (.inr (some 30))), (1, .inr (.inr (some 64))), (2, .inr (.inr (some 94))), (3, .inr (.inr (some 125))), (4, .inl i)] [.inl (mI S3 94 0)] S3 Q
      refine zf_push fm_0 dF0_1434 (v := .inl v1) rfl ?_
      refine zf_if2 fm_0 dF0_1436 (t := 1441) rfl zc2_eq ?_ ?_
      · intro hc
        rw [if_pos hc] at h
        refine zf_push fm_0 dF0_1441 (v := .inl v1) rfl ?_
        refine zf_if0 fm_0 dF0_1443 (t := 1458) rfl zc0_ne ?_ ?_
        · intro hc
          rw [if_neg hc] at h
          refine zf_goto fm_0 dF0_1458 (t := 1461) rfl ?_
          exact zf_sub (ma_nd_of (ks := [0, 1, 2, 3, 4]) rfl (by decide)) (ma_nd_of (ks := [6, 5, 0, 1, 2, 3, 4]) rfl (by decide)) (ma_le_cons rfl (ma_le_cons rfl (ma_le_cons rfl (ma_le_cons rfl (ma_le_cons rfl (ma_le_nil _)))))) h
        · intro hc
          rw [if_pos (Classical.not_not.mp hc)] at h
          refine zf_push fm_0 dF0_1446 (v := .inr (.inr (some 125))) rfl ?_
          refine zf_push fm_0 dF0_1447 (v := .inl (0 : Int32)) rfl ?_
          refine zf_one fm_0 dF0_1448 (oo_la (zO_is hS3 s_125) (zO_h hS3 s_125) (a := 0) rfl ⟨by decide, by decide⟩) ?_
          refine zf_push fm_0 dF0_1449 (v := .inl v4) rfl ?_
          refine zf_stk fm_0 dF0_1451 (st' := [.inr (.inl (v4.toInt64)), .inr (.inl (mL S3 125 0))]) rfl rfl ?_
          refine zf_stk fm_0 dF0_1452 (st' := [.inl (lg_cmp (mL S3 125 0) (v4.toInt64))]) rfl rfl ?_
          refine zf_if0 fm_0 dF0_1453 (t := 1458) rfl zc0_eq ?_ ?_
          · intro hc
            rw [if_pos hc] at h
            refine zf_goto fm_0 dF0_1458 (t := 1461) rfl ?_
            exact zf_sub (ma_nd_of (ks := [0, 1, 2, 3, 4]) rfl (by decide)) (ma_nd_of (ks := [6, 5, 0, 1, 2, 3, 4]) rfl (by decide)) (ma_le_cons rfl (ma_le_cons rfl (ma_le_cons rfl (ma_le_cons rfl (ma_le_cons rfl (ma_le_nil _)))))) h
          · intro hc
            rw [if_neg hc] at h
            refine zf_push fm_0 dF0_1456 (v := .inl (0 : Int32)) rfl ?_
            exact zf_bret fm_0 dF0_1457 (by decide) h
      · intro hc
        rw [if_neg hc] at h
        refine zf_push fm_0 dF0_1439 (v := .inl (0 : Int32)) rfl ?_
        exact zf_bret fm_0 dF0_1440 (by decide) h
    · intro x S9 hx
      exact hx.elim
theorem gf_0_1461 {X : Nat × (Nat → Int32)} {d w : Nat} {S : ma_S} {Q : Option ma_V → ma_S → Prop} (i : Int32) (hd : 13 ≤ d) (hw : 494 ≤ w) (hS : zO S) (h : ma_fp X 0 d w 23 [(0, .inr (.inr (some 30))), (1, .inr (.inr (some 64))), (2, .inr (.inr (some 94))), (3, .inr (.inr (some 125))), (4, .inl (i + (6 : Int32)))] [] S Q) : ma_fp X 0 d w 1461 [(0, .inr (.inr (some 30))), (1, .inr (.inr (some 64))), (2, .inr (.inr (some 94))), (3, .inr (.inr (some 125))), (4, .inl i)] [] S Q := by
  refine zf_sto fm_0 dF0_1461 [(4, .inl (i + (6 : Int32))), (0, .inr (.inr (some 30))), (1, .inr (.inr (some 64))), (2, .inr (.inr (some 94))), (3, .inr (.inr (some 125)))] rfl rfl rfl ?_
  refine zf_goto fm_0 dF0_1464 (t := 23) rfl ?_
  exact zf_sub (ma_nd_of (ks := [0, 1, 2, 3, 4]) rfl (by decide)) (ma_nd_of (ks := [4, 0, 1, 2, 3]) rfl (by decide)) (ma_le_cons rfl (ma_le_cons rfl (ma_le_cons rfl (ma_le_cons rfl (ma_le_cons rfl (ma_le_nil _)))))) h
