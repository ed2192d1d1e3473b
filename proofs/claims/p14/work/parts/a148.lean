/-! from 95.k16 -/
/-! the collectors that sweep, the class (written by wip/tools/gen20.py) -/
theorem g_108_79_s_0 {X : Nat × (Nat → Int32)} {d w : Nat} {S : ma_S} {Q : Option ma_V ⊕ Nat → ma_S → Prop} (z : Int32) (b : Int32) (hd : 2 ≤ d) (hw : 45 ≤ w) (hS : zT S) (h : ma_wp X (d - 1) (w - 23) 105 0 [(0, .inr (.inr (some 79))), (1, .inl (0 : Int32))] [] S (zi (fun v2 S1 => zT S1 ∧ (ma_wp X d w 108 15 [(0, .inr (.inr (some 79))), (1, .inl z), (2, .inl b), (3, .inl (-1 : Int32)), (4, .inl (0 : Int32)), (5, .inl v2), (6, .inl (0 : Int32))] [] S1 Q)) (fun x S9 => Q (.inr x) S9))) : ma_wp X d w 108 0 [(0, .inr (.inr (some 79))), (1, .inl z), (2, .inl b)] [] S Q := by
  refine zw_push hm_108 dX8_fitByLength_0 (v := .inl (-1 : Int32)) rfl ?_
  refine zw_sto hm_108 dX8_fitByLength_1 [(3, .inl (-1 : Int32)), (0, .inr (.inr (some 79))), (1, .inl z), (2, .inl b)] rfl rfl rfl ?_
  refine zw_push hm_108 dX8_fitByLength_2 (v := .inl (0 : Int32)) rfl ?_
  refine zw_sto hm_108 dX8_fitByLength_3 [(4, .inl (0 : Int32)), (3, .inl (-1 : Int32)), (0, .inr (.inr (some 79))), (1, .inl z), (2, .inl b)] rfl rfl rfl ?_
  refine zw_push hm_108 dX8_fitByLength_5 (v := .inr (.inr (some 79))) rfl ?_
  refine zw_push hm_108 dX8_fitByLength_6 (v := .inl (0 : Int32)) rfl ?_
  refine zw_cv hm_108 dX8_fitByLength_7 v_8_40_8 hm_105 [.inl (0 : Int32)] [] rfl (zT_rt hS s_79 rfl) ⟨by omega, by omega⟩ rfl (zw_mono h (zi_go ?_ ?_))
  · intro v2 S1 hv
    obtain ⟨hS1, h⟩ := hv
    refine zw_sto hm_108 dX8_fitByLength_10 [(5, .inl v2), (4, .inl (0 : Int32)), (3, .inl (-1 : Int32)), (0, .inr (.inr (some 79))), (1, .inl z), (2, .inl b)] rfl rfl rfl ?_
    refine zw_push hm_108 dX8_fitByLength_12 (v := .inl (0 : Int32)) rfl ?_
    refine zw_sto hm_108 dX8_fitByLength_13 [(6, .inl (0 : Int32)), (5, .inl v2), (4, .inl (0 : Int32)), (3, .inl (-1 : Int32)), (0, .inr (.inr (some 79))), (1, .inl z), (2, .inl b)] rfl rfl rfl ?_
    exact zw_sub (ma_nd_of (ks := [0, 1, 2, 3, 4, 5, 6]) rfl (by decide)) (ma_nd_of (ks := [6, 5, 4, 3, 0, 1, 2]) rfl (by decide)) (ma_le_cons rfl (ma_le_cons rfl (ma_le_cons rfl (ma_le_cons rfl (ma_le_cons rfl (ma_le_cons rfl (ma_le_cons rfl (ma_le_nil _)))))))) h
  · intro x S9 hx
    exact ⟨by decide, hx⟩
theorem g_108_79_s_15 {X : Nat × (Nat → Int32)} {d w : Nat} {S : ma_S} {Q : Option ma_V ⊕ Nat → ma_S → Prop} (l1 : Int32) (l2 : Int32) (l3 : Int32) (l4 : Int32) (l5 : Int32) (l6 : Int32) (hd : 2 ≤ d) (hw : 45 ≤ w) (hS : zT S) (h : if (4500 : Int32) ≤ l6 then (Q (.inl (some (.inl l3))) S) else (if (mI S 79 2) ≤ l5 then (Q (.inl (some (.inl l3))) S) else (ma_wp X (d - 1) (w - 22) 106 0 [(0, .inr (.inr (some 79))), (1, .inl l5)] [] S (zi (fun v2 S1 => zT S1 ∧ (if (v2 - l5) < l1 then (ma_wp X (d - 1) (w - 23) 105 0 [(0, .inr (.inr (some 79))), (1, .inl v2)] [] (ma_put S1 69 12 (.inl ((mI S1 69 12) + (1 : Int32)))) (zi (fun v4 S3 => zT S3 ∧ (ma_wp X d w 108 15 [(0, .inr (.inr (some 79))), (1, .inl l1), (2, .inl l2), (3, .inl l3), (4, .inl l4), (5, .inl v4), (6, .inl (l6 + (1 : Int32)))] [] S3 Q)) (fun x S9 => Q (.inr x) S9))) else (if l3 = (-1 : Int32) then (ma_wp X (d - 1) (w - 23) 105 0 [(0, .inr (.inr (some 79))), (1, .inl v2)] [] (ma_put S1 69 12 (.inl ((mI S1 69 12) + (1 : Int32)))) (zi (fun v6 S5 => zT S5 ∧ (ma_wp X d w 108 15 [(0, .inr (.inr (some 79))), (1, .inl l1), (2, .inl l2), (3, .inl l5), (4, .inl (v2 - l5)), (5, .inl v6), (6, .inl (l6 + (1 : Int32)))] [] S5 Q)) (fun x S9 => Q (.inr x) S9))) else (if l2 = 0 then (if (v2 - l5) ≤ l4 then (ma_wp X (d - 1) (w - 23) 105 0 [(0, .inr (.inr (some 79))), (1, .inl v2)] [] (ma_put S1 69 12 (.inl ((mI S1 69 12) + (1 : Int32)))) (zi (fun v8 S7 => zT S7 ∧ (ma_wp X d w 108 15 [(0, .inr (.inr (some 79))), (1, .inl l1), (2, .inl l2), (3, .inl l3), (4, .inl l4), (5, .inl v8), (6, .inl (l6 + (1 : Int32)))] [] S7 Q)) (fun x S9 => Q (.inr x) S9))) else (ma_wp X (d - 1) (w - 23) 105 0 [(0, .inr (.inr (some 79))), (1, .inl v2)] [] (ma_put S1 69 12 (.inl ((mI S1 69 12) + (1 : Int32)))) (zi (fun v10 S9 => zT S9 ∧ (ma_wp X d w 108 15 [(0, .inr (.inr (some 79))), (1, .inl l1), (2, .inl l2), (3, .inl l5), (4, .inl (v2 - l5)), (5, .inl v10), (6, .inl (l6 + (1 : Int32)))] [] S9 Q)) (fun x S9 => Q (.inr x) S9)))) else (if l4 ≤ (v2 - l5) then (ma_wp X (d - 1) (w - 23) 105 0 [(0, .inr (.inr (some 79))), (1, .inl v2)] [] (ma_put S1 69 12 (.inl ((mI S1 69 12) + (1 : Int32)))) (zi (fun v12 S11 => zT S11 ∧ (ma_wp X d w 108 15 [(0, .inr (.inr (some 79))), (1, .inl l1), (2, .inl l2), (3, .inl l3), (4, .inl l4), (5, .inl v12), (6, .inl (l6 + (1 : Int32)))] [] S11 Q)) (fun x S9 => Q (.inr x) S9))) else (ma_wp X (d - 1) (w - 23) 105 0 [(0, .inr (.inr (some 79))), (1, .inl v2)] [] (ma_put S1 69 12 (.inl ((mI S1 69 12) + (1 : Int32)))) (zi (fun v14 S13 => zT S13 ∧ (ma_wp X d w 108 15 [(0, .inr (.inr (some 79))), (1, .inl l1), (2, .inl l2), (3, .inl l5), (4, .inl (v2 - l5)), (5, .inl v14), (6, .inl (l6 + (1 : Int32)))] [] S13 Q)) (fun x S9 => Q (.inr x) S9)))))))) (fun x S9 => Q (.inr x) S9))))) : ma_wp X d w 108 15 [(0, .inr (.inr (some 79))), (1, .inl l1), (2, .inl l2), (3, .inl l3), (4, .inl l4), (5, .inl l5), (6, .inl l6)] [] S Q := by
  refine zw_push hm_108 dX8_fitByLength_15 (v := .inl l6) rfl ?_
  refine zw_push hm_108 dX8_fitByLength_17 (v := .inl (4500 : Int32)) rfl ?_
  refine zw_if2 hm_108 dX8_fitByLength_20 (t := 113) rfl zc2_ge ?_ ?_
  · intro hc
    rw [if_pos hc] at h
    refine zw_push hm_108 dX8_fitByLength_113 (v := .inl l3) rfl ?_
    exact zw_iret hm_108 dX8_fitByLength_114 h
  · intro hc
    rw [if_neg hc] at h
    refine zw_push hm_108 dX8_fitByLength_23 (v := .inl l5) rfl ?_
    refine zw_push hm_108 dX8_fitByLength_25 (v := .inr (.inr (some 79))) rfl ?_
    refine zw_gf hm_108 dX8_fitByLength_26 (v := .inl (mI S 79 2)) (zT_is hS s_79) (zT_t hS s_79) rfl f_8_9_8 rfl ?_
    refine zw_if2 hm_108 dX8_fitByLength_29 (t := 113) rfl zc2_ge ?_ ?_
    · intro hc
      rw [if_pos hc] at h
      refine zw_push hm_108 dX8_fitByLength_113 (v := .inl l3) rfl ?_
      exact zw_iret hm_108 dX8_fitByLength_114 h
    · intro hc
      rw [if_neg hc] at h
      refine zw_push hm_108 dX8_fitByLength_32 (v := .inr (.inr (some 79))) rfl ?_
      refine zw_push hm_108 dX8_fitByLength_33 (v := .inl l5) rfl ?_
      refine zw_cv hm_108 dX8_fitByLength_35 v_8_43_8 hm_106 [.inl l5] [] rfl (zT_rt hS s_79 rfl) ⟨by omega, by omega⟩ rfl (zw_mono h (zi_go ?_ ?_))
      · intro v2 S1 hv
        obtain ⟨hS1, h⟩ := hv
        refine zw_sto hm_108 dX8_fitByLength_38 [(7, .inl v2), (0, .inr (.inr (some 79))), (1, .inl l1), (2, .inl l2), (3, .inl l3), (4, .inl l4), (5, .inl l5), (6, .inl l6)] rfl rfl rfl ?_
        refine zw_push hm_108 dX8_fitByLength_40 (v := .inl v2) rfl ?_
        refine zw_push hm_108 dX8_fitByLength_42 (v := .inl l5) rfl ?_
        refine zw_stk hm_108 dX8_fitByLength_44 (st₉ := [.inl (v2 - l5)]) rfl rfl ?_
        refine zw_sto hm_108 dX8_fitByLength_45 [(8, .inl (v2 - l5)), (7, .inl v2), (0, .inr (.inr (some 79))), (1, .inl l1), (2, .inl l2), (3, .inl l3), (4, .inl l4), (5, .inl l5), (6, .inl l6)] rfl rfl rfl ?_
        refine zw_push hm_108 dX8_fitByLength_47 (v := .inr (.inr (some 79))) rfl ?_
        refine zw_gf hm_108 dX8_fitByLength_48 (v := .inr (.inr (some 69))) (zT_is hS1 s_79) (zT_t hS1 s_79) rfl f_8_46_8 (zT_f hS1 r_79_0) ?_
        refine zw_stk hm_108 dX8_fitByLength_51 (st₉ := [.inr (.inr (some 69)), .inr (.inr (some 69))]) rfl rfl ?_
        refine zw_gf hm_108 dX8_fitByLength_52 (v := .inl (mI S1 69 12)) (zT_is hS1 s_69) (zT_t hS1 s_69) rfl f_8_67_7 rfl ?_
        refine zw_push hm_108 dX8_fitByLength_55 (v := .inl (1 : Int32)) rfl ?_
        refine zw_stk hm_108 dX8_fitByLength_56 (st₉ := [.inl ((mI S1 69 12) + (1 : Int32)), .inr (.inr (some 69))]) rfl rfl ?_
        refine zw_pf hm_108 dX8_fitByLength_57 (zT_is hS1 s_69) (zT_t hS1 s_69) p_8_67_7 zk_int ?_
        refine zw_push hm_108 dX8_fitByLength_60 (v := .inl (v2 - l5)) rfl ?_
        refine zw_push hm_108 dX8_fitByLength_62 (v := .inl l1) rfl ?_
        refine zw_if2 hm_108 dX8_fitByLength_63 (t := 99) rfl zc2_lt ?_ ?_
        · intro hc
          rw [if_pos hc] at h
          refine zw_push hm_108 dX8_fitByLength_99 (v := .inr (.inr (some 79))) rfl ?_
          refine zw_push hm_108 dX8_fitByLength_100 (v := .inl v2) rfl ?_
          refine zw_cv hm_108 dX8_fitByLength_102 v_8_40_8 hm_105 [.inl v2] [] rfl (zT_rt (zT_pi hS1) s_79 rfl) ⟨by omega, by omega⟩ rfl (zw_mono h (zi_go ?_ ?_))
          · intro v4 S3 hv
            obtain ⟨hS3, h⟩ := hv
            refine zw_sto hm_108 dX8_fitByLength_105 [(5, .inl v4), (8, .inl (v2 - l5)), (7, .inl v2), (0, .inr (.inr (some 79))), (1, .inl l1), (2, .inl l2), (3, .inl l3), (4, .inl l4), (6, .inl l6)] rfl rfl rfl ?_
            refine zw_sto hm_108 dX8_fitByLength_107 [(6, .inl (l6 + (1 : Int32))), (5, .inl v4), (8, .inl (v2 - l5)), (7, .inl v2), (0, .inr (.inr (some 79))), (1, .inl l1), (2, .inl l2), (3, .inl l3), (4, .inl l4)] rfl rfl rfl ?_
            refine zw_goto hm_108 dX8_fitByLength_110 (t := 15) rfl ?_
            exact zw_sub (ma_nd_of (ks := [0, 1, 2, 3, 4, 5, 6]) rfl (by decide)) (ma_nd_of (ks := [6, 5, 8, 7, 0, 1, 2, 3, 4]) rfl (by decide)) (ma_le_cons rfl (ma_le_cons rfl (ma_le_cons rfl (ma_le_cons rfl (ma_le_cons rfl (ma_le_cons rfl (ma_le_cons rfl (ma_le_nil _)))))))) h
          · intro x S9 hx
            exact ⟨by decide, hx⟩
        · intro hc
          rw [if_neg hc] at h
          refine zw_push hm_108 dX8_fitByLength_66 (v := .inl l3) rfl ?_
          refine zw_push hm_108 dX8_fitByLength_67 (v := .inl (-1 : Int32)) rfl ?_
          refine zw_if2 hm_108 dX8_fitByLength_68 (t := 92) rfl zc2_eq ?_ ?_
          · intro hc
            rw [if_pos hc] at h
            refine zw_push hm_108 dX8_fitByLength_92 (v := .inl l5) rfl ?_
            refine zw_sto hm_108 dX8_fitByLength_94 [(3, .inl l5), (8, .inl (v2 - l5)), (7, .inl v2), (0, .inr (.inr (some 79))), (1, .inl l1), (2, .inl l2), (4, .inl l4), (5, .inl l5), (6, .inl l6)] rfl rfl rfl ?_
            refine zw_push hm_108 dX8_fitByLength_95 (v := .inl (v2 - l5)) rfl ?_
            refine zw_sto hm_108 dX8_fitByLength_97 [(4, .inl (v2 - l5)), (3, .inl l5), (8, .inl (v2 - l5)), (7, .inl v2), (0, .inr (.inr (some 79))), (1, .inl l1), (2, .inl l2), (5, .inl l5), (6, .inl l6)] rfl rfl rfl ?_
            refine zw_push hm_108 dX8_fitByLength_99 (v := .inr (.inr (some 79))) rfl ?_
            refine zw_push hm_108 dX8_fitByLength_100 (v := .inl v2) rfl ?_
            refine zw_cv hm_108 dX8_fitByLength_102 v_8_40_8 hm_105 [.inl v2] [] rfl (zT_rt (zT_pi hS1) s_79 rfl) ⟨by omega, by omega⟩ rfl (zw_mono h (zi_go ?_ ?_))
            · intro v6 S5 hv
              obtain ⟨hS5, h⟩ := hv
              refine zw_sto hm_108 dX8_fitByLength_105 [(5, .inl v6), (4, .inl (v2 - l5)), (3, .inl l5), (8, .inl (v2 - l5)), (7, .inl v2), (0, .inr (.inr (some 79))), (1, .inl l1), (2, .inl l2), (6, .inl l6)] rfl rfl rfl ?_
              refine zw_sto hm_108 dX8_fitByLength_107 [(6, .inl (l6 + (1 : Int32))), (5, .inl v6), (4, .inl (v2 - l5)), (3, .inl l5), (8, .inl (v2 - l5)), (7, .inl v2), (0, .inr (.inr (some 79))), (1, .inl l1), (2, .inl l2)] rfl rfl rfl ?_
              refine zw_goto hm_108 dX8_fitByLength_110 (t := 15) rfl ?_
              exact zw_sub (ma_nd_of (ks := [0, 1, 2, 3, 4, 5, 6]) rfl (by decide)) (ma_nd_of (ks := [6, 5, 4, 3, 8, 7, 0, 1, 2]) rfl (by decide)) (ma_le_cons rfl (ma_le_cons rfl (ma_le_cons rfl (ma_le_cons rfl (ma_le_cons rfl (ma_le_cons rfl (ma_le_cons rfl (ma_le_nil _)))))))) h
            · intro x S9 hx
              exact ⟨by decide, hx⟩
          · intro hc
            rw [if_neg hc] at h
            refine zw_push hm_108 dX8_fitByLength_71 (v := .inl l2) rfl ?_
            refine zw_if0 hm_108 dX8_fitByLength_72 (t := 85) rfl zc0_eq ?_ ?_
            · intro hc
              rw [if_pos hc] at h
              refine zw_push hm_108 dX8_fitByLength_85 (v := .inl (v2 - l5)) rfl ?_
              refine zw_push hm_108 dX8_fitByLength_87 (v := .inl l4) rfl ?_
              refine zw_if2 hm_108 dX8_fitByLength_89 (t := 99) rfl zc2_le ?_ ?_
              · intro hc
                rw [if_pos hc] at h
                refine zw_push hm_108 dX8_fitByLength_99 (v := .inr (.inr (some 79))) rfl ?_
                refine zw_push hm_108 dX8_fitByLength_100 (v := .inl v2) rfl ?_
                refine zw_cv hm_108 dX8_fitByLength_102 v_8_40_8 hm_105 [.inl v2] [] rfl (zT_rt (zT_pi hS1) s_79 rfl) ⟨by omega, by omega⟩ rfl (zw_mono h (zi_go ?_ ?_))
                · intro v8 S7 hv
                  obtain ⟨hS7, h⟩ := hv
                  refine zw_sto hm_108 dX8_fitByLength_105 [(5, .inl v8), (8, .inl (v2 - l5)), (7, .inl v2), (0, .inr (.inr (some 79))), (1, .inl l1), (2, .inl l2), (3, .inl l3), (4, .inl l4), (6, .inl l6)] rfl rfl rfl ?_
                  refine zw_sto hm_108 dX8_fitByLength_107 [(6, .inl (l6 + (1 : Int32))), (5, .inl v8), (8, .inl (v2 - l5)), (7, .inl v2), (0, .inr (.inr (some 79))), (1, .inl l1), (2, .inl l2), (3, .inl l3), (4, .inl l4)] rfl rfl rfl ?_
                  refine zw_goto hm_108 dX8_fitByLength_110 (t := 15) rfl ?_
                  exact zw_sub (ma_nd_of (ks := [0, 1, 2, 3, 4, 5, 6]) rfl (by decide)) (ma_nd_of (ks := [6, 5, 8, 7, 0, 1, 2, 3, 4]) rfl (by decide)) (ma_le_cons rfl (ma_le_cons rfl (ma_le_cons rfl (ma_le_cons rfl (ma_le_cons rfl (ma_le_cons rfl (ma_le_cons rfl (ma_le_nil _)))))))) h
                · intro x S9 hx
                  exact ⟨by decide, hx⟩
              · intro hc
                rw [if_neg hc] at h
                refine zw_push hm_108 dX8_fitByLength_92 (v := .inl l5) rfl ?_
                refine zw_sto hm_108 dX8_fitByLength_94 [(3, .inl l5), (8, .inl (v2 - l5)), (7, .inl v2), (0, .inr (.inr (some 79))), (1, .inl l1), (2, .inl l2), (4, .inl l4), (5, .inl l5), (6, .inl l6)] rfl rfl rfl ?_
                refine zw_push hm_108 dX8_fitByLength_95 (v := .inl (v2 - l5)) rfl ?_
                refine zw_sto hm_108 dX8_fitByLength_97 [(4, .inl (v2 - l5)), (3, .inl l5), (8, .inl (v2 - l5)), (7, .inl v2), (0, .inr (.inr (some 79))), (1, .inl l1), (2, .inl l2), (5, .inl l5), (6, .inl l6)] rfl rfl rfl ?_
                refine zw_push hm_108 dX8_fitByLength_99 (v := .inr (.inr (some 79))) rfl ?_
                refine zw_push hm_108 dX8_fitByLength_100 (v := .inl v2) rfl ?_
                refine zw_cv hm_108 dX8_fitByLength_102 v_8_40_8 hm_105 [.inl v2] [] rfl (zT_rt (zT_pi hS1) s_79 rfl) ⟨by omega, by omega⟩ rfl (zw_mono h (zi_go ?_ ?_))
                · intro v10 S9 hv
                  obtain ⟨hS9, h⟩ := hv
                  refine zw_sto hm_108 dX8_fitByLength_105 [(5, .inl v10), (4, .inl (v2 - l5)), (3, .inl l5), (8, .inl (v2 - l5)), (7, .inl v2), (0, .inr (.inr (some 79))), (1, .inl l1), (2, .inl l2), (6, .inl l6)] rfl rfl rfl ?_
                  refine zw_sto hm_108 dX8_fitByLength_107 [(6, .inl (l6 + (1 : Int32))), (5, .inl v10), (4, .inl (v2 - l5)), (3, .inl l5), (8, .inl (v2 - l5)), (7, .inl v2), (0, .inr (.inr (some 79))), (1, .inl l1), (2, .inl l2)] rfl rfl rfl ?_
                  refine zw_goto hm_108 dX8_fitByLength_110 (t := 15) rfl ?_
                  exact zw_sub (ma_nd_of (ks := [0, 1, 2, 3, 4, 5, 6]) rfl (by decide)) (ma_nd_of (ks := [6, 5, 4, 3, 8, 7, 0, 1, 2]) rfl (by decide)) (ma_le_cons rfl (ma_le_cons rfl (ma_le_cons rfl (ma_le_cons rfl (ma_le_cons rfl (ma_le_cons rfl (ma_le_cons rfl (ma_le_nil _)))))))) h
                · intro x S9 hx
                  exact ⟨by decide, hx⟩
            · intro hc
              rw [if_neg hc] at h
              refine zw_push hm_108 dX8_fitByLength_75 (v := .inl (v2 - l5)) rfl ?_
              refine zw_push hm_108 dX8_fitByLength_77 (v := .inl l4) rfl ?_
              refine zw_if2 hm_108 dX8_fitByLength_79 (t := 99) rfl zc2_ge ?_ ?_
              · intro hc
                rw [if_pos hc] at h
                refine zw_push hm_108 dX8_fitByLength_99 (v := .inr (.inr (some 79))) rfl ?_
                refine zw_push hm_108 dX8_fitByLength_100 (v := .inl v2) rfl ?_
                refine zw_cv hm_108 dX8_fitByLength_102 v_8_40_8 hm_105 [.inl v2] [] rfl (zT_rt (zT_pi hS1) s_79 rfl) ⟨by omega, by omega⟩ rfl (zw_mono h (zi_go ?_ ?_))
                · intro v12 S11 hv
                  obtain ⟨hS11, h⟩ := hv
                  refine zw_sto hm_108 dX8_fitByLength_105 [(5, .inl v12), (8, .inl (v2 - l5)), (7, .inl v2), (0, .inr (.inr (some 79))), (1, .inl l1), (2, .inl l2), (3, .inl l3), (4, .inl l4), (6, .inl l6)] rfl rfl rfl ?_
                  refine zw_sto hm_108 dX8_fitByLength_107 [(6, .inl (l6 + (1 : Int32))), (5, .inl v12), (8, .inl (v2 - l5)), (7, .inl v2), (0, .inr (.inr (some 79))), (1, .inl l1), (2, .inl l2), (3, .inl l3), (4, .inl l4)] rfl rfl rfl ?_
                  refine zw_goto hm_108 dX8_fitByLength_110 (t := 15) rfl ?_
                  exact zw_sub (ma_nd_of (ks := [0, 1, 2, 3, 4, 5, 6]) rfl (by decide)) (ma_nd_of (ks := [6, 5, 8, 7, 0, 1, 2, 3, 4]) rfl (by decide)) (ma_le_cons rfl (ma_le_cons rfl (ma_le_cons rfl (ma_le_cons rfl (ma_le_cons rfl (ma_le_cons rfl (ma_le_cons rfl (ma_le_nil _)))))))) h
                · intro x S9 hx
                  exact ⟨by decide, hx⟩
              · intro hc
                rw [if_neg hc] at h
                refine zw_goto hm_108 dX8_fitByLength_82 (t := 92) rfl ?_
                refine zw_push hm_108 dX8_fitByLength_92 (v := .inl l5) rfl ?_
                refine zw_sto hm_108 dX8_fitByLength_94 [(3, .inl l5), (8, .inl (v2 - l5)), (7, .inl v2), (0, .inr (.inr (some 79))), (1, .inl l1), (2, .inl l2), (4, .inl l4), (5, .inl l5), (6, .inl l6)] rfl rfl rfl ?_
                refine zw_push hm_108 dX8_fitByLength_95 (v := .inl (v2 - l5)) rfl ?_
                refine zw_sto hm_108 dX8_fitByLength_97 [(4, .inl (v2 - l5)), (3, .inl l5), (8, .inl (v2 - l5)), (7, .inl v2), (0, .inr (.inr (some 79))), (1, .inl l1), (2, .inl l2), (5, .inl l5), (6, .inl l6)] rfl rfl rfl ?_
                refine zw_push hm_108 dX8_fitByLength_99 (v := .inr (.inr (some 79))) rfl ?_
                refine zw_push hm_108 dX8_fitByLength_100 (v := .inl v2) rfl ?_
                refine zw_cv hm_108 dX8_fitByLength_102 v_8_40_8 hm_105 [.inl v2] [] rfl (zT_rt (zT_pi hS1) s_79 rfl) ⟨by omega, by omega⟩ rfl (zw_mono h (zi_go ?_ ?_))
                · intro v14 S13 hv
                  obtain ⟨hS13, h⟩ := hv
                  refine zw_sto hm_108 dX8_fitByLength_105 [(5, .inl v14), (4, .inl (v2 - l5)), (3, .inl l5), (8, .inl (v2 - l5)), (7, .inl v2), (0, .inr (.inr (some 79))), (1, .inl l1), (2, .inl l2), (6, .inl l6)] rfl rfl rfl ?_
                  refine zw_sto hm_108 dX8_fitByLength_107 [(6, .inl (l6 + (1 : Int32))), (5, .inl v14), (4, .inl (v2 - l5)), (3, .inl l5), (8, .inl (v2 - l5)), (7, .inl v2), (0, .inr (.inr (some 79))), (1, .inl l1), (2, .inl l2)] rfl rfl rfl ?_
                  refine zw_goto hm_108 dX8_fitByLength_110 (t := 15) rfl ?_
                  exact zw_sub (ma_nd_of (ks := [0, 1, 2, 3, 4, 5, 6]) rfl (by decide)) (ma_nd_of (ks := [6, 5, 4, 3, 8, 7, 0, 1, 2]) rfl (by decide)) (ma_le_cons rfl (ma_le_cons rfl (ma_le_cons rfl (ma_le_cons rfl (ma_le_cons rfl (ma_le_cons rfl (ma_le_cons rfl (ma_le_nil _)))))))) h
                · intro x S9 hx
                  exact ⟨by decide, hx⟩
      · intro x S9 hx
        exact ⟨by decide, hx⟩
theorem lp_108_79_s_15 {X : Nat × (Nat → Int32)} {d w : Nat} {f : Nat → Nat → Int32} {r : Nat → Nat → Option Nat} {C Z N : Nat} {Q : Option ma_V ⊕ Nat → ma_S → Prop} {ab : Nat→Nat→Int32} {z : Int32} {b : Int32} (hd : 2 ≤ d) (hw : 45 ≤ w) (K : ∀ v S₉, zJ79 f r C Z N S₉ → (-1 ≤ v.toInt ∧ v.toInt ≤ 1500) → (xB S₉ (mR S₉ 70)) → (aT 79 S₉ = ab) → (v.toInt = aFl ab z.toInt b 4500 (aN ab 0) (-1) 0) → Q (.inl (some (.inl v))) S₉) : ∀ (n : Nat) (S : ma_S) (l1 : Int32) (l2 : Int32) (l3 : Int32) (l4 : Int32) (l5 : Int32) (l6 : Int32), (4500 - l6.toInt).toNat = n → zJ79 f r C Z N S → (0 ≤ l5.toInt) → (l5.toInt ≤ 1500) → (0 ≤ l6.toInt) → (-1 ≤ l3.toInt) → (l3.toInt ≤ 1500) → (xB S (mR S 70)) → (aT 79 S = ab) → (aFl ab l1.toInt l2 (4500 - l6.toInt).toNat l5.toInt l3.toInt l4.toInt = aFl ab z.toInt b 4500 (aN ab 0) (-1) 0) → ma_wp X d w 108 15 [(0, .inr (.inr (some 79))), (1, .inl l1), (2, .inl l2), (3, .inl l3), (4, .inl l4), (5, .inl l5), (6, .inl l6)] [] S Q := by
  intro n
  induction n using Nat.strongRecOn with
  | _ n IH =>
    intro S l1 l2 l3 l4 l5 l6 hmu hI  hi0 hi1 hi2 hi3 hi4 hi5 hi6 hi7
    refine g_108_79_s_15 l1 l2 l3 l4 l5 l6 (by omega) (by omega) (zG_T hI) ?_
    have li1 : (4500 : Int32).toInt = 4500 := rfl
    have b2 := i_bd l6
    refine zd (fun h3 => ?_) (fun h3 => ?_)
    · skip
      have g4 := i_le h3
      have b5 := i_bd l3
      exact K (l3) _ hI (by omega) (show xB S (mR S 70) from by first | (exact xB_x (xC_o (W := 75) hi5).2)) (show aT 79 S = ab from by first | (exact (tC (P := 79) (xC_o (W := 75) hi5).1 (fun _ => rfl) (fun _ => rfl)).trans hi6)) (show l3.toInt = aFl ab z.toInt b 4500 (aN ab 0) (-1) 0 from by first | (have r0 := congrArg Int32.toInt (show aT 79 S 87 0 = mI S 79 2 from rfl); rw [hi6] at r0; have q := (aFl_st (by omega)).symm.trans hi7; exact q))
    · skip
      have g6 := i_nle h3
      have f7 := zG_s hI (0) (1500) (c := 79) (k := 2) (by decide)
      have b8 := i_bd l5
      refine zd (fun h9 => ?_) (fun h9 => ?_)
      · skip
        have g10 := i_le h9
        have b11 := i_bd l3
        exact K (l3) _ hI (by omega) (show xB S (mR S 70) from by first | (exact xB_x (xC_o (W := 75) hi5).2)) (show aT 79 S = ab from by first | (exact (tC (P := 79) (xC_o (W := 75) hi5).1 (fun _ => rfl) (fun _ => rfl)).trans hi6)) (show l3.toInt = aFl ab z.toInt b 4500 (aN ab 0) (-1) 0 from by first | (have r0 := congrArg Int32.toInt (show aT 79 S 87 0 = mI S 79 2 from rfl); rw [hi6] at r0; have q := (aFl_st (by omega)).symm.trans hi7; exact q))
      · skip
        have g12 := i_nle h9
        refine sp_106_79_s (ab := (aT 79 S)) (l5) (by omega) (by omega) hI (show xB S (mR S 70) from by first | (exact xB_x (xC_o (W := 75) hi5).2)) (show aT 79 S = (aT 79 S) from by first | (exact rfl) | (exact hi6)) (by omega) (by omega) (fun v2 S1 eS_S1 hp_v2 rp0_S1 => zi_n ⟨(by rw [eS_S1]; exact zG_T hI), ?_⟩)
        replace eS_S1 := eS_S1.symm; subst eS_S1
        have rp0_S1 : v2.toInt = aE (aT 79 S) l5.toInt := rp0_S1
        have b13 := i_bd v2
        first | have e14 : (v2 - l5).toInt = v2.toInt - l5.toInt := i_sub (by omega) (by omega) | have b15 := i_bd (v2 - l5)
        have b16 := i_bd l1
        refine zd (fun h17 => ?_) (fun h17 => ?_)
        · skip
          have g18 := i_lt h17
          have hI19 : zJ79 f r C Z N (ma_put S 69 12 (.inl ((mI S 69 12) + (1 : Int32)))) := zG_fr hI rfl (by decide) (by decide) (by decide) trivial
          refine sp_105_79_s (ab := (aT 79 (ma_put S 69 12 (.inl ((mI S 69 12) + (1 : Int32)))))) (v2) (by omega) (by omega) hI19 (show xB (ma_put S 69 12 (.inl ((mI S 69 12) + (1 : Int32)))) (mR (ma_put S 69 12 (.inl ((mI S 69 12) + (1 : Int32)))) 70) from by first | (exact xB_x (xC_n (c := 69) (k := 12) (x := ((mI S 69 12) + (1 : Int32))) (xC_o (W := 75) hi5) ⟨by decide, Or.inl ⟨rfl, rfl⟩⟩).2)) (show aT 79 (ma_put S 69 12 (.inl ((mI S 69 12) + (1 : Int32)))) = (aT 79 (ma_put S 69 12 (.inl ((mI S 69 12) + (1 : Int32))))) from by first | (exact rfl) | (exact hi6)) (by omega) (fun v4 S3 eS_S3 hp_v4 rp0_S3 => zi_n ⟨(by rw [eS_S3]; exact zG_T hI19), ?_⟩)
          replace eS_S3 := eS_S3.symm; subst eS_S3
          have rp0_S3 : v4.toInt = aN (aT 79 (ma_put S 69 12 (.inl ((mI S 69 12) + (1 : Int32))))) v2.toInt := rp0_S3
          have b20 := i_bd l2
          have b21 := i_bd l3
          have b22 := i_bd l4
          have b23 := i_bd v4
          first | have e24 : (l6 + (1 : Int32)).toInt = l6.toInt + (1) := i_addk rfl (by omega) (by omega) | have b25 := i_bd (l6 + (1 : Int32))
          exact IH _ (by omega) _ (l1) (l2) (l3) (l4) (v4) ((l6 + (1 : Int32))) rfl hI19 (by omega) (by omega) (by omega) (by omega) (by omega) (show xB (ma_put S 69 12 (.inl ((mI S 69 12) + (1 : Int32)))) (mR (ma_put S 69 12 (.inl ((mI S 69 12) + (1 : Int32)))) 70) from by first | (exact xB_x (xC_n (c := 69) (k := 12) (x := ((mI S 69 12) + (1 : Int32))) (xC_o (W := 75) hi5) ⟨by decide, Or.inl ⟨rfl, rfl⟩⟩).2)) (show aT 79 (ma_put S 69 12 (.inl ((mI S 69 12) + (1 : Int32)))) = ab from by first | (exact (tC (P := 79) (xC_n (c := 69) (k := 12) (x := ((mI S 69 12) + (1 : Int32))) (xC_o (W := 75) hi5) ⟨by decide, Or.inl ⟨rfl, rfl⟩⟩).1 (fun _ => rfl) (fun _ => rfl)).trans hi6)) (show aFl ab (l1).toInt (l2) (4500 - ((l6 + (1 : Int32))).toInt).toNat (v4).toInt (l3).toInt (l4).toInt = aFl ab z.toInt b 4500 (aN ab 0) (-1) 0 from by first | (have r0 := congrArg Int32.toInt (show aT 79 S 87 0 = mI S 79 2 from rfl); rw [hi6] at r0; have e1 := rp0_S1; rw [hi6] at e1; have e2 := rp0_S3; rw [(tC (P := 79) (xC_n (c := 69) (k := 12) (x := ((mI S 69 12) + (1 : Int32))) (xC_o (W := 75) hi5) ⟨by decide, Or.inl ⟨rfl, rfl⟩⟩).1 (fun _ => rfl) (fun _ => rfl)), hi6, e1] at e2; rw [e2]; exact ((congrArg (fun q => aFl ab l1.toInt l2 q l5.toInt l3.toInt l4.toInt) (show (4500 - l6.toInt).toNat = (4500 - (l6 + (1 : Int32)).toInt).toNat + 1 by omega)).trans (aFl_n (by omega) (Or.inl (by omega)))).symm.trans hi7) | (have r0 := congrArg Int32.toInt (show aT 79 S 87 0 = mI S 79 2 from rfl); rw [hi6] at r0; have e1 := rp0_S1; rw [hi6] at e1; have e2 := rp0_S3; rw [(tC (P := 79) (xC_n (c := 69) (k := 12) (x := ((mI S 69 12) + (1 : Int32))) (xC_o (W := 75) hi5) ⟨by decide, Or.inl ⟨rfl, rfl⟩⟩).1 (fun _ => rfl) (fun _ => rfl)), hi6, e1] at e2; rw [e2]; exact ((congrArg (fun q => aFl ab l1.toInt l2 q l5.toInt l3.toInt l4.toInt) (show (4500 - l6.toInt).toNat = (4500 - (l6 + (1 : Int32)).toInt).toNat + 1 by omega)).trans (aFl_n (by omega) (Or.inr ⟨by omega, Or.inl ⟨by assumption, by omega⟩⟩))).symm.trans hi7) | (have r0 := congrArg Int32.toInt (show aT 79 S 87 0 = mI S 79 2 from rfl); rw [hi6] at r0; have e1 := rp0_S1; rw [hi6] at e1; have e2 := rp0_S3; rw [(tC (P := 79) (xC_n (c := 69) (k := 12) (x := ((mI S 69 12) + (1 : Int32))) (xC_o (W := 75) hi5) ⟨by decide, Or.inl ⟨rfl, rfl⟩⟩).1 (fun _ => rfl) (fun _ => rfl)), hi6, e1] at e2; rw [e2]; exact ((congrArg (fun q => aFl ab l1.toInt l2 q l5.toInt l3.toInt l4.toInt) (show (4500 - l6.toInt).toNat = (4500 - (l6 + (1 : Int32)).toInt).toNat + 1 by omega)).trans (aFl_n (by omega) (Or.inr ⟨by omega, Or.inr ⟨by assumption, by omega⟩⟩))).symm.trans hi7))
        · skip
          have g26 := i_nlt h17
          have b27 := i_bd l3
          have li28 : (-1 : Int32).toInt = -1 := rfl
          refine zd (fun h29 => ?_) (fun h29 => ?_)
          · skip
            have g30 := i_eq h29
            have hI31 : zJ79 f r C Z N (ma_put S 69 12 (.inl ((mI S 69 12) + (1 : Int32)))) := zG_fr hI rfl (by decide) (by decide) (by decide) trivial
            refine sp_105_79_s (ab := (aT 79 (ma_put S 69 12 (.inl ((mI S 69 12) + (1 : Int32)))))) (v2) (by omega) (by omega) hI31 (show xB (ma_put S 69 12 (.inl ((mI S 69 12) + (1 : Int32)))) (mR (ma_put S 69 12 (.inl ((mI S 69 12) + (1 : Int32)))) 70) from by first | (exact xB_x (xC_n (c := 69) (k := 12) (x := ((mI S 69 12) + (1 : Int32))) (xC_o (W := 75) hi5) ⟨by decide, Or.inl ⟨rfl, rfl⟩⟩).2)) (show aT 79 (ma_put S 69 12 (.inl ((mI S 69 12) + (1 : Int32)))) = (aT 79 (ma_put S 69 12 (.inl ((mI S 69 12) + (1 : Int32))))) from by first | (exact rfl) | (exact hi6)) (by omega) (fun v6 S5 eS_S5 hp_v6 rp0_S5 => zi_n ⟨(by rw [eS_S5]; exact zG_T hI31), ?_⟩)
            replace eS_S5 := eS_S5.symm; subst eS_S5
            have rp0_S5 : v6.toInt = aN (aT 79 (ma_put S 69 12 (.inl ((mI S 69 12) + (1 : Int32))))) v2.toInt := rp0_S5
            have b32 := i_bd l2
            have b33 := i_bd v6
            first | have e34 : (l6 + (1 : Int32)).toInt = l6.toInt + (1) := i_addk rfl (by omega) (by omega) | have b35 := i_bd (l6 + (1 : Int32))
            exact IH _ (by omega) _ (l1) (l2) (l5) ((v2 - l5)) (v6) ((l6 + (1 : Int32))) rfl hI31 (by omega) (by omega) (by omega) (by omega) (by omega) (show xB (ma_put S 69 12 (.inl ((mI S 69 12) + (1 : Int32)))) (mR (ma_put S 69 12 (.inl ((mI S 69 12) + (1 : Int32)))) 70) from by first | (exact xB_x (xC_n (c := 69) (k := 12) (x := ((mI S 69 12) + (1 : Int32))) (xC_o (W := 75) hi5) ⟨by decide, Or.inl ⟨rfl, rfl⟩⟩).2)) (show aT 79 (ma_put S 69 12 (.inl ((mI S 69 12) + (1 : Int32)))) = ab from by first | (exact (tC (P := 79) (xC_n (c := 69) (k := 12) (x := ((mI S 69 12) + (1 : Int32))) (xC_o (W := 75) hi5) ⟨by decide, Or.inl ⟨rfl, rfl⟩⟩).1 (fun _ => rfl) (fun _ => rfl)).trans hi6)) (show aFl ab (l1).toInt (l2) (4500 - ((l6 + (1 : Int32))).toInt).toNat (v6).toInt (l5).toInt ((v2 - l5)).toInt = aFl ab z.toInt b 4500 (aN ab 0) (-1) 0 from by first | (have r0 := congrArg Int32.toInt (show aT 79 S 87 0 = mI S 79 2 from rfl); rw [hi6] at r0; have e1 := rp0_S1; rw [hi6] at e1; have e2 := rp0_S5; rw [(tC (P := 79) (xC_n (c := 69) (k := 12) (x := ((mI S 69 12) + (1 : Int32))) (xC_o (W := 75) hi5) ⟨by decide, Or.inl ⟨rfl, rfl⟩⟩).1 (fun _ => rfl) (fun _ => rfl)), hi6, e1] at e2; rw [e2]; rw [show ((v2 - l5)).toInt = aE ab l5.toInt - l5.toInt from by omega]; exact ((congrArg (fun q => aFl ab l1.toInt l2 q l5.toInt l3.toInt l4.toInt) (show (4500 - l6.toInt).toNat = (4500 - (l6 + (1 : Int32)).toInt).toNat + 1 by omega)).trans (aFl_y (by omega) (by omega) (Or.inl (by omega)))).symm.trans hi7) | (have r0 := congrArg Int32.toInt (show aT 79 S 87 0 = mI S 79 2 from rfl); rw [hi6] at r0; have e1 := rp0_S1; rw [hi6] at e1; have e2 := rp0_S5; rw [(tC (P := 79) (xC_n (c := 69) (k := 12) (x := ((mI S 69 12) + (1 : Int32))) (xC_o (W := 75) hi5) ⟨by decide, Or.inl ⟨rfl, rfl⟩⟩).1 (fun _ => rfl) (fun _ => rfl)), hi6, e1] at e2; rw [e2]; rw [show ((v2 - l5)).toInt = aE ab l5.toInt - l5.toInt from by omega]; exact ((congrArg (fun q => aFl ab l1.toInt l2 q l5.toInt l3.toInt l4.toInt) (show (4500 - l6.toInt).toNat = (4500 - (l6 + (1 : Int32)).toInt).toNat + 1 by omega)).trans (aFl_y (by omega) (by omega) (Or.inr (Or.inl ⟨by assumption, by omega⟩)))).symm.trans hi7) | (have r0 := congrArg Int32.toInt (show aT 79 S 87 0 = mI S 79 2 from rfl); rw [hi6] at r0; have e1 := rp0_S1; rw [hi6] at e1; have e2 := rp0_S5; rw [(tC (P := 79) (xC_n (c := 69) (k := 12) (x := ((mI S 69 12) + (1 : Int32))) (xC_o (W := 75) hi5) ⟨by decide, Or.inl ⟨rfl, rfl⟩⟩).1 (fun _ => rfl) (fun _ => rfl)), hi6, e1] at e2; rw [e2]; rw [show ((v2 - l5)).toInt = aE ab l5.toInt - l5.toInt from by omega]; exact ((congrArg (fun q => aFl ab l1.toInt l2 q l5.toInt l3.toInt l4.toInt) (show (4500 - l6.toInt).toNat = (4500 - (l6 + (1 : Int32)).toInt).toNat + 1 by omega)).trans (aFl_y (by omega) (by omega) (Or.inr (Or.inr ⟨by assumption, by omega⟩)))).symm.trans hi7))
          · skip
            have g36 := i_ne h29
            have b37 := i_bd l2
            have li38 : (0 : Int32).toInt = 0 := rfl
            refine zd (fun h39 => ?_) (fun h39 => ?_)
            · skip
              have g40 := i_eq h39
              have b41 := i_bd l4
              refine zd (fun h42 => ?_) (fun h42 => ?_)
              · skip
                have g43 := i_le h42
                have hI44 : zJ79 f r C Z N (ma_put S 69 12 (.inl ((mI S 69 12) + (1 : Int32)))) := zG_fr hI rfl (by decide) (by decide) (by decide) trivial
                refine sp_105_79_s (ab := (aT 79 (ma_put S 69 12 (.inl ((mI S 69 12) + (1 : Int32)))))) (v2) (by omega) (by omega) hI44 (show xB (ma_put S 69 12 (.inl ((mI S 69 12) + (1 : Int32)))) (mR (ma_put S 69 12 (.inl ((mI S 69 12) + (1 : Int32)))) 70) from by first | (exact xB_x (xC_n (c := 69) (k := 12) (x := ((mI S 69 12) + (1 : Int32))) (xC_o (W := 75) hi5) ⟨by decide, Or.inl ⟨rfl, rfl⟩⟩).2)) (show aT 79 (ma_put S 69 12 (.inl ((mI S 69 12) + (1 : Int32)))) = (aT 79 (ma_put S 69 12 (.inl ((mI S 69 12) + (1 : Int32))))) from by first | (exact rfl) | (exact hi6)) (by omega) (fun v8 S7 eS_S7 hp_v8 rp0_S7 => zi_n ⟨(by rw [eS_S7]; exact zG_T hI44), ?_⟩)
                replace eS_S7 := eS_S7.symm; subst eS_S7
                have rp0_S7 : v8.toInt = aN (aT 79 (ma_put S 69 12 (.inl ((mI S 69 12) + (1 : Int32))))) v2.toInt := rp0_S7
                have b45 := i_bd v8
                first | have e46 : (l6 + (1 : Int32)).toInt = l6.toInt + (1) := i_addk rfl (by omega) (by omega) | have b47 := i_bd (l6 + (1 : Int32))
                exact IH _ (by omega) _ (l1) (l2) (l3) (l4) (v8) ((l6 + (1 : Int32))) rfl hI44 (by omega) (by omega) (by omega) (by omega) (by omega) (show xB (ma_put S 69 12 (.inl ((mI S 69 12) + (1 : Int32)))) (mR (ma_put S 69 12 (.inl ((mI S 69 12) + (1 : Int32)))) 70) from by first | (exact xB_x (xC_n (c := 69) (k := 12) (x := ((mI S 69 12) + (1 : Int32))) (xC_o (W := 75) hi5) ⟨by decide, Or.inl ⟨rfl, rfl⟩⟩).2)) (show aT 79 (ma_put S 69 12 (.inl ((mI S 69 12) + (1 : Int32)))) = ab from by first | (exact (tC (P := 79) (xC_n (c := 69) (k := 12) (x := ((mI S 69 12) + (1 : Int32))) (xC_o (W := 75) hi5) ⟨by decide, Or.inl ⟨rfl, rfl⟩⟩).1 (fun _ => rfl) (fun _ => rfl)).trans hi6)) (show aFl ab (l1).toInt (l2) (4500 - ((l6 + (1 : Int32))).toInt).toNat (v8).toInt (l3).toInt (l4).toInt = aFl ab z.toInt b 4500 (aN ab 0) (-1) 0 from by first | (have r0 := congrArg Int32.toInt (show aT 79 S 87 0 = mI S 79 2 from rfl); rw [hi6] at r0; have e1 := rp0_S1; rw [hi6] at e1; have e2 := rp0_S7; rw [(tC (P := 79) (xC_n (c := 69) (k := 12) (x := ((mI S 69 12) + (1 : Int32))) (xC_o (W := 75) hi5) ⟨by decide, Or.inl ⟨rfl, rfl⟩⟩).1 (fun _ => rfl) (fun _ => rfl)), hi6, e1] at e2; rw [e2]; exact ((congrArg (fun q => aFl ab l1.toInt l2 q l5.toInt l3.toInt l4.toInt) (show (4500 - l6.toInt).toNat = (4500 - (l6 + (1 : Int32)).toInt).toNat + 1 by omega)).trans (aFl_n (by omega) (Or.inl (by omega)))).symm.trans hi7) | (have r0 := congrArg Int32.toInt (show aT 79 S 87 0 = mI S 79 2 from rfl); rw [hi6] at r0; have e1 := rp0_S1; rw [hi6] at e1; have e2 := rp0_S7; rw [(tC (P := 79) (xC_n (c := 69) (k := 12) (x := ((mI S 69 12) + (1 : Int32))) (xC_o (W := 75) hi5) ⟨by decide, Or.inl ⟨rfl, rfl⟩⟩).1 (fun _ => rfl) (fun _ => rfl)), hi6, e1] at e2; rw [e2]; exact ((congrArg (fun q => aFl ab l1.toInt l2 q l5.toInt l3.toInt l4.toInt) (show (4500 - l6.toInt).toNat = (4500 - (l6 + (1 : Int32)).toInt).toNat + 1 by omega)).trans (aFl_n (by omega) (Or.inr ⟨by omega, Or.inl ⟨by assumption, by omega⟩⟩))).symm.trans hi7) | (have r0 := congrArg Int32.toInt (show aT 79 S 87 0 = mI S 79 2 from rfl); rw [hi6] at r0; have e1 := rp0_S1; rw [hi6] at e1; have e2 := rp0_S7; rw [(tC (P := 79) (xC_n (c := 69) (k := 12) (x := ((mI S 69 12) + (1 : Int32))) (xC_o (W := 75) hi5) ⟨by decide, Or.inl ⟨rfl, rfl⟩⟩).1 (fun _ => rfl) (fun _ => rfl)), hi6, e1] at e2; rw [e2]; exact ((congrArg (fun q => aFl ab l1.toInt l2 q l5.toInt l3.toInt l4.toInt) (show (4500 - l6.toInt).toNat = (4500 - (l6 + (1 : Int32)).toInt).toNat + 1 by omega)).trans (aFl_n (by omega) (Or.inr ⟨by omega, Or.inr ⟨by assumption, by omega⟩⟩))).symm.trans hi7))
              · skip
                have g48 := i_nle h42
                have hI49 : zJ79 f r C Z N (ma_put S 69 12 (.inl ((mI S 69 12) + (1 : Int32)))) := zG_fr hI rfl (by decide) (by decide) (by decide) trivial
                refine sp_105_79_s (ab := (aT 79 (ma_put S 69 12 (.inl ((mI S 69 12) + (1 : Int32)))))) (v2) (by omega) (by omega) hI49 (show xB (ma_put S 69 12 (.inl ((mI S 69 12) + (1 : Int32)))) (mR (ma_put S 69 12 (.inl ((mI S 69 12) + (1 : Int32)))) 70) from by first | (exact xB_x (xC_n (c := 69) (k := 12) (x := ((mI S 69 12) + (1 : Int32))) (xC_o (W := 75) hi5) ⟨by decide, Or.inl ⟨rfl, rfl⟩⟩).2)) (show aT 79 (ma_put S 69 12 (.inl ((mI S 69 12) + (1 : Int32)))) = (aT 79 (ma_put S 69 12 (.inl ((mI S 69 12) + (1 : Int32))))) from by first | (exact rfl) | (exact hi6)) (by omega) (fun v10 S9 eS_S9 hp_v10 rp0_S9 => zi_n ⟨(by rw [eS_S9]; exact zG_T hI49), ?_⟩)
                replace eS_S9 := eS_S9.symm; subst eS_S9
                have rp0_S9 : v10.toInt = aN (aT 79 (ma_put S 69 12 (.inl ((mI S 69 12) + (1 : Int32))))) v2.toInt := rp0_S9
                have b50 := i_bd v10
                first | have e51 : (l6 + (1 : Int32)).toInt = l6.toInt + (1) := i_addk rfl (by omega) (by omega) | have b52 := i_bd (l6 + (1 : Int32))
                exact IH _ (by omega) _ (l1) (l2) (l5) ((v2 - l5)) (v10) ((l6 + (1 : Int32))) rfl hI49 (by omega) (by omega) (by omega) (by omega) (by omega) (show xB (ma_put S 69 12 (.inl ((mI S 69 12) + (1 : Int32)))) (mR (ma_put S 69 12 (.inl ((mI S 69 12) + (1 : Int32)))) 70) from by first | (exact xB_x (xC_n (c := 69) (k := 12) (x := ((mI S 69 12) + (1 : Int32))) (xC_o (W := 75) hi5) ⟨by decide, Or.inl ⟨rfl, rfl⟩⟩).2)) (show aT 79 (ma_put S 69 12 (.inl ((mI S 69 12) + (1 : Int32)))) = ab from by first | (exact (tC (P := 79) (xC_n (c := 69) (k := 12) (x := ((mI S 69 12) + (1 : Int32))) (xC_o (W := 75) hi5) ⟨by decide, Or.inl ⟨rfl, rfl⟩⟩).1 (fun _ => rfl) (fun _ => rfl)).trans hi6)) (show aFl ab (l1).toInt (l2) (4500 - ((l6 + (1 : Int32))).toInt).toNat (v10).toInt (l5).toInt ((v2 - l5)).toInt = aFl ab z.toInt b 4500 (aN ab 0) (-1) 0 from by first | (have r0 := congrArg Int32.toInt (show aT 79 S 87 0 = mI S 79 2 from rfl); rw [hi6] at r0; have e1 := rp0_S1; rw [hi6] at e1; have e2 := rp0_S9; rw [(tC (P := 79) (xC_n (c := 69) (k := 12) (x := ((mI S 69 12) + (1 : Int32))) (xC_o (W := 75) hi5) ⟨by decide, Or.inl ⟨rfl, rfl⟩⟩).1 (fun _ => rfl) (fun _ => rfl)), hi6, e1] at e2; rw [e2]; rw [show ((v2 - l5)).toInt = aE ab l5.toInt - l5.toInt from by omega]; exact ((congrArg (fun q => aFl ab l1.toInt l2 q l5.toInt l3.toInt l4.toInt) (show (4500 - l6.toInt).toNat = (4500 - (l6 + (1 : Int32)).toInt).toNat + 1 by omega)).trans (aFl_y (by omega) (by omega) (Or.inl (by omega)))).symm.trans hi7) | (have r0 := congrArg Int32.toInt (show aT 79 S 87 0 = mI S 79 2 from rfl); rw [hi6] at r0; have e1 := rp0_S1; rw [hi6] at e1; have e2 := rp0_S9; rw [(tC (P := 79) (xC_n (c := 69) (k := 12) (x := ((mI S 69 12) + (1 : Int32))) (xC_o (W := 75) hi5) ⟨by decide, Or.inl ⟨rfl, rfl⟩⟩).1 (fun _ => rfl) (fun _ => rfl)), hi6, e1] at e2; rw [e2]; rw [show ((v2 - l5)).toInt = aE ab l5.toInt - l5.toInt from by omega]; exact ((congrArg (fun q => aFl ab l1.toInt l2 q l5.toInt l3.toInt l4.toInt) (show (4500 - l6.toInt).toNat = (4500 - (l6 + (1 : Int32)).toInt).toNat + 1 by omega)).trans (aFl_y (by omega) (by omega) (Or.inr (Or.inl ⟨by assumption, by omega⟩)))).symm.trans hi7) | (have r0 := congrArg Int32.toInt (show aT 79 S 87 0 = mI S 79 2 from rfl); rw [hi6] at r0; have e1 := rp0_S1; rw [hi6] at e1; have e2 := rp0_S9; rw [(tC (P := 79) (xC_n (c := 69) (k := 12) (x := ((mI S 69 12) + (1 : Int32))) (xC_o (W := 75) hi5) ⟨by decide, Or.inl ⟨rfl, rfl⟩⟩).1 (fun _ => rfl) (fun _ => rfl)), hi6, e1] at e2; rw [e2]; rw [show ((v2 - l5)).toInt = aE ab l5.toInt - l5.toInt from by omega]; exact ((congrArg (fun q => aFl ab l1.toInt l2 q l5.toInt l3.toInt l4.toInt) (show (4500 - l6.toInt).toNat = (4500 - (l6 + (1 : Int32)).toInt).toNat + 1 by omega)).trans (aFl_y (by omega) (by omega) (Or.inr (Or.inr ⟨by assumption, by omega⟩)))).symm.trans hi7))
            · skip
              have g53 := i_ne h39
              have b54 := i_bd l4
              refine zd (fun h55 => ?_) (fun h55 => ?_)
              · skip
                have g56 := i_le h55
                have hI57 : zJ79 f r C Z N (ma_put S 69 12 (.inl ((mI S 69 12) + (1 : Int32)))) := zG_fr hI rfl (by decide) (by decide) (by decide) trivial
                refine sp_105_79_s (ab := (aT 79 (ma_put S 69 12 (.inl ((mI S 69 12) + (1 : Int32)))))) (v2) (by omega) (by omega) hI57 (show xB (ma_put S 69 12 (.inl ((mI S 69 12) + (1 : Int32)))) (mR (ma_put S 69 12 (.inl ((mI S 69 12) + (1 : Int32)))) 70) from by first | (exact xB_x (xC_n (c := 69) (k := 12) (x := ((mI S 69 12) + (1 : Int32))) (xC_o (W := 75) hi5) ⟨by decide, Or.inl ⟨rfl, rfl⟩⟩).2)) (show aT 79 (ma_put S 69 12 (.inl ((mI S 69 12) + (1 : Int32)))) = (aT 79 (ma_put S 69 12 (.inl ((mI S 69 12) + (1 : Int32))))) from by first | (exact rfl) | (exact hi6)) (by omega) (fun v12 S11 eS_S11 hp_v12 rp0_S11 => zi_n ⟨(by rw [eS_S11]; exact zG_T hI57), ?_⟩)
                replace eS_S11 := eS_S11.symm; subst eS_S11
                have rp0_S11 : v12.toInt = aN (aT 79 (ma_put S 69 12 (.inl ((mI S 69 12) + (1 : Int32))))) v2.toInt := rp0_S11
                have b58 := i_bd v12
                first | have e59 : (l6 + (1 : Int32)).toInt = l6.toInt + (1) := i_addk rfl (by omega) (by omega) | have b60 := i_bd (l6 + (1 : Int32))
                exact IH _ (by omega) _ (l1) (l2) (l3) (l4) (v12) ((l6 + (1 : Int32))) rfl hI57 (by omega) (by omega) (by omega) (by omega) (by omega) (show xB (ma_put S 69 12 (.inl ((mI S 69 12) + (1 : Int32)))) (mR (ma_put S 69 12 (.inl ((mI S 69 12) + (1 : Int32)))) 70) from by first | (exact xB_x (xC_n (c := 69) (k := 12) (x := ((mI S 69 12) + (1 : Int32))) (xC_o (W := 75) hi5) ⟨by decide, Or.inl ⟨rfl, rfl⟩⟩).2)) (show aT 79 (ma_put S 69 12 (.inl ((mI S 69 12) + (1 : Int32)))) = ab from by first | (exact (tC (P := 79) (xC_n (c := 69) (k := 12) (x := ((mI S 69 12) + (1 : Int32))) (xC_o (W := 75) hi5) ⟨by decide, Or.inl ⟨rfl, rfl⟩⟩).1 (fun _ => rfl) (fun _ => rfl)).trans hi6)) (show aFl ab (l1).toInt (l2) (4500 - ((l6 + (1 : Int32))).toInt).toNat (v12).toInt (l3).toInt (l4).toInt = aFl ab z.toInt b 4500 (aN ab 0) (-1) 0 from by first | (have r0 := congrArg Int32.toInt (show aT 79 S 87 0 = mI S 79 2 from rfl); rw [hi6] at r0; have e1 := rp0_S1; rw [hi6] at e1; have e2 := rp0_S11; rw [(tC (P := 79) (xC_n (c := 69) (k := 12) (x := ((mI S 69 12) + (1 : Int32))) (xC_o (W := 75) hi5) ⟨by decide, Or.inl ⟨rfl, rfl⟩⟩).1 (fun _ => rfl) (fun _ => rfl)), hi6, e1] at e2; rw [e2]; exact ((congrArg (fun q => aFl ab l1.toInt l2 q l5.toInt l3.toInt l4.toInt) (show (4500 - l6.toInt).toNat = (4500 - (l6 + (1 : Int32)).toInt).toNat + 1 by omega)).trans (aFl_n (by omega) (Or.inl (by omega)))).symm.trans hi7) | (have r0 := congrArg Int32.toInt (show aT 79 S 87 0 = mI S 79 2 from rfl); rw [hi6] at r0; have e1 := rp0_S1; rw [hi6] at e1; have e2 := rp0_S11; rw [(tC (P := 79) (xC_n (c := 69) (k := 12) (x := ((mI S 69 12) + (1 : Int32))) (xC_o (W := 75) hi5) ⟨by decide, Or.inl ⟨rfl, rfl⟩⟩).1 (fun _ => rfl) (fun _ => rfl)), hi6, e1] at e2; rw [e2]; exact ((congrArg (fun q => aFl ab l1.toInt l2 q l5.toInt l3.toInt l4.toInt) (show (4500 - l6.toInt).toNat = (4500 - (l6 + (1 : Int32)).toInt).toNat + 1 by omega)).trans (aFl_n (by omega) (Or.inr ⟨by omega, Or.inl ⟨by assumption, by omega⟩⟩))).symm.trans hi7) | (have r0 := congrArg Int32.toInt (show aT 79 S 87 0 = mI S 79 2 from rfl); rw [hi6] at r0; have e1 := rp0_S1; rw [hi6] at e1; have e2 := rp0_S11; rw [(tC (P := 79) (xC_n (c := 69) (k := 12) (x := ((mI S 69 12) + (1 : Int32))) (xC_o (W := 75) hi5) ⟨by decide, Or.inl ⟨rfl, rfl⟩⟩).1 (fun _ => rfl) (fun _ => rfl)), hi6, e1] at e2; rw [e2]; exact ((congrArg (fun q => aFl ab l1.toInt l2 q l5.toInt l3.toInt l4.toInt) (show (4500 - l6.toInt).toNat = (4500 - (l6 + (1 : Int32)).toInt).toNat + 1 by omega)).trans (aFl_n (by omega) (Or.inr ⟨by omega, Or.inr ⟨by assumption, by omega⟩⟩))).symm.trans hi7))
              · skip
                have g61 := i_nle h55
                have hI62 : zJ79 f r C Z N (ma_put S 69 12 (.inl ((mI S 69 12) + (1 : Int32)))) := zG_fr hI rfl (by decide) (by decide) (by decide) trivial
                refine sp_105_79_s (ab := (aT 79 (ma_put S 69 12 (.inl ((mI S 69 12) + (1 : Int32)))))) (v2) (by omega) (by omega) hI62 (show xB (ma_put S 69 12 (.inl ((mI S 69 12) + (1 : Int32)))) (mR (ma_put S 69 12 (.inl ((mI S 69 12) + (1 : Int32)))) 70) from by first | (exact xB_x (xC_n (c := 69) (k := 12) (x := ((mI S 69 12) + (1 : Int32))) (xC_o (W := 75) hi5) ⟨by decide, Or.inl ⟨rfl, rfl⟩⟩).2)) (show aT 79 (ma_put S 69 12 (.inl ((mI S 69 12) + (1 : Int32)))) = (aT 79 (ma_put S 69 12 (.inl ((mI S 69 12) + (1 : Int32))))) from by first | (exact rfl) | (exact hi6)) (by omega) (fun v14 S13 eS_S13 hp_v14 rp0_S13 => zi_n ⟨(by rw [eS_S13]; exact zG_T hI62), ?_⟩)
                replace eS_S13 := eS_S13.symm; subst eS_S13
                have rp0_S13 : v14.toInt = aN (aT 79 (ma_put S 69 12 (.inl ((mI S 69 12) + (1 : Int32))))) v2.toInt := rp0_S13
                have b63 := i_bd v14
                first | have e64 : (l6 + (1 : Int32)).toInt = l6.toInt + (1) := i_addk rfl (by omega) (by omega) | have b65 := i_bd (l6 + (1 : Int32))
                exact IH _ (by omega) _ (l1) (l2) (l5) ((v2 - l5)) (v14) ((l6 + (1 : Int32))) rfl hI62 (by omega) (by omega) (by omega) (by omega) (by omega) (show xB (ma_put S 69 12 (.inl ((mI S 69 12) + (1 : Int32)))) (mR (ma_put S 69 12 (.inl ((mI S 69 12) + (1 : Int32)))) 70) from by first | (exact xB_x (xC_n (c := 69) (k := 12) (x := ((mI S 69 12) + (1 : Int32))) (xC_o (W := 75) hi5) ⟨by decide, Or.inl ⟨rfl, rfl⟩⟩).2)) (show aT 79 (ma_put S 69 12 (.inl ((mI S 69 12) + (1 : Int32)))) = ab from by first | (exact (tC (P := 79) (xC_n (c := 69) (k := 12) (x := ((mI S 69 12) + (1 : Int32))) (xC_o (W := 75) hi5) ⟨by decide, Or.inl ⟨rfl, rfl⟩⟩).1 (fun _ => rfl) (fun _ => rfl)).trans hi6)) (show aFl ab (l1).toInt (l2) (4500 - ((l6 + (1 : Int32))).toInt).toNat (v14).toInt (l5).toInt ((v2 - l5)).toInt = aFl ab z.toInt b 4500 (aN ab 0) (-1) 0 from by first | (have r0 := congrArg Int32.toInt (show aT 79 S 87 0 = mI S 79 2 from rfl); rw [hi6] at r0; have e1 := rp0_S1; rw [hi6] at e1; have e2 := rp0_S13; rw [(tC (P := 79) (xC_n (c := 69) (k := 12) (x := ((mI S 69 12) + (1 : Int32))) (xC_o (W := 75) hi5) ⟨by decide, Or.inl ⟨rfl, rfl⟩⟩).1 (fun _ => rfl) (fun _ => rfl)), hi6, e1] at e2; rw [e2]; rw [show ((v2 - l5)).toInt = aE ab l5.toInt - l5.toInt from by omega]; exact ((congrArg (fun q => aFl ab l1.toInt l2 q l5.toInt l3.toInt l4.toInt) (show (4500 - l6.toInt).toNat = (4500 - (l6 + (1 : Int32)).toInt).toNat + 1 by omega)).trans (aFl_y (by omega) (by omega) (Or.inl (by omega)))).symm.trans hi7) | (have r0 := congrArg Int32.toInt (show aT 79 S 87 0 = mI S 79 2 from rfl); rw [hi6] at r0; have e1 := rp0_S1; rw [hi6] at e1; have e2 := rp0_S13; rw [(tC (P := 79) (xC_n (c := 69) (k := 12) (x := ((mI S 69 12) + (1 : Int32))) (xC_o (W := 75) hi5) ⟨by decide, Or.inl ⟨rfl, rfl⟩⟩).1 (fun _ => rfl) (fun _ => rfl)), hi6, e1] at e2; rw [e2]; rw [show ((v2 - l5)).toInt = aE ab l5.toInt - l5.toInt from by omega]; exact ((congrArg (fun q => aFl ab l1.toInt l2 q l5.toInt l3.toInt l4.toInt) (show (4500 - l6.toInt).toNat = (4500 - (l6 + (1 : Int32)).toInt).toNat + 1 by omega)).trans (aFl_y (by omega) (by omega) (Or.inr (Or.inl ⟨by assumption, by omega⟩)))).symm.trans hi7) | (have r0 := congrArg Int32.toInt (show aT 79 S 87 0 = mI S 79 2 from rfl); rw [hi6] at r0; have e1 := rp0_S1; rw [hi6] at e1; have e2 := rp0_S13; rw [(tC (P := 79) (xC_n (c := 69) (k := 12) (x := ((mI S 69 12) + (1 : Int32))) (xC_o (W := 75) hi5) ⟨by decide, Or.inl ⟨rfl, rfl⟩⟩).1 (fun _ => rfl) (fun _ => rfl)), hi6, e1] at e2; rw [e2]; rw [show ((v2 - l5)).toInt = aE ab l5.toInt - l5.toInt from by omega]; exact ((congrArg (fun q => aFl ab l1.toInt l2 q l5.toInt l3.toInt l4.toInt) (show (4500 - l6.toInt).toNat = (4500 - (l6 + (1 : Int32)).toInt).toNat + 1 by omega)).trans (aFl_y (by omega) (by omega) (Or.inr (Or.inr ⟨by assumption, by omega⟩)))).symm.trans hi7))
theorem sp_108_79_s {X : Nat × (Nat → Int32)} {d w : Nat} {f : Nat → Nat → Int32} {r : Nat → Nat → Option Nat} {C Z N : Nat} {Q : Option ma_V ⊕ Nat → ma_S → Prop} {ab : Nat→Nat→Int32} {S : ma_S} (z : Int32) (b : Int32) (hd : 2 ≤ d) (hw : 45 ≤ w) (hI : zJ79 f r C Z N S) (hpre0 : xB S (mR S 70)) (hpre1 : aT 79 S = ab) (K : ∀ v S₉, zJ79 f r C Z N S₉ → (-1 ≤ v.toInt ∧ v.toInt ≤ 1500) → (xB S₉ (mR S₉ 70)) → (aT 79 S₉ = ab) → (v.toInt = aFl ab z.toInt b 4500 (aN ab 0) (-1) 0) → Q (.inl (some (.inl v))) S₉) : ma_wp X d w 108 0 [(0, .inr (.inr (some 79))), (1, .inl z), (2, .inl b)] [] S Q := by
  refine g_108_79_s_0 z b (by omega) (by omega) (zG_T hI) ?_
  have li1 : (0 : Int32).toInt = 0 := rfl
  refine sp_105_79_s (ab := (aT 79 S)) ((0 : Int32)) (by omega) (by omega) hI (show xB S (mR S 70) from by first | (exact xB_x (xC_o (W := 75) hpre0).2)) (show aT 79 S = (aT 79 S) from by first | (exact rfl) | (exact hpre1)) (by omega) (fun v2 S1 eS_S1 hp_v2 rp0_S1 => zi_n ⟨(by rw [eS_S1]; exact zG_T hI), ?_⟩)
  replace eS_S1 := eS_S1.symm; subst eS_S1
  have rp0_S1 : v2.toInt = aN (aT 79 S) (0 : Int32).toInt := rp0_S1
  have b2 := i_bd z
  have b3 := i_bd b
  have li4 : (-1 : Int32).toInt = -1 := rfl
  have b5 := i_bd v2
  exact lp_108_79_s_15 (by omega) (by omega) K _ _ (z) (b) ((-1 : Int32)) ((0 : Int32)) (v2) ((0 : Int32)) rfl hI (by omega) (by omega) (by omega) (by omega) (by omega) (show xB S (mR S 70) from by first | (exact xB_x (xC_o (W := 75) hpre0).2)) (show aT 79 S = ab from by first | (exact (tC (P := 79) (xC_o (W := 75) hpre0).1 (fun _ => rfl) (fun _ => rfl)).trans hpre1)) (show aFl ab (z).toInt (b) (4500 - ((0 : Int32)).toInt).toNat (v2).toInt ((-1 : Int32)).toInt ((0 : Int32)).toInt = aFl ab z.toInt b 4500 (aN ab 0) (-1) 0 from by first | (have q := rp0_S1; rw [show (0 : Int32).toInt = 0 from rfl] at q; rw [← hpre1, ← q]; rfl))

