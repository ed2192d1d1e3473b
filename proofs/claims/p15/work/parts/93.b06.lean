/-! collectors, by what they keep (written by wip/tools/gen93b.py) -/
theorem g_108_87_0 {X : Nat × (Nat → Int32)} {d w : Nat} {S : ma_S} {Q : Option ma_V ⊕ Nat → ma_S → Prop} (n : Int32) (b : Int32) (hd : 2 ≤ d) (hw : 45 ≤ w) (hS : zT S) (h : ma_wp X (d - 1) (w - 23) 105 0 [(0, .inr (.inr (some 87))), (1, .inl (0 : Int32))] [] S (zi (fun v2 S1 => zT S1 ∧ (ma_wp X d w 108 15 [(0, .inr (.inr (some 87))), (1, .inl n), (2, .inl b), (3, .inl (-1 : Int32)), (4, .inl (0 : Int32)), (5, .inl v2), (6, .inl (0 : Int32))] [] S1 Q)) (fun x S9 => Q (.inr x) S9))) : ma_wp X d w 108 0 [(0, .inr (.inr (some 87))), (1, .inl n), (2, .inl b)] [] S Q := by
  refine zw_push hm_108 dX8_fitByLength_0 (v := .inl (-1 : Int32)) rfl ?_
  refine zw_sto hm_108 dX8_fitByLength_1 [(3, .inl (-1 : Int32)), (0, .inr (.inr (some 87))), (1, .inl n), (2, .inl b)] rfl rfl rfl ?_
  refine zw_push hm_108 dX8_fitByLength_2 (v := .inl (0 : Int32)) rfl ?_
  refine zw_sto hm_108 dX8_fitByLength_3 [(4, .inl (0 : Int32)), (3, .inl (-1 : Int32)), (0, .inr (.inr (some 87))), (1, .inl n), (2, .inl b)] rfl rfl rfl ?_
  refine zw_push hm_108 dX8_fitByLength_5 (v := .inr (.inr (some 87))) rfl ?_
  refine zw_push hm_108 dX8_fitByLength_6 (v := .inl (0 : Int32)) rfl ?_
  refine zw_cv hm_108 dX8_fitByLength_7 v_8_40_6 hm_105 [.inl (0 : Int32)] [] rfl (zT_rt hS s_87 rfl) ⟨by omega, by omega⟩ rfl (zw_mono h (zi_go ?_ ?_))
  · intro v2 S1 hv
    obtain ⟨hS1, h⟩ := hv
    refine zw_sto hm_108 dX8_fitByLength_10 [(5, .inl v2), (4, .inl (0 : Int32)), (3, .inl (-1 : Int32)), (0, .inr (.inr (some 87))), (1, .inl n), (2, .inl b)] rfl rfl rfl ?_
    refine zw_push hm_108 dX8_fitByLength_12 (v := .inl (0 : Int32)) rfl ?_
    refine zw_sto hm_108 dX8_fitByLength_13 [(6, .inl (0 : Int32)), (5, .inl v2), (4, .inl (0 : Int32)), (3, .inl (-1 : Int32)), (0, .inr (.inr (some 87))), (1, .inl n), (2, .inl b)] rfl rfl rfl ?_
    exact zw_sub (ma_nd_of (ks := [0, 1, 2, 3, 4, 5, 6]) rfl (by decide)) (ma_nd_of (ks := [6, 5, 4, 3, 0, 1, 2]) rfl (by decide)) (ma_le_cons rfl (ma_le_cons rfl (ma_le_cons rfl (ma_le_cons rfl (ma_le_cons rfl (ma_le_cons rfl (ma_le_cons rfl (ma_le_nil _)))))))) h
  · intro x S9 hx
    exact ⟨by decide, hx⟩
theorem g_108_87_15 {X : Nat × (Nat → Int32)} {d w : Nat} {S : ma_S} {Q : Option ma_V ⊕ Nat → ma_S → Prop} (l1 : Int32) (l2 : Int32) (l3 : Int32) (l4 : Int32) (l5 : Int32) (l6 : Int32) (hd : 2 ≤ d) (hw : 45 ≤ w) (hS : zT S) (h : if (4500 : Int32) ≤ l6 then (Q (.inl (some (.inl l3))) S) else (if (mI S 87 0) ≤ l5 then (Q (.inl (some (.inl l3))) S) else (ma_wp X (d - 1) (w - 22) 106 0 [(0, .inr (.inr (some 87))), (1, .inl l5)] [] S (zi (fun v2 S1 => zT S1 ∧ (if (v2 - l5) < l1 then (ma_wp X (d - 1) (w - 23) 105 0 [(0, .inr (.inr (some 87))), (1, .inl v2)] [] (ma_put S1 69 12 (.inl ((mI S1 69 12) + (1 : Int32)))) (zi (fun v4 S3 => zT S3 ∧ (ma_wp X d w 108 15 [(0, .inr (.inr (some 87))), (1, .inl l1), (2, .inl l2), (3, .inl l3), (4, .inl l4), (5, .inl v4), (6, .inl (l6 + (1 : Int32)))] [] S3 Q)) (fun x S9 => Q (.inr x) S9))) else (if l3 = (-1 : Int32) then (ma_wp X (d - 1) (w - 23) 105 0 [(0, .inr (.inr (some 87))), (1, .inl v2)] [] (ma_put S1 69 12 (.inl ((mI S1 69 12) + (1 : Int32)))) (zi (fun v6 S5 => zT S5 ∧ (ma_wp X d w 108 15 [(0, .inr (.inr (some 87))), (1, .inl l1), (2, .inl l2), (3, .inl l5), (4, .inl (v2 - l5)), (5, .inl v6), (6, .inl (l6 + (1 : Int32)))] [] S5 Q)) (fun x S9 => Q (.inr x) S9))) else (if l2 = 0 then (if (v2 - l5) ≤ l4 then (ma_wp X (d - 1) (w - 23) 105 0 [(0, .inr (.inr (some 87))), (1, .inl v2)] [] (ma_put S1 69 12 (.inl ((mI S1 69 12) + (1 : Int32)))) (zi (fun v8 S7 => zT S7 ∧ (ma_wp X d w 108 15 [(0, .inr (.inr (some 87))), (1, .inl l1), (2, .inl l2), (3, .inl l3), (4, .inl l4), (5, .inl v8), (6, .inl (l6 + (1 : Int32)))] [] S7 Q)) (fun x S9 => Q (.inr x) S9))) else (ma_wp X (d - 1) (w - 23) 105 0 [(0, .inr (.inr (some 87))), (1, .inl v2)] [] (ma_put S1 69 12 (.inl ((mI S1 69 12) + (1 : Int32)))) (zi (fun v10 S9 => zT S9 ∧ (ma_wp X d w 108 15 [(0, .inr (.inr (some 87))), (1, .inl l1), (2, .inl l2), (3, .inl l5), (4, .inl (v2 - l5)), (5, .inl v10), (6, .inl (l6 + (1 : Int32)))] [] S9 Q)) (fun x S9 => Q (.inr x) S9)))) else (if l4 ≤ (v2 - l5) then (ma_wp X (d - 1) (w - 23) 105 0 [(0, .inr (.inr (some 87))), (1, .inl v2)] [] (ma_put S1 69 12 (.inl ((mI S1 69 12) + (1 : Int32)))) (zi (fun v12 S11 => zT S11 ∧ (ma_wp X d w 108 15 [(0, .inr (.inr (some 87))), (1, .inl l1), (2, .inl l2), (3, .inl l3), (4, .inl l4), (5, .inl v12), (6, .inl (l6 + (1 : Int32)))] [] S11 Q)) (fun x S9 => Q (.inr x) S9))) else (ma_wp X (d - 1) (w - 23) 105 0 [(0, .inr (.inr (some 87))), (1, .inl v2)] [] (ma_put S1 69 12 (.inl ((mI S1 69 12) + (1 : Int32)))) (zi (fun v14 S13 => zT S13 ∧ (ma_wp X d w 108 15 [(0, .inr (.inr (some 87))), (1, .inl l1), (2, .inl l2), (3, .inl l5), (4, .inl (v2 - l5)), (5, .inl v14), (6, .inl (l6 + (1 : Int32)))] [] S13 Q)) (fun x S9 => Q (.inr x) S9)))))))) (fun x S9 => Q (.inr x) S9))))) : ma_wp X d w 108 15 [(0, .inr (.inr (some 87))), (1, .inl l1), (2, .inl l2), (3, .inl l3), (4, .inl l4), (5, .inl l5), (6, .inl l6)] [] S Q := by
  refine zw_push hm_108 dX8_fitByLength_15 (v := .inl l6) rfl ?_
  refine zw_push hm_108 dX8_fitByLength_17 (v := .inl (4500 : Int32)) rfl ?_
  refine zw_if2 hm_108 dX8_fitByLength_20 (t := 113) rfl zc2_ge ?_ ?_
  · intro hc
    rw [if_pos hc] at h
    refine zw_push hm_108 dX8_fitByLength_113 (v := .inl l3) rfl ?_
    exact zw_iret hm_108 dX8_fitByLength_114 h
  · intro hc
    rw [if_neg hc] at h
    refine zw_push hm_108 dX8_fitByLength_23 (v := .inl l5) rfl ?_
    refine zw_push hm_108 dX8_fitByLength_25 (v := .inr (.inr (some 87))) rfl ?_
    refine zw_gf hm_108 dX8_fitByLength_26 (v := .inl (mI S 87 0)) (zT_is hS s_87) (zT_t hS s_87) rfl f_8_9_6 rfl ?_
    refine zw_if2 hm_108 dX8_fitByLength_29 (t := 113) rfl zc2_ge ?_ ?_
    · intro hc
      rw [if_pos hc] at h
      refine zw_push hm_108 dX8_fitByLength_113 (v := .inl l3) rfl ?_
      exact zw_iret hm_108 dX8_fitByLength_114 h
    · intro hc
      rw [if_neg hc] at h
      refine zw_push hm_108 dX8_fitByLength_32 (v := .inr (.inr (some 87))) rfl ?_
      refine zw_push hm_108 dX8_fitByLength_33 (v := .inl l5) rfl ?_
      refine zw_cv hm_108 dX8_fitByLength_35 v_8_43_6 hm_106 [.inl l5] [] rfl (zT_rt hS s_87 rfl) ⟨by omega, by omega⟩ rfl (zw_mono h (zi_go ?_ ?_))
      · intro v2 S1 hv
        obtain ⟨hS1, h⟩ := hv
        refine zw_sto hm_108 dX8_fitByLength_38 [(7, .inl v2), (0, .inr (.inr (some 87))), (1, .inl l1), (2, .inl l2), (3, .inl l3), (4, .inl l4), (5, .inl l5), (6, .inl l6)] rfl rfl rfl ?_
        refine zw_push hm_108 dX8_fitByLength_40 (v := .inl v2) rfl ?_
        refine zw_push hm_108 dX8_fitByLength_42 (v := .inl l5) rfl ?_
        refine zw_stk hm_108 dX8_fitByLength_44 (st' := [.inl (v2 - l5)]) rfl rfl ?_
        refine zw_sto hm_108 dX8_fitByLength_45 [(8, .inl (v2 - l5)), (7, .inl v2), (0, .inr (.inr (some 87))), (1, .inl l1), (2, .inl l2), (3, .inl l3), (4, .inl l4), (5, .inl l5), (6, .inl l6)] rfl rfl rfl ?_
        refine zw_push hm_108 dX8_fitByLength_47 (v := .inr (.inr (some 87))) rfl ?_
        refine zw_gf hm_108 dX8_fitByLength_48 (v := .inr (.inr (some 69))) (zT_is hS1 s_87) (zT_t hS1 s_87) rfl f_8_46_6 (zT_f hS1 r_87_3) ?_
        refine zw_stk hm_108 dX8_fitByLength_51 (st' := [.inr (.inr (some 69)), .inr (.inr (some 69))]) rfl rfl ?_
        refine zw_gf hm_108 dX8_fitByLength_52 (v := .inl (mI S1 69 12)) (zT_is hS1 s_69) (zT_t hS1 s_69) rfl f_8_67_7 rfl ?_
        refine zw_push hm_108 dX8_fitByLength_55 (v := .inl (1 : Int32)) rfl ?_
        refine zw_stk hm_108 dX8_fitByLength_56 (st' := [.inl ((mI S1 69 12) + (1 : Int32)), .inr (.inr (some 69))]) rfl rfl ?_
        refine zw_pf hm_108 dX8_fitByLength_57 (zT_is hS1 s_69) (zT_t hS1 s_69) p_8_67_7 zk_int ?_
        refine zw_push hm_108 dX8_fitByLength_60 (v := .inl (v2 - l5)) rfl ?_
        refine zw_push hm_108 dX8_fitByLength_62 (v := .inl l1) rfl ?_
        refine zw_if2 hm_108 dX8_fitByLength_63 (t := 99) rfl zc2_lt ?_ ?_
        · intro hc
          rw [if_pos hc] at h
          refine zw_push hm_108 dX8_fitByLength_99 (v := .inr (.inr (some 87))) rfl ?_
          refine zw_push hm_108 dX8_fitByLength_100 (v := .inl v2) rfl ?_
          refine zw_cv hm_108 dX8_fitByLength_102 v_8_40_6 hm_105 [.inl v2] [] rfl (zT_rt (zT_pi hS1) s_87 rfl) ⟨by omega, by omega⟩ rfl (zw_mono h (zi_go ?_ ?_))
          · intro v4 S3 hv
            obtain ⟨hS3, h⟩ := hv
            refine zw_sto hm_108 dX8_fitByLength_105 [(5, .inl v4), (8, .inl (v2 - l5)), (7, .inl v2), (0, .inr (.inr (some 87))), (1, .inl l1), (2, .inl l2), (3, .inl l3), (4, .inl l4), (6, .inl l6)] rfl rfl rfl ?_
            refine zw_sto hm_108 dX8_fitByLength_107 [(6, .inl (l6 + (1 : Int32))), (5, .inl v4), (8, .inl (v2 - l5)), (7, .inl v2), (0, .inr (.inr (some 87))), (1, .inl l1), (2, .inl l2), (3, .inl l3), (4, .inl l4)] rfl rfl rfl ?_
            refine zw_goto hm_108 dX8_fitByLength_110 (t := 15) rfl ?_
            exact zw_sub (ma_nd_of (ks := [0, 1, 2, 3, 4, 5, 6]) rfl (by decide)) (ma_nd_of (ks := [6, 5, 8, 7, 0, 1, 2, 3, 4]) rfl (by decide)) (ma_le_cons rfl (ma_le_cons rfl (ma_le_cons rfl (ma_le_cons rfl (ma_le_cons rfl (ma_le_cons rfl (ma_le_cons rfl (ma_le_nil _)))))))) h
          · intro x S9 hx
            exact ⟨by decide, hx⟩
        · intro hc
          rw [if_neg hc] at h
          refine zw_push hm_108 dX8_fitByLength_66 (v := .inl l3) rfl ?_
          refine zw_push hm_108 dX8_fitByLength_67 (v := .inl (-1 : Int32)) rfl ?_
          refine zw_if2 hm_108 dX8_fitByLength_68 (t := 92) rfl zc2_eq ?_ ?_
          · intro hc
            rw [if_pos hc] at h
            refine zw_push hm_108 dX8_fitByLength_92 (v := .inl l5) rfl ?_
            refine zw_sto hm_108 dX8_fitByLength_94 [(3, .inl l5), (8, .inl (v2 - l5)), (7, .inl v2), (0, .inr (.inr (some 87))), (1, .inl l1), (2, .inl l2), (4, .inl l4), (5, .inl l5), (6, .inl l6)] rfl rfl rfl ?_
            refine zw_push hm_108 dX8_fitByLength_95 (v := .inl (v2 - l5)) rfl ?_
            refine zw_sto hm_108 dX8_fitByLength_97 [(4, .inl (v2 - l5)), (3, .inl l5), (8, .inl (v2 - l5)), (7, .inl v2), (0, .inr (.inr (some 87))), (1, .inl l1), (2, .inl l2), (5, .inl l5), (6, .inl l6)] rfl rfl rfl ?_
            refine zw_push hm_108 dX8_fitByLength_99 (v := .inr (.inr (some 87))) rfl ?_
            refine zw_push hm_108 dX8_fitByLength_100 (v := .inl v2) rfl ?_
            refine zw_cv hm_108 dX8_fitByLength_102 v_8_40_6 hm_105 [.inl v2] [] rfl (zT_rt (zT_pi hS1) s_87 rfl) ⟨by omega, by omega⟩ rfl (zw_mono h (zi_go ?_ ?_))
            · intro v6 S5 hv
              obtain ⟨hS5, h⟩ := hv
              refine zw_sto hm_108 dX8_fitByLength_105 [(5, .inl v6), (4, .inl (v2 - l5)), (3, .inl l5), (8, .inl (v2 - l5)), (7, .inl v2), (0, .inr (.inr (some 87))), (1, .inl l1), (2, .inl l2), (6, .inl l6)] rfl rfl rfl ?_
              refine zw_sto hm_108 dX8_fitByLength_107 [(6, .inl (l6 + (1 : Int32))), (5, .inl v6), (4, .inl (v2 - l5)), (3, .inl l5), (8, .inl (v2 - l5)), (7, .inl v2), (0, .inr (.inr (some 87))), (1, .inl l1), (2, .inl l2)] rfl rfl rfl ?_
              refine zw_goto hm_108 dX8_fitByLength_110 (t := 15) rfl ?_
              exact zw_sub (ma_nd_of (ks := [0, 1, 2, 3, 4, 5, 6]) rfl (by decide)) (ma_nd_of (ks := [6, 5, 4, 3, 8, 7, 0, 1, 2]) rfl (by decide)) (ma_le_cons rfl (ma_le_cons rfl (ma_le_cons rfl (ma_le_cons rfl (ma_le_cons rfl (ma_le_cons rfl (ma_le_cons rfl (ma_le_nil _)))))))) h
            · intro x S9 hx
              exact ⟨by decide, hx⟩
          · intro hc
            rw [if_neg hc] at h
            refine zw_push hm_108 dX8_fitByLength_71 (v := .inl l2) rfl ?_
            refine zw_if0 hm_108 dX8_fitByLength_72 (t := 85) rfl zc0_eq ?_ ?_
            · intro hc
              rw [if_pos hc] at h
              refine zw_push hm_108 dX8_fitByLength_85 (v := .inl (v2 - l5)) rfl ?_
              refine zw_push hm_108 dX8_fitByLength_87 (v := .inl l4) rfl ?_
              refine zw_if2 hm_108 dX8_fitByLength_89 (t := 99) rfl zc2_le ?_ ?_
              · intro hc
                rw [if_pos hc] at h
                refine zw_push hm_108 dX8_fitByLength_99 (v := .inr (.inr (some 87))) rfl ?_
                refine zw_push hm_108 dX8_fitByLength_100 (v := .inl v2) rfl ?_
                refine zw_cv hm_108 dX8_fitByLength_102 v_8_40_6 hm_105 [.inl v2] [] rfl (zT_rt (zT_pi hS1) s_87 rfl) ⟨by omega, by omega⟩ rfl (zw_mono h (zi_go ?_ ?_))
                · intro v8 S7 hv
                  obtain ⟨hS7, h⟩ := hv
                  refine zw_sto hm_108 dX8_fitByLength_105 [(5, .inl v8), (8, .inl (v2 - l5)), (7, .inl v2), (0, .inr (.inr (some 87))), (1, .inl l1), (2, .inl l2), (3, .inl l3), (4, .inl l4), (6, .inl l6)] rfl rfl rfl ?_
                  refine zw_sto hm_108 dX8_fitByLength_107 [(6, .inl (l6 + (1 : Int32))), (5, .inl v8), (8, .inl (v2 - l5)), (7, .inl v2), (0, .inr (.inr (some 87))), (1, .inl l1), (2, .inl l2), (3, .inl l3), (4, .inl l4)] rfl rfl rfl ?_
                  refine zw_goto hm_108 dX8_fitByLength_110 (t := 15) rfl ?_
                  exact zw_sub (ma_nd_of (ks := [0, 1, 2, 3, 4, 5, 6]) rfl (by decide)) (ma_nd_of (ks := [6, 5, 8, 7, 0, 1, 2, 3, 4]) rfl (by decide)) (ma_le_cons rfl (ma_le_cons rfl (ma_le_cons rfl (ma_le_cons rfl (ma_le_cons rfl (ma_le_cons rfl (ma_le_cons rfl (ma_le_nil _)))))))) h
                · intro x S9 hx
                  exact ⟨by decide, hx⟩
              · intro hc
                rw [if_neg hc] at h
                refine zw_push hm_108 dX8_fitByLength_92 (v := .inl l5) rfl ?_
                refine zw_sto hm_108 dX8_fitByLength_94 [(3, .inl l5), (8, .inl (v2 - l5)), (7, .inl v2), (0, .inr (.inr (some 87))), (1, .inl l1), (2, .inl l2), (4, .inl l4), (5, .inl l5), (6, .inl l6)] rfl rfl rfl ?_
                refine zw_push hm_108 dX8_fitByLength_95 (v := .inl (v2 - l5)) rfl ?_
                refine zw_sto hm_108 dX8_fitByLength_97 [(4, .inl (v2 - l5)), (3, .inl l5), (8, .inl (v2 - l5)), (7, .inl v2), (0, .inr (.inr (some 87))), (1, .inl l1), (2, .inl l2), (5, .inl l5), (6, .inl l6)] rfl rfl rfl ?_
                refine zw_push hm_108 dX8_fitByLength_99 (v := .inr (.inr (some 87))) rfl ?_
                refine zw_push hm_108 dX8_fitByLength_100 (v := .inl v2) rfl ?_
                refine zw_cv hm_108 dX8_fitByLength_102 v_8_40_6 hm_105 [.inl v2] [] rfl (zT_rt (zT_pi hS1) s_87 rfl) ⟨by omega, by omega⟩ rfl (zw_mono h (zi_go ?_ ?_))
                · intro v10 S9 hv
                  obtain ⟨hS9, h⟩ := hv
                  refine zw_sto hm_108 dX8_fitByLength_105 [(5, .inl v10), (4, .inl (v2 - l5)), (3, .inl l5), (8, .inl (v2 - l5)), (7, .inl v2), (0, .inr (.inr (some 87))), (1, .inl l1), (2, .inl l2), (6, .inl l6)] rfl rfl rfl ?_
                  refine zw_sto hm_108 dX8_fitByLength_107 [(6, .inl (l6 + (1 : Int32))), (5, .inl v10), (4, .inl (v2 - l5)), (3, .inl l5), (8, .inl (v2 - l5)), (7, .inl v2), (0, .inr (.inr (some 87))), (1, .inl l1), (2, .inl l2)] rfl rfl rfl ?_
                  refine zw_goto hm_108 dX8_fitByLength_110 (t := 15) rfl ?_
                  exact zw_sub (ma_nd_of (ks := [0, 1, 2, 3, 4, 5, 6]) rfl (by decide)) (ma_nd_of (ks := [6, 5, 4, 3, 8, 7, 0, 1, 2]) rfl (by decide)) (ma_le_cons rfl (ma_le_cons rfl (ma_le_cons rfl (ma_le_cons rfl (ma_le_cons rfl (ma_le_cons rfl (ma_le_cons rfl (ma_le_nil _)))))))) h
                · intro x S9 hx
                  exact ⟨by decide, hx⟩
            · intro hc
              rw [if_neg hc] at h
              refine zw_push hm_108 dX8_fitByLength_75 (v := .inl (v2 - l5)) rfl ?_
              refine zw_push hm_108 dX8_fitByLength_77 (v := .inl l4) rfl ?_
              refine zw_if2 hm_108 dX8_fitByLength_79 (t := 99) rfl zc2_ge ?_ ?_
              · intro hc
                rw [if_pos hc] at h
                refine zw_push hm_108 dX8_fitByLength_99 (v := .inr (.inr (some 87))) rfl ?_
                refine zw_push hm_108 dX8_fitByLength_100 (v := .inl v2) rfl ?_
                refine zw_cv hm_108 dX8_fitByLength_102 v_8_40_6 hm_105 [.inl v2] [] rfl (zT_rt (zT_pi hS1) s_87 rfl) ⟨by omega, by omega⟩ rfl (zw_mono h (zi_go ?_ ?_))
                · intro v12 S11 hv
                  obtain ⟨hS11, h⟩ := hv
                  refine zw_sto hm_108 dX8_fitByLength_105 [(5, .inl v12), (8, .inl (v2 - l5)), (7, .inl v2), (0, .inr (.inr (some 87))), (1, .inl l1), (2, .inl l2), (3, .inl l3), (4, .inl l4), (6, .inl l6)] rfl rfl rfl ?_
                  refine zw_sto hm_108 dX8_fitByLength_107 [(6, .inl (l6 + (1 : Int32))), (5, .inl v12), (8, .inl (v2 - l5)), (7, .inl v2), (0, .inr (.inr (some 87))), (1, .inl l1), (2, .inl l2), (3, .inl l3), (4, .inl l4)] rfl rfl rfl ?_
                  refine zw_goto hm_108 dX8_fitByLength_110 (t := 15) rfl ?_
                  exact zw_sub (ma_nd_of (ks := [0, 1, 2, 3, 4, 5, 6]) rfl (by decide)) (ma_nd_of (ks := [6, 5, 8, 7, 0, 1, 2, 3, 4]) rfl (by decide)) (ma_le_cons rfl (ma_le_cons rfl (ma_le_cons rfl (ma_le_cons rfl (ma_le_cons rfl (ma_le_cons rfl (ma_le_cons rfl (ma_le_nil _)))))))) h
                · intro x S9 hx
                  exact ⟨by decide, hx⟩
              · intro hc
                rw [if_neg hc] at h
                refine zw_goto hm_108 dX8_fitByLength_82 (t := 92) rfl ?_
                refine zw_push hm_108 dX8_fitByLength_92 (v := .inl l5) rfl ?_
                refine zw_sto hm_108 dX8_fitByLength_94 [(3, .inl l5), (8, .inl (v2 - l5)), (7, .inl v2), (0, .inr (.inr (some 87))), (1, .inl l1), (2, .inl l2), (4, .inl l4), (5, .inl l5), (6, .inl l6)] rfl rfl rfl ?_
                refine zw_push hm_108 dX8_fitByLength_95 (v := .inl (v2 - l5)) rfl ?_
                refine zw_sto hm_108 dX8_fitByLength_97 [(4, .inl (v2 - l5)), (3, .inl l5), (8, .inl (v2 - l5)), (7, .inl v2), (0, .inr (.inr (some 87))), (1, .inl l1), (2, .inl l2), (5, .inl l5), (6, .inl l6)] rfl rfl rfl ?_
                refine zw_push hm_108 dX8_fitByLength_99 (v := .inr (.inr (some 87))) rfl ?_
                refine zw_push hm_108 dX8_fitByLength_100 (v := .inl v2) rfl ?_
                refine zw_cv hm_108 dX8_fitByLength_102 v_8_40_6 hm_105 [.inl v2] [] rfl (zT_rt (zT_pi hS1) s_87 rfl) ⟨by omega, by omega⟩ rfl (zw_mono h (zi_go ?_ ?_))
                · intro v14 S13 hv
                  obtain ⟨hS13, h⟩ := hv
                  refine zw_sto hm_108 dX8_fitByLength_105 [(5, .inl v14), (4, .inl (v2 - l5)), (3, .inl l5), (8, .inl (v2 - l5)), (7, .inl v2), (0, .inr (.inr (some 87))), (1, .inl l1), (2, .inl l2), (6, .inl l6)] rfl rfl rfl ?_
                  refine zw_sto hm_108 dX8_fitByLength_107 [(6, .inl (l6 + (1 : Int32))), (5, .inl v14), (4, .inl (v2 - l5)), (3, .inl l5), (8, .inl (v2 - l5)), (7, .inl v2), (0, .inr (.inr (some 87))), (1, .inl l1), (2, .inl l2)] rfl rfl rfl ?_
                  refine zw_goto hm_108 dX8_fitByLength_110 (t := 15) rfl ?_
                  exact zw_sub (ma_nd_of (ks := [0, 1, 2, 3, 4, 5, 6]) rfl (by decide)) (ma_nd_of (ks := [6, 5, 4, 3, 8, 7, 0, 1, 2]) rfl (by decide)) (ma_le_cons rfl (ma_le_cons rfl (ma_le_cons rfl (ma_le_cons rfl (ma_le_cons rfl (ma_le_cons rfl (ma_le_cons rfl (ma_le_nil _)))))))) h
                · intro x S9 hx
                  exact ⟨by decide, hx⟩
      · intro x S9 hx
        exact ⟨by decide, hx⟩
theorem lp_108_87_15 {X : Nat × (Nat → Int32)} {d w : Nat} {f : Nat → Nat → Int32} {r : Nat → Nat → Option Nat} {C Z N : Nat} {Q : Option ma_V ⊕ Nat → ma_S → Prop} (hd : 2 ≤ d) (hw : 45 ≤ w) (K : ∀ v S', zJ87 f r C Z N S' → (-1 ≤ v.toInt ∧ v.toInt ≤ 300000) → Q (.inl (some (.inl v))) S') : ∀ (n : Nat) (S : ma_S) (l1 : Int32) (l2 : Int32) (l3 : Int32) (l4 : Int32) (l5 : Int32) (l6 : Int32), (4500 - l6.toInt).toNat = n → zJ87 f r C Z N S → (0 ≤ l5.toInt) → (l5.toInt ≤ 300000) → (0 ≤ l6.toInt) → (-1 ≤ l3.toInt) → (l3.toInt ≤ 300000) → ma_wp X d w 108 15 [(0, .inr (.inr (some 87))), (1, .inl l1), (2, .inl l2), (3, .inl l3), (4, .inl l4), (5, .inl l5), (6, .inl l6)] [] S Q := by
  intro n
  induction n using Nat.strongRecOn with
  | _ n IH =>
    intro S l1 l2 l3 l4 l5 l6 hmu hI  hi0 hi1 hi2 hi3 hi4
    refine g_108_87_15 l1 l2 l3 l4 l5 l6 (by omega) (by omega) (zG_T hI) ?_
    have li1 : (4500 : Int32).toInt = 4500 := rfl
    have b2 := i_bd l6
    refine zd (fun h3 => ?_) (fun h3 => ?_)
    · skip
      have g4 := i_le h3
      have b5 := i_bd l3
      exact K (l3) _ hI (by omega)
    · skip
      have g6 := i_nle h3
      have f7 := zG_s hI (0) (1500) (c := 87) (k := 0) (by decide)
      have b8 := i_bd l5
      refine zd (fun h9 => ?_) (fun h9 => ?_)
      · skip
        have g10 := i_le h9
        have b11 := i_bd l3
        exact K (l3) _ hI (by omega)
      · skip
        have g12 := i_nle h9
        refine sp_106_87 (l5) (by omega) (by omega) hI (by omega) (by omega) (fun v2 S1 hI_S1 hp_v2 => zi_n ⟨zG_T hI_S1, ?_⟩)
        have b13 := i_bd v2
        first | have e14 : (v2 - l5).toInt = v2.toInt - l5.toInt := i_sub (by omega) (by omega) | have b15 := i_bd (v2 - l5)
        have b16 := i_bd l1
        refine zd (fun h17 => ?_) (fun h17 => ?_)
        · skip
          have g18 := i_lt h17
          have hI19 : zJ87 f r C Z N (ma_put S1 69 12 (.inl ((mI S1 69 12) + (1 : Int32)))) := zG_fr hI_S1 rfl (by decide) (by decide) (by decide) trivial
          refine sp_105_87 (v2) (by omega) (by omega) hI19 (by omega) (fun v4 S3 hI_S3 hp_v4 => zi_n ⟨zG_T hI_S3, ?_⟩)
          have b20 := i_bd l2
          have b21 := i_bd l3
          have b22 := i_bd l4
          have b23 := i_bd v4
          first | have e24 : (l6 + (1 : Int32)).toInt = l6.toInt + (1) := i_addk rfl (by omega) (by omega) | have b25 := i_bd (l6 + (1 : Int32))
          exact IH _ (by omega) _ (l1) (l2) (l3) (l4) (v4) ((l6 + (1 : Int32))) rfl hI_S3 (by omega) (by omega) (by omega) (by omega) (by omega)
        · skip
          have g26 := i_nlt h17
          have b27 := i_bd l3
          have li28 : (-1 : Int32).toInt = -1 := rfl
          refine zd (fun h29 => ?_) (fun h29 => ?_)
          · skip
            have g30 := i_eq h29
            have hI31 : zJ87 f r C Z N (ma_put S1 69 12 (.inl ((mI S1 69 12) + (1 : Int32)))) := zG_fr hI_S1 rfl (by decide) (by decide) (by decide) trivial
            refine sp_105_87 (v2) (by omega) (by omega) hI31 (by omega) (fun v6 S5 hI_S5 hp_v6 => zi_n ⟨zG_T hI_S5, ?_⟩)
            have b32 := i_bd l2
            have b33 := i_bd v6
            first | have e34 : (l6 + (1 : Int32)).toInt = l6.toInt + (1) := i_addk rfl (by omega) (by omega) | have b35 := i_bd (l6 + (1 : Int32))
            exact IH _ (by omega) _ (l1) (l2) (l5) ((v2 - l5)) (v6) ((l6 + (1 : Int32))) rfl hI_S5 (by omega) (by omega) (by omega) (by omega) (by omega)
          · skip
            have g36 := i_ne h29
            have b37 := i_bd l2
            have li38 : (0 : Int32).toInt = 0 := rfl
            refine zd (fun h39 => ?_) (fun h39 => ?_)
            · skip
              have g40 := i_eq h39
              have b41 := i_bd l4
              refine zd (fun h42 => ?_) (fun h42 => ?_)
              · skip
                have g43 := i_le h42
                have hI44 : zJ87 f r C Z N (ma_put S1 69 12 (.inl ((mI S1 69 12) + (1 : Int32)))) := zG_fr hI_S1 rfl (by decide) (by decide) (by decide) trivial
                refine sp_105_87 (v2) (by omega) (by omega) hI44 (by omega) (fun v8 S7 hI_S7 hp_v8 => zi_n ⟨zG_T hI_S7, ?_⟩)
                have b45 := i_bd v8
                first | have e46 : (l6 + (1 : Int32)).toInt = l6.toInt + (1) := i_addk rfl (by omega) (by omega) | have b47 := i_bd (l6 + (1 : Int32))
                exact IH _ (by omega) _ (l1) (l2) (l3) (l4) (v8) ((l6 + (1 : Int32))) rfl hI_S7 (by omega) (by omega) (by omega) (by omega) (by omega)
              · skip
                have g48 := i_nle h42
                have hI49 : zJ87 f r C Z N (ma_put S1 69 12 (.inl ((mI S1 69 12) + (1 : Int32)))) := zG_fr hI_S1 rfl (by decide) (by decide) (by decide) trivial
                refine sp_105_87 (v2) (by omega) (by omega) hI49 (by omega) (fun v10 S9 hI_S9 hp_v10 => zi_n ⟨zG_T hI_S9, ?_⟩)
                have b50 := i_bd v10
                first | have e51 : (l6 + (1 : Int32)).toInt = l6.toInt + (1) := i_addk rfl (by omega) (by omega) | have b52 := i_bd (l6 + (1 : Int32))
                exact IH _ (by omega) _ (l1) (l2) (l5) ((v2 - l5)) (v10) ((l6 + (1 : Int32))) rfl hI_S9 (by omega) (by omega) (by omega) (by omega) (by omega)
            · skip
              have g53 := i_ne h39
              have b54 := i_bd l4
              refine zd (fun h55 => ?_) (fun h55 => ?_)
              · skip
                have g56 := i_le h55
                have hI57 : zJ87 f r C Z N (ma_put S1 69 12 (.inl ((mI S1 69 12) + (1 : Int32)))) := zG_fr hI_S1 rfl (by decide) (by decide) (by decide) trivial
                refine sp_105_87 (v2) (by omega) (by omega) hI57 (by omega) (fun v12 S11 hI_S11 hp_v12 => zi_n ⟨zG_T hI_S11, ?_⟩)
                have b58 := i_bd v12
                first | have e59 : (l6 + (1 : Int32)).toInt = l6.toInt + (1) := i_addk rfl (by omega) (by omega) | have b60 := i_bd (l6 + (1 : Int32))
                exact IH _ (by omega) _ (l1) (l2) (l3) (l4) (v12) ((l6 + (1 : Int32))) rfl hI_S11 (by omega) (by omega) (by omega) (by omega) (by omega)
              · skip
                have g61 := i_nle h55
                have hI62 : zJ87 f r C Z N (ma_put S1 69 12 (.inl ((mI S1 69 12) + (1 : Int32)))) := zG_fr hI_S1 rfl (by decide) (by decide) (by decide) trivial
                refine sp_105_87 (v2) (by omega) (by omega) hI62 (by omega) (fun v14 S13 hI_S13 hp_v14 => zi_n ⟨zG_T hI_S13, ?_⟩)
                have b63 := i_bd v14
                first | have e64 : (l6 + (1 : Int32)).toInt = l6.toInt + (1) := i_addk rfl (by omega) (by omega) | have b65 := i_bd (l6 + (1 : Int32))
                exact IH _ (by omega) _ (l1) (l2) (l5) ((v2 - l5)) (v14) ((l6 + (1 : Int32))) rfl hI_S13 (by omega) (by omega) (by omega) (by omega) (by omega)
theorem sp_108_87 {X : Nat × (Nat → Int32)} {d w : Nat} {f : Nat → Nat → Int32} {r : Nat → Nat → Option Nat} {C Z N : Nat} {Q : Option ma_V ⊕ Nat → ma_S → Prop} {S : ma_S} (n : Int32) (b : Int32) (hd : 2 ≤ d) (hw : 45 ≤ w) (hI : zJ87 f r C Z N S)  (K : ∀ v S', zJ87 f r C Z N S' → (-1 ≤ v.toInt ∧ v.toInt ≤ 300000) → Q (.inl (some (.inl v))) S') : ma_wp X d w 108 0 [(0, .inr (.inr (some 87))), (1, .inl n), (2, .inl b)] [] S Q := by
  refine g_108_87_0 n b (by omega) (by omega) (zG_T hI) ?_
  have li1 : (0 : Int32).toInt = 0 := rfl
  refine sp_105_87 ((0 : Int32)) (by omega) (by omega) hI (by omega) (fun v2 S1 hI_S1 hp_v2 => zi_n ⟨zG_T hI_S1, ?_⟩)
  have b2 := i_bd n
  have b3 := i_bd b
  have li4 : (-1 : Int32).toInt = -1 := rfl
  have b5 := i_bd v2
  exact lp_108_87_15 (by omega) (by omega) K _ _ (n) (b) ((-1 : Int32)) ((0 : Int32)) (v2) ((0 : Int32)) rfl hI_S1 (by omega) (by omega) (by omega) (by omega) (by omega)
theorem g_103_87_0 {X : Nat × (Nat → Int32)} {d w : Nat} {S : ma_S} {Q : Option ma_V ⊕ Nat → ma_S → Prop} (n : Int32) (hd : 4 ≤ d) (hw : 93 ≤ w) (hS : zT S) (h : if (mI S 87 1) = (0 : Int32) then (ma_wp X (d - 1) (w - 26) 104 0 [(0, .inr (.inr (some 87))), (1, .inl (0 : Int32)), (2, .inl (mI S 87 0)), (3, .inl n)] [] S (zi (fun v2 S1 => zT S1 ∧ (Q (.inl (some (.inl v2))) S1)) (fun x S9 => Q (.inr x) S9))) else (if (mI S 87 1) = (1 : Int32) then (ma_wp X (d - 1) (w - 22) 107 0 [(0, .inr (.inr (some 87))), (1, .inl n)] [] S (zi (fun v4 S3 => zT S3 ∧ (Q (.inl (some (.inl v4))) S3)) (fun x S9 => Q (.inr x) S9))) else (if (mI S 87 1) = (2 : Int32) then (ma_wp X (d - 1) (w - 28) 108 0 [(0, .inr (.inr (some 87))), (1, .inl n), (2, .inl (1 : Int32))] [] S (zi (fun v6 S5 => zT S5 ∧ (Q (.inl (some (.inl v6))) S5)) (fun x S9 => Q (.inr x) S9))) else (ma_wp X (d - 1) (w - 28) 108 0 [(0, .inr (.inr (some 87))), (1, .inl n), (2, .inl (0 : Int32))] [] S (zi (fun v8 S7 => zT S7 ∧ (Q (.inl (some (.inl v8))) S7)) (fun x S9 => Q (.inr x) S9)))))) : ma_wp X d w 103 0 [(0, .inr (.inr (some 87))), (1, .inl n)] [] S Q := by
  refine zw_push hm_103 dX8_fit_0 (v := .inr (.inr (some 87))) rfl ?_
  refine zw_gf hm_103 dX8_fit_1 (v := .inl (mI S 87 1)) (zT_is hS s_87) (zT_t hS s_87) rfl f_8_15_6 rfl ?_
  by_cases hc0 : (mI S 87 1) = (0 : Int32)
  · rw [if_pos hc0] at h
    refine zw_jmp hm_103 dX8_fit_4 (t := 32) (st' := []) rfl rfl rfl (ma_jmp_tab (by rw [hc0]; decide +kernel)) ?_
    refine zw_push hm_103 dX8_fit_32 (v := .inr (.inr (some 87))) rfl ?_
    refine zw_push hm_103 dX8_fit_33 (v := .inl (0 : Int32)) rfl ?_
    refine zw_push hm_103 dX8_fit_34 (v := .inr (.inr (some 87))) rfl ?_
    refine zw_gf hm_103 dX8_fit_35 (v := .inl (mI S 87 0)) (zT_is hS s_87) (zT_t hS s_87) rfl f_8_9_6 rfl ?_
    refine zw_push hm_103 dX8_fit_38 (v := .inl n) rfl ?_
    refine zw_cv hm_103 dX8_fit_39 v_8_56_6 hm_104 [.inl n, .inl (mI S 87 0), .inl (0 : Int32)] [] rfl (zT_rt hS s_87 rfl) ⟨by omega, by omega⟩ rfl (zw_mono h (zi_go ?_ ?_))
    · intro v2 S1 hv
      obtain ⟨hS1, h⟩ := hv
      exact zw_iret hm_103 dX8_fit_42 h
    · intro x S9 hx
      exact ⟨by decide, hx⟩
  rw [if_neg hc0] at h
  by_cases hc1 : (mI S 87 1) = (1 : Int32)
  · rw [if_pos hc1] at h
    refine zw_jmp hm_103 dX8_fit_4 (t := 43) (st' := []) rfl rfl rfl (ma_jmp_tab (by rw [hc1]; decide +kernel)) ?_
    refine zw_push hm_103 dX8_fit_43 (v := .inr (.inr (some 87))) rfl ?_
    refine zw_push hm_103 dX8_fit_44 (v := .inl n) rfl ?_
    refine zw_cv hm_103 dX8_fit_45 v_8_60_6 hm_107 [.inl n] [] rfl (zT_rt hS s_87 rfl) ⟨by omega, by omega⟩ rfl (zw_mono h (zi_go ?_ ?_))
    · intro v4 S3 hv
      obtain ⟨hS3, h⟩ := hv
      exact zw_iret hm_103 dX8_fit_48 h
    · intro x S9 hx
      exact ⟨by decide, hx⟩
  rw [if_neg hc1] at h
  by_cases hc2 : (mI S 87 1) = (2 : Int32)
  · rw [if_pos hc2] at h
    refine zw_jmp hm_103 dX8_fit_4 (t := 49) (st' := []) rfl rfl rfl (ma_jmp_tab (by rw [hc2]; decide +kernel)) ?_
    refine zw_push hm_103 dX8_fit_49 (v := .inr (.inr (some 87))) rfl ?_
    refine zw_push hm_103 dX8_fit_50 (v := .inl n) rfl ?_
    refine zw_push hm_103 dX8_fit_51 (v := .inl (1 : Int32)) rfl ?_
    refine zw_cv hm_103 dX8_fit_52 v_8_63_6 hm_108 [.inl (1 : Int32), .inl n] [] rfl (zT_rt hS s_87 rfl) ⟨by omega, by omega⟩ rfl (zw_mono h (zi_go ?_ ?_))
    · intro v6 S5 hv
      obtain ⟨hS5, h⟩ := hv
      exact zw_iret hm_103 dX8_fit_55 h
    · intro x S9 hx
      exact ⟨by decide, hx⟩
  rw [if_neg hc2] at h
  refine zw_jmp hm_103 dX8_fit_4 (t := 56) (st' := []) rfl rfl rfl (ma_jmp_def (m := 3) (by decide) (fun j hj => by
      have hj2 : j = 0 ∨ j = 1 ∨ j = 2 := by omega
      rcases hj2 with rfl | rfl | rfl
      · exact hc0
      · exact hc1
      · exact hc2
      ) rfl) ?_
  refine zw_push hm_103 dX8_fit_56 (v := .inr (.inr (some 87))) rfl ?_
  refine zw_push hm_103 dX8_fit_57 (v := .inl n) rfl ?_
  refine zw_push hm_103 dX8_fit_58 (v := .inl (0 : Int32)) rfl ?_
  refine zw_cv hm_103 dX8_fit_59 v_8_63_6 hm_108 [.inl (0 : Int32), .inl n] [] rfl (zT_rt hS s_87 rfl) ⟨by omega, by omega⟩ rfl (zw_mono h (zi_go ?_ ?_))
  · intro v8 S7 hv
    obtain ⟨hS7, h⟩ := hv
    exact zw_iret hm_103 dX8_fit_62 h
  · intro x S9 hx
    exact ⟨by decide, hx⟩
theorem sp_103_87 {X : Nat × (Nat → Int32)} {d w : Nat} {f : Nat → Nat → Int32} {r : Nat → Nat → Option Nat} {C Z N : Nat} {Q : Option ma_V ⊕ Nat → ma_S → Prop} {S : ma_S} (n : Int32) (hd : 4 ≤ d) (hw : 93 ≤ w) (hI : zJ87 f r C Z N S)  (K : ∀ v S', zJ87 f r C Z N S' → (-1 ≤ v.toInt ∧ v.toInt ≤ 300000) → Q (.inl (some (.inl v))) S') : ma_wp X d w 103 0 [(0, .inr (.inr (some 87))), (1, .inl n)] [] S Q := by
  refine g_103_87_0 n (by omega) (by omega) (zG_T hI) ?_
  have b1 := i_bd (mI S 87 1)
  have li2 : (0 : Int32).toInt = 0 := rfl
  refine zd (fun h3 => ?_) (fun h3 => ?_)
  · skip
    have g4 := i_eq h3
    have f5 := zG_s hI (0) (1500) (c := 87) (k := 0) (by decide)
    have b6 := i_bd n
    refine sp_104_87 ((0 : Int32)) ((mI S 87 0)) (n) (by omega) (by omega) hI (by omega) (fun v2 S1 hI_S1 hp_v2 => zi_n ⟨zG_T hI_S1, ?_⟩)
    have b7 := i_bd v2
    exact K (v2) _ hI_S1 (by omega)
  · skip
    have g8 := i_ne h3
    have li9 : (1 : Int32).toInt = 1 := rfl
    refine zd (fun h10 => ?_) (fun h10 => ?_)
    · skip
      have g11 := i_eq h10
      have b12 := i_bd n
      refine sp_107_87 (n) (by omega) (by omega) hI  (fun v4 S3 hI_S3 hp_v4 => zi_n ⟨zG_T hI_S3, ?_⟩)
      have b13 := i_bd v4
      exact K (v4) _ hI_S3 (by omega)
    · skip
      have g14 := i_ne h10
      have li15 : (2 : Int32).toInt = 2 := rfl
      refine zd (fun h16 => ?_) (fun h16 => ?_)
      · skip
        have g17 := i_eq h16
        have b18 := i_bd n
        refine sp_108_87 (n) ((1 : Int32)) (by omega) (by omega) hI  (fun v6 S5 hI_S5 hp_v6 => zi_n ⟨zG_T hI_S5, ?_⟩)
        have b19 := i_bd v6
        exact K (v6) _ hI_S5 (by omega)
      · skip
        have g20 := i_ne h16
        have b21 := i_bd n
        refine sp_108_87 (n) ((0 : Int32)) (by omega) (by omega) hI  (fun v8 S7 hI_S7 hp_v8 => zi_n ⟨zG_T hI_S7, ?_⟩)
        have b22 := i_bd v8
        exact K (v8) _ hI_S7 (by omega)
theorem g_110_87_0 {X : Nat × (Nat → Int32)} {d w : Nat} {S : ma_S} {Q : Option ma_V ⊕ Nat → ma_S → Prop} (t : Nat) (hd : 0 ≤ d) (hw : 0 ≤ w) (hS : zT S) (h : (126 ≤ t ∧ t < mN S) ∧ ((126 ≤ t ∧ t < mN S) ∧ (Q (.inl none) (ma_put S 87 2 (.inl ((mI S t 4) + (mI S t 2))))))) : ma_wp X d w 110 0 [(0, .inr (.inr (some 87))), (1, .inr (.inr (some t)))] [] S Q := by
  refine zw_push hm_110 dX8_noteMade_0 (v := .inr (.inr (some 87))) rfl ?_
  refine zw_push hm_110 dX8_noteMade_1 (v := .inr (.inr (some t))) rfl ?_
  obtain ⟨hg, h⟩ := h
  refine zw_gf hm_110 dX8_noteMade_2 (v := .inl (mI S t 4)) (zT_tis hS hg) (zT_tt hS hg) rfl f_8_29_9 rfl ?_
  refine zw_push hm_110 dX8_noteMade_5 (v := .inr (.inr (some t))) rfl ?_
  obtain ⟨hg, h⟩ := h
  refine zw_gf hm_110 dX8_noteMade_6 (v := .inl (mI S t 2)) (zT_tis hS hg) (zT_tt hS hg) rfl f_8_34_9 rfl ?_
  refine zw_stk hm_110 dX8_noteMade_9 (st' := [.inl ((mI S t 4) + (mI S t 2)), .inr (.inr (some 87))]) rfl rfl ?_
  refine zw_pf hm_110 dX8_noteMade_10 (zT_is hS s_87) (zT_t hS s_87) p_8_18_6 zk_int ?_
  exact zw_vret hm_110 dX8_noteMade_13 h
theorem sp_110_87 {X : Nat × (Nat → Int32)} {d w : Nat} {f : Nat → Nat → Int32} {r : Nat → Nat → Option Nat} {C Z N : Nat} {Q : Option ma_V ⊕ Nat → ma_S → Prop} {S : ma_S} (t : Nat) (hd : 0 ≤ d) (hw : 0 ≤ w) (hI : zJ87 f r C Z N S) (th_t : 126 ≤ t ∧ t < N) (K : ∀ S', zJ87 f r C Z N S' → Q (.inl none) S') : ma_wp X d w 110 0 [(0, .inr (.inr (some 87))), (1, .inr (.inr (some t)))] [] S Q := by
  refine g_110_87_0 t (by omega) (by omega) (zG_T hI) ?_
  refine ⟨zG_n hI th_t, ?_⟩
  refine ⟨zG_n hI th_t, ?_⟩
  have f2 := zG_th hI th_t
  have f3 := zG_th hI th_t
  first | have e4 : ((mI S t 4) + (mI S t 2)).toInt = (mI S t 4).toInt + (mI S t 2).toInt := i_add (by omega) (by omega) | have b5 := i_bd ((mI S t 4) + (mI S t 2))
  have hI1 : zJ87 f r C Z N (ma_put S 87 2 (.inl ((mI S t 4) + (mI S t 2)))) := zG_sp hI (0) (400000) rfl (by decide) (by decide) (by decide) trivial (by omega) (by omega)
  exact K _ hI1
theorem g_100_87_66_0 {X : Nat × (Nat → Int32)} {d w : Nat} {S : ma_S} {Q : Option ma_V ⊕ Nat → ma_S → Prop}  (hd : 0 ≤ d) (hw : 0 ≤ w) (hS : zT S) (h : Q (.inl none) (ma_put (ma_put (ma_put S 87 0 (.inl (mI S 66 0))) 87 1 (.inl (mI S 66 1))) 87 2 (.inl (0 : Int32)))) : ma_wp X d w 100 0 [(0, .inr (.inr (some 87))), (1, .inr (.inr (some 66)))] [] S Q := by
  refine zw_push hm_100 dX8_open_0 (v := .inr (.inr (some 87))) rfl ?_
  refine zw_push hm_100 dX8_open_1 (v := .inr (.inr (some 66))) rfl ?_
  refine zw_push hm_100 dX8_open_2 (v := .inl (0 : Int32)) rfl ?_
  refine zw_ia hm_100 dX8_open_3 (zT_is hS s_66) (zT_h hS s_66) rfl ⟨by decide, by decide⟩ ?_
  show ma_wp X d w 100 4 [(0, .inr (.inr (some 87))), (1, .inr (.inr (some 66)))] [.inl (mI S 66 0), .inr (.inr (some 87))] S _
  refine zw_pf hm_100 dX8_open_4 (zT_is hS s_87) (zT_t hS s_87) p_8_9_6 zk_int ?_
  refine zw_push hm_100 dX8_open_7 (v := .inr (.inr (some 87))) rfl ?_
  refine zw_push hm_100 dX8_open_8 (v := .inr (.inr (some 66))) rfl ?_
  refine zw_push hm_100 dX8_open_9 (v := .inl (1 : Int32)) rfl ?_
  refine zw_ia hm_100 dX8_open_10 (zT_is (zT_pi hS) s_66) (zT_h (zT_pi hS) s_66) rfl ⟨by decide, by decide⟩ ?_
  show ma_wp X d w 100 11 [(0, .inr (.inr (some 87))), (1, .inr (.inr (some 66)))] [.inl (mI S 66 1), .inr (.inr (some 87))] (ma_put S 87 0 (.inl (mI S 66 0))) _
  refine zw_pf hm_100 dX8_open_11 (zT_is (zT_pi hS) s_87) (zT_t (zT_pi hS) s_87) p_8_15_6 zk_int ?_
  refine zw_push hm_100 dX8_open_14 (v := .inr (.inr (some 87))) rfl ?_
  refine zw_push hm_100 dX8_open_15 (v := .inl (0 : Int32)) rfl ?_
  refine zw_pf hm_100 dX8_open_16 (zT_is (zT_pi (zT_pi hS)) s_87) (zT_t (zT_pi (zT_pi hS)) s_87) p_8_18_6 zk_int ?_
  exact zw_vret hm_100 dX8_open_19 h
theorem sp_100_87_66 {X : Nat × (Nat → Int32)} {d w : Nat} {f : Nat → Nat → Int32} {r : Nat → Nat → Option Nat} {C Z N : Nat} {Q : Option ma_V ⊕ Nat → ma_S → Prop} {S : ma_S}  (hd : 0 ≤ d) (hw : 0 ≤ w) (hI : zJ87 f r C Z N S) (hpre0 : 0 ≤ (mI S 66 0).toInt ∧ (mI S 66 0).toInt ≤ 1500) (K : ∀ S', zJ87 f r C Z N S' → Q (.inl none) S') : ma_wp X d w 100 0 [(0, .inr (.inr (some 87))), (1, .inr (.inr (some 66)))] [] S Q := by
  refine g_100_87_66_0  (by omega) (by omega) (zG_T hI) ?_
  have b2 := i_bd (mI S 66 0)
  have hI1 : zJ87 f r C Z N (ma_put S 87 0 (.inl (mI S 66 0))) := zG_sp hI (0) (1500) rfl (by decide) (by decide) (by decide) trivial (by omega) (by omega)
  have hI3 : zJ87 f r C Z N (ma_put (ma_put S 87 0 (.inl (mI S 66 0))) 87 1 (.inl (mI S 66 1))) := zG_fr hI1 rfl (by decide) (by decide) (by decide) trivial
  have li5 : (0 : Int32).toInt = 0 := rfl
  have hI4 : zJ87 f r C Z N (ma_put (ma_put (ma_put S 87 0 (.inl (mI S 66 0))) 87 1 (.inl (mI S 66 1))) 87 2 (.inl (0 : Int32))) := zG_sp hI3 (0) (400000) rfl (by decide) (by decide) (by decide) trivial (by omega) (by omega)
  exact K _ hI4
theorem g_101_87_0 {X : Nat × (Nat → Int32)} {d w : Nat} {S : ma_S} {Q : Option ma_V ⊕ Nat → ma_S → Prop}  (hd : 0 ≤ d) (hw : 0 ≤ w) (hS : zT S) (h : Q (.inl (some (.inl (mI S 87 0)))) S) : ma_wp X d w 101 0 [(0, .inr (.inr (some 87)))] [] S Q := by
  refine zw_push hm_101 dX8_total_0 (v := .inr (.inr (some 87))) rfl ?_
  refine zw_gf hm_101 dX8_total_1 (v := .inl (mI S 87 0)) (zT_is hS s_87) (zT_t hS s_87) rfl f_8_9_6 rfl ?_
  exact zw_iret hm_101 dX8_total_4 h
theorem sp_101_87 {X : Nat × (Nat → Int32)} {d w : Nat} {f : Nat → Nat → Int32} {r : Nat → Nat → Option Nat} {C Z N : Nat} {Q : Option ma_V ⊕ Nat → ma_S → Prop} {S : ma_S}  (hd : 0 ≤ d) (hw : 0 ≤ w) (hI : zJ87 f r C Z N S)  (K : ∀ v S', zJ87 f r C Z N S' → (True) → Q (.inl (some (.inl v))) S') : ma_wp X d w 101 0 [(0, .inr (.inr (some 87)))] [] S Q := by
  refine g_101_87_0  (by omega) (by omega) (zG_T hI) ?_
  have f1 := zG_s hI (0) (1500) (c := 87) (k := 0) (by decide)
  exact K ((mI S 87 0)) _ hI trivial
theorem g_68_87_0 {X : Nat × (Nat → Int32)} {d w : Nat} {S : ma_S} {Q : Option ma_V ⊕ Nat → ma_S → Prop}  (hd : 2 ≤ d) (hw : 44 ≤ w) (hS : zT S) (h : ma_wp X (d - 1) (w - 21) 117 0 [(0, .inr (.inr (some 88))), (1, .inl (0 : Int32))] [] (ma_put S 87 8 (.inl (1 : Int32))) (zv (fun S1 => zT S1 ∧ (ma_wp X (d - 1) (w - 22) 118 0 [(0, .inr (.inr (some 88)))] [] S1 (zv (fun S3 => zT S3 ∧ (Q (.inl none) S3)) (fun x S9 => Q (.inr x) S9)))) (fun x S9 => Q (.inr x) S9))) : ma_wp X d w 68 0 [(0, .inr (.inr (some 87)))] [] S Q := by
  refine zw_push hm_68 dX6_begin_0 (v := .inr (.inr (some 87))) rfl ?_
  refine zw_push hm_68 dX6_begin_1 (v := .inl (1 : Int32)) rfl ?_
  refine zw_pf hm_68 dX6_begin_2 (zT_is hS s_87) (zT_t hS s_87) p_6_31_6 (zk_bool (by decide)) ?_
  refine zw_push hm_68 dX6_begin_5 (v := .inr (.inr (some 87))) rfl ?_
  refine zw_gf hm_68 dX6_begin_6 (v := .inr (.inr (some 88))) (zT_is (zT_pi hS) s_87) (zT_t (zT_pi hS) s_87) rfl f_6_14_6 (zT_f (zT_pi hS) r_87_5) ?_
  refine zw_push hm_68 dX6_begin_9 (v := .inl (0 : Int32)) rfl ?_
  refine zw_cv hm_68 dX6_begin_10 v_6_82_10 hm_117 [.inl (0 : Int32)] [] rfl (zT_rt (zT_pi hS) s_88 rfl) ⟨by omega, by omega⟩ rfl (zw_mono h (zv_go ?_ ?_))
  · intro S1 hv
    obtain ⟨hS1, h⟩ := hv
    refine zw_push hm_68 dX6_begin_13 (v := .inr (.inr (some 87))) rfl ?_
    refine zw_gf hm_68 dX6_begin_14 (v := .inr (.inr (some 88))) (zT_is hS1 s_87) (zT_t hS1 s_87) rfl f_6_14_6 (zT_f hS1 r_87_5) ?_
    refine zw_cv hm_68 dX6_begin_17 v_6_86_10 hm_118 [] [] rfl (zT_rt hS1 s_88 rfl) ⟨by omega, by omega⟩ rfl (zw_mono h (zv_go ?_ ?_))
    · intro S3 hv
      obtain ⟨hS3, h⟩ := hv
      exact zw_vret hm_68 dX6_begin_20 h
    · intro x S9 hx
      exact ⟨by decide, hx⟩
  · intro x S9 hx
    exact ⟨by decide, hx⟩
theorem sp_68_87 {X : Nat × (Nat → Int32)} {d w : Nat} {f : Nat → Nat → Int32} {r : Nat → Nat → Option Nat} {C Z N : Nat} {Q : Option ma_V ⊕ Nat → ma_S → Prop} {S : ma_S}  (hd : 2 ≤ d) (hw : 44 ≤ w) (hI : zJ87 f r C Z N S)  (K : ∀ S', zJ87 f r C Z N S' → Q (.inl none) S') : ma_wp X d w 68 0 [(0, .inr (.inr (some 87)))] [] S Q := by
  refine g_68_87_0  (by omega) (by omega) (zG_T hI) ?_
  have li1 : (0 : Int32).toInt = 0 := rfl
  have li3 : (1 : Int32).toInt = 1 := rfl
  have hI2 : zJ87 f r C Z N (ma_put S 87 8 (.inl (1 : Int32))) := zG_sp hI (0) (1) rfl (by decide) (by decide) (by decide) trivial (by omega) (by omega)
  refine sp_117_88 ((0 : Int32)) (by omega) (by omega) (zJ87_dn hI2)  (fun S1 hL_S1 => zv_n ⟨zG_T hL_S1, ?_⟩)
  have hI_S1 := zJ87_up hI2 hL_S1
  refine sp_118_88  (by omega) (by omega) (zJ87_dn hI_S1)  (fun S3 hL_S3 => zv_n ⟨zG_T hL_S3, ?_⟩)
  have hI_S3 := zJ87_up hI_S1 hL_S3
  exact K _ hI_S3
theorem g_69_87_0 {X : Nat × (Nat → Int32)} {d w : Nat} {S : ma_S} {Q : Option ma_V ⊕ Nat → ma_S → Prop}  (hd : 2 ≤ d) (hw : 43 ≤ w) (hS : zT S) (h : if (mI S 87 7) = (1 : Int32) then (ma_wp X (d - 1) (w - 22) 118 0 [(0, .inr (.inr (some 88)))] [] S (zv (fun S1 => zT S1 ∧ (if (mI S1 88 3) < (mI S1 88 4) then (Q (.inl (some (.inl (1 : Int32)))) S1) else (Q (.inl (some (.inl (0 : Int32)))) S1))) (fun x S9 => Q (.inr x) S9))) else (if (mI S 88 3) < (mI S 88 4) then (Q (.inl (some (.inl (1 : Int32)))) S) else (Q (.inl (some (.inl (0 : Int32)))) S))) : ma_wp X d w 69 0 [(0, .inr (.inr (some 87)))] [] S Q := by
  refine zw_push hm_69 dX6_newsCame_0 (v := .inr (.inr (some 87))) rfl ?_
  refine zw_gf hm_69 dX6_newsCame_1 (v := .inl (mI S 87 7)) (zT_is hS s_87) (zT_t hS s_87) rfl f_6_28_6 rfl ?_
  refine zw_push hm_69 dX6_newsCame_4 (v := .inl (1 : Int32)) rfl ?_
  refine zw_if2 hm_69 dX6_newsCame_5 (t := 15) rfl zc2_ne ?_ ?_
  · intro hc
    rw [if_neg hc] at h
    refine zw_push hm_69 dX6_newsCame_15 (v := .inr (.inr (some 87))) rfl ?_
    refine zw_gf hm_69 dX6_newsCame_16 (v := .inr (.inr (some 88))) (zT_is hS s_87) (zT_t hS s_87) rfl f_6_14_6 (zT_f hS r_87_5) ?_
    refine zw_cv hm_69 dX6_newsCame_19 v_6_79_10 hm_125 [] [] rfl (zT_rt hS s_88 rfl) ⟨by omega, by omega⟩ rfl ?_
    show ma_wp X (d - 1) (w - 20) 125 0 [(0, .inr (.inr (some 88)))] [] S _
    refine zw_push hm_125 dX10_isEmpty_0 (v := .inr (.inr (some 88))) rfl ?_
    refine zw_gf hm_125 dX10_isEmpty_1 (v := .inl (mI S 88 3)) (zT_is hS s_88) (zT_t hS s_88) rfl f_10_28_10 rfl ?_
    refine zw_push hm_125 dX10_isEmpty_4 (v := .inr (.inr (some 88))) rfl ?_
    refine zw_gf hm_125 dX10_isEmpty_5 (v := .inl (mI S 88 4)) (zT_is hS s_88) (zT_t hS s_88) rfl f_10_32_10 rfl ?_
    refine zw_if2 hm_125 dX10_isEmpty_8 (t := 15) rfl zc2_lt ?_ ?_
    · intro hc
      rw [if_pos hc] at h
      refine zw_push hm_125 dX10_isEmpty_15 (v := .inl (0 : Int32)) rfl ?_
      refine zw_bret hm_125 dX10_isEmpty_16 (by decide) ?_
      show ma_wp X d w 69 22 [(0, .inr (.inr (some 87)))] [.inl (0 : Int32)] S _
      refine zw_if0 hm_69 dX6_newsCame_22 (t := 29) rfl zc0_ne (fun hc => absurd hc (by decide)) (fun _ => ?_)
      refine zw_push hm_69 dX6_newsCame_25 (v := .inl (1 : Int32)) rfl ?_
      refine zw_goto hm_69 dX6_newsCame_26 (t := 30) rfl ?_
      exact zw_bret hm_69 dX6_newsCame_30 (by decide) h
    · intro hc
      rw [if_neg hc] at h
      refine zw_push hm_125 dX10_isEmpty_11 (v := .inl (1 : Int32)) rfl ?_
      refine zw_goto hm_125 dX10_isEmpty_12 (t := 16) rfl ?_
      refine zw_bret hm_125 dX10_isEmpty_16 (by decide) ?_
      show ma_wp X d w 69 22 [(0, .inr (.inr (some 87)))] [.inl (1 : Int32)] S _
      refine zw_if0 hm_69 dX6_newsCame_22 (t := 29) rfl zc0_ne (fun _ => ?_) (fun hc => absurd (by decide) hc)
      refine zw_push hm_69 dX6_newsCame_29 (v := .inl (0 : Int32)) rfl ?_
      exact zw_bret hm_69 dX6_newsCame_30 (by decide) h
  · intro hc
    rw [if_pos (Classical.not_not.mp hc)] at h
    refine zw_push hm_69 dX6_newsCame_8 (v := .inr (.inr (some 87))) rfl ?_
    refine zw_gf hm_69 dX6_newsCame_9 (v := .inr (.inr (some 88))) (zT_is hS s_87) (zT_t hS s_87) rfl f_6_14_6 (zT_f hS r_87_5) ?_
    refine zw_cv hm_69 dX6_newsCame_12 v_6_86_10 hm_118 [] [] rfl (zT_rt hS s_88 rfl) ⟨by omega, by omega⟩ rfl (zw_mono h (zv_go ?_ ?_))
    · intro S1 hv
      obtain ⟨hS1, h⟩ := hv
      refine zw_push hm_69 dX6_newsCame_15 (v := .inr (.inr (some 87))) rfl ?_
      refine zw_gf hm_69 dX6_newsCame_16 (v := .inr (.inr (some 88))) (zT_is hS1 s_87) (zT_t hS1 s_87) rfl f_6_14_6 (zT_f hS1 r_87_5) ?_
      refine zw_cv hm_69 dX6_newsCame_19 v_6_79_10 hm_125 [] [] rfl (zT_rt hS1 s_88 rfl) ⟨by omega, by omega⟩ rfl ?_
      show ma_wp X (d - 1) (w - 20) 125 0 [(0, .inr (.inr (some 88)))] [] S1 _
      refine zw_push hm_125 dX10_isEmpty_0 (v := .inr (.inr (some 88))) rfl ?_
      refine zw_gf hm_125 dX10_isEmpty_1 (v := .inl (mI S1 88 3)) (zT_is hS1 s_88) (zT_t hS1 s_88) rfl f_10_28_10 rfl ?_
      refine zw_push hm_125 dX10_isEmpty_4 (v := .inr (.inr (some 88))) rfl ?_
      refine zw_gf hm_125 dX10_isEmpty_5 (v := .inl (mI S1 88 4)) (zT_is hS1 s_88) (zT_t hS1 s_88) rfl f_10_32_10 rfl ?_
      refine zw_if2 hm_125 dX10_isEmpty_8 (t := 15) rfl zc2_lt ?_ ?_
      · intro hc
        rw [if_pos hc] at h
        refine zw_push hm_125 dX10_isEmpty_15 (v := .inl (0 : Int32)) rfl ?_
        refine zw_bret hm_125 dX10_isEmpty_16 (by decide) ?_
        show ma_wp X d w 69 22 [(0, .inr (.inr (some 87)))] [.inl (0 : Int32)] S1 _
        refine zw_if0 hm_69 dX6_newsCame_22 (t := 29) rfl zc0_ne (fun hc => absurd hc (by decide)) (fun _ => ?_)
        refine zw_push hm_69 dX6_newsCame_25 (v := .inl (1 : Int32)) rfl ?_
        refine zw_goto hm_69 dX6_newsCame_26 (t := 30) rfl ?_
        exact zw_bret hm_69 dX6_newsCame_30 (by decide) h
      · intro hc
        rw [if_neg hc] at h
        refine zw_push hm_125 dX10_isEmpty_11 (v := .inl (1 : Int32)) rfl ?_
        refine zw_goto hm_125 dX10_isEmpty_12 (t := 16) rfl ?_
        refine zw_bret hm_125 dX10_isEmpty_16 (by decide) ?_
        show ma_wp X d w 69 22 [(0, .inr (.inr (some 87)))] [.inl (1 : Int32)] S1 _
        refine zw_if0 hm_69 dX6_newsCame_22 (t := 29) rfl zc0_ne (fun _ => ?_) (fun hc => absurd (by decide) hc)
        refine zw_push hm_69 dX6_newsCame_29 (v := .inl (0 : Int32)) rfl ?_
        exact zw_bret hm_69 dX6_newsCame_30 (by decide) h
    · intro x S9 hx
      exact ⟨by decide, hx⟩
theorem sp_69_87 {X : Nat × (Nat → Int32)} {d w : Nat} {f : Nat → Nat → Int32} {r : Nat → Nat → Option Nat} {C Z N : Nat} {Q : Option ma_V ⊕ Nat → ma_S → Prop} {S : ma_S}  (hd : 2 ≤ d) (hw : 43 ≤ w) (hI : zJ87 f r C Z N S)  (K : ∀ v S', zJ87 f r C Z N S' → (v = 0 ∨ v = 1) → Q (.inl (some (.inl v))) S') : ma_wp X d w 69 0 [(0, .inr (.inr (some 87)))] [] S Q := by
  refine g_69_87_0  (by omega) (by omega) (zG_T hI) ?_
  have b1 := i_bd (mI S 87 7)
  have li2 : (1 : Int32).toInt = 1 := rfl
  refine zd (fun h3 => ?_) (fun h3 => ?_)
  · skip
    have g4 := i_eq h3
    refine sp_118_88  (by omega) (by omega) (zJ87_dn hI)  (fun S1 hL_S1 => zv_n ⟨zG_T hL_S1, ?_⟩)
    have hI_S1 := zJ87_up hI hL_S1
    have f5 := zG_s hI_S1 (0) (512) (c := 88) (k := 3) (by decide)
    have f6 := zG_s hI_S1 (0) (512) (c := 88) (k := 4) (by decide)
    refine zd (fun h7 => ?_) (fun h7 => ?_)
    · skip
      have g8 := i_lt h7
      exact K ((1 : Int32)) _ hI_S1 (by decide)
    · skip
      have g9 := i_nlt h7
      have li10 : (0 : Int32).toInt = 0 := rfl
      exact K ((0 : Int32)) _ hI_S1 (by decide)
  · skip
    have g11 := i_ne h3
    have f12 := zG_s hI (0) (512) (c := 88) (k := 3) (by decide)
    have f13 := zG_s hI (0) (512) (c := 88) (k := 4) (by decide)
    refine zd (fun h14 => ?_) (fun h14 => ?_)
    · skip
      have g15 := i_lt h14
      exact K ((1 : Int32)) _ hI (by decide)
    · skip
      have g16 := i_nlt h14
      have li17 : (0 : Int32).toInt = 0 := rfl
      exact K ((0 : Int32)) _ hI (by decide)
theorem g_70_87_0 {X : Nat × (Nat → Int32)} {d w : Nat} {S : ma_S} {Q : Option ma_V ⊕ Nat → ma_S → Prop}  (hd : 3 ≤ d) (hw : 72 ≤ w) (hS : zT S) (h : ma_wp X (d - 1) (w - 23) 83 0 [(0, .inr (.inr (some 69))), (1, .inr (.inr (some 88)))] [] (ma_put S 87 8 (.inl (0 : Int32))) (zv (fun S1 => zT S1 ∧ (ma_wp X (d - 1) (w - 24) 86 0 [(0, .inr (.inr (some 69))), (1, .inr (.inr (some 88)))] [] S1 (zi (fun v4 S3 => zT S3 ∧ (Q (.inl (some (.inl v4))) S3)) (fun x S9 => Q (.inr x) S9)))) (fun x S9 => Q (.inr x) S9))) : ma_wp X d w 70 0 [(0, .inr (.inr (some 87)))] [] S Q := by
  refine zw_push hm_70 dX6_finish_0 (v := .inr (.inr (some 87))) rfl ?_
  refine zw_push hm_70 dX6_finish_1 (v := .inl (0 : Int32)) rfl ?_
  refine zw_pf hm_70 dX6_finish_2 (zT_is hS s_87) (zT_t hS s_87) p_6_31_6 (zk_bool (by decide)) ?_
  refine zw_push hm_70 dX6_finish_5 (v := .inr (.inr (some 87))) rfl ?_
  refine zw_gf hm_70 dX6_finish_6 (v := .inr (.inr (some 69))) (zT_is (zT_pi hS) s_87) (zT_t (zT_pi hS) s_87) rfl f_6_38_6 (zT_f (zT_pi hS) r_87_3) ?_
  refine zw_push hm_70 dX6_finish_9 (v := .inr (.inr (some 87))) rfl ?_
  refine zw_gf hm_70 dX6_finish_10 (v := .inr (.inr (some 88))) (zT_is (zT_pi hS) s_87) (zT_t (zT_pi hS) s_87) rfl f_6_14_6 (zT_f (zT_pi hS) r_87_5) ?_
  refine zw_cv hm_70 dX6_finish_13 v_6_89_7 hm_83 [.inr (.inr (some 88))] [] rfl (zT_rt (zT_pi hS) s_69 rfl) ⟨by omega, by omega⟩ rfl (zw_mono h (zv_go ?_ ?_))
  · intro S1 hv
    obtain ⟨hS1, h⟩ := hv
    refine zw_push hm_70 dX6_finish_16 (v := .inr (.inr (some 87))) rfl ?_
    refine zw_gf hm_70 dX6_finish_17 (v := .inr (.inr (some 69))) (zT_is hS1 s_87) (zT_t hS1 s_87) rfl f_6_38_6 (zT_f hS1 r_87_3) ?_
    refine zw_push hm_70 dX6_finish_20 (v := .inr (.inr (some 87))) rfl ?_
    refine zw_gf hm_70 dX6_finish_21 (v := .inr (.inr (some 88))) (zT_is hS1 s_87) (zT_t hS1 s_87) rfl f_6_14_6 (zT_f hS1 r_87_5) ?_
    refine zw_cv hm_70 dX6_finish_24 v_6_93_7 hm_86 [.inr (.inr (some 88))] [] rfl (zT_rt hS1 s_69 rfl) ⟨by omega, by omega⟩ rfl (zw_mono h (zi_go ?_ ?_))
    · intro v4 S3 hv
      obtain ⟨hS3, h⟩ := hv
      exact zw_iret hm_70 dX6_finish_27 h
    · intro x S9 hx
      exact ⟨by decide, hx⟩
  · intro x S9 hx
    exact ⟨by decide, hx⟩
theorem sp_70_87 {X : Nat × (Nat → Int32)} {d w : Nat} {f : Nat → Nat → Int32} {r : Nat → Nat → Option Nat} {C Z N : Nat} {Q : Option ma_V ⊕ Nat → ma_S → Prop} {S : ma_S}  (hd : 3 ≤ d) (hw : 72 ≤ w) (hI : zJ87 f r C Z N S)  (K : ∀ v S', zJ87 f r C Z N S' → (True) → Q (.inl (some (.inl v))) S') : ma_wp X d w 70 0 [(0, .inr (.inr (some 87)))] [] S Q := by
  refine g_70_87_0  (by omega) (by omega) (zG_T hI) ?_
  have li2 : (0 : Int32).toInt = 0 := rfl
  have hI1 : zJ87 f r C Z N (ma_put S 87 8 (.inl (0 : Int32))) := zG_sp hI (0) (1) rfl (by decide) (by decide) (by decide) trivial (by omega) (by omega)
  refine sp_83_69_88  (by omega) (by omega) (zJ87_dn hI1)  (fun S1 hL_S1 => zv_n ⟨zG_T hL_S1, ?_⟩)
  have hI_S1 := zJ87_up hI1 hL_S1
  refine sp_86_69_88  (by omega) (by omega) (zJ87_dn hI_S1)  (fun v4 S3 hL_S3 hp_v4 => zi_n ⟨zG_T hL_S3, ?_⟩)
  have hI_S3 := zJ87_up hI_S1 hL_S3
  have b3 := i_bd v4
  exact K (v4) _ hI_S3 trivial
