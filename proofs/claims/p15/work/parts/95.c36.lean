/-! the class behind (written by wip/tools/gen95c.py) -/
theorem g_150_64_p84_0 {X : Nat × (Nat → Int32)} {d w : Nat} {S : ma_S} {Q : Option ma_V ⊕ Nat → ma_S → Prop} (o : Int32) (i : Int32) (t : Int32) (hd : 8 ≤ d) (hw : 132 ≤ w) (hS : zT S) (h : mR S 64 11 = some 84 ∧ (mR S 64 11 = some 84 ∧ (ma_wp X (d - 1) (w - 22) 149 0 [(0, .inr (.inr (some 64))), (1, .inl o)] [] S (zo (fun v2 S1 => zT S1 ∧ ((∃ c3, v2 = some c3 ∧ (ma_wp X (d - 1) (w - 21) 151 0 [(0, .inr (.inr (some 64))), (1, .inl t)] [] S1 (zo (fun v5 S4 => zT S4 ∧ ((126 ≤ c3 ∧ c3 < mN S4) ∧ (if i < 0 then (Q (.inr 1) (ma_bump S4)) else ((126 ≤ c3 ∧ c3 < mN S4) ∧ (if ((mI S4 c3 2) - (1 : Int32)) ≤ i then (Q (.inr 1) (ma_bump S4)) else ((126 ≤ c3 ∧ c3 < mN S4) ∧ ((126 ≤ c3 ∧ c3 < mN S4) ∧ (if i < 0 then (Q (.inr 5) (ma_bump S4)) else ((126 ≤ c3 ∧ c3 < mN S4) ∧ (if ((mI S4 c3 2) - (1 : Int32)) ≤ i then (Q (.inr 5) (ma_bump S4)) else ((126 ≤ c3 ∧ c3 < mN S4) ∧ (if (lg_cmp ((((mL S4 c3 3).toUInt64 >>> (i.toInt64.toUInt64 &&& Int64.toUInt64 63)).toInt64) &&& (1 : Int64)) (0 : Int64)) = 0 then (Q (.inr 5) (ma_bump S4)) else (ma_wp X (d - 1) (w - 24) 94 0 [(0, .inr (.inr (some 69))), (1, .inr (.inr (some c3))), (2, .inl i), (3, .inr (.inr v5))] [] S4 (zo (fun v7 S6 => zT S6 ∧ (ma_wp X (d - 1) (w - 24) 24 0 [(0, .inr (.inr (some 84))), (1, .inr (.inr v7))] [] S6 (zv (fun S8 => zT S8 ∧ ((v7 = none → Q (.inl (some (.inl (-1 : Int32)))) S8) ∧ (∀ c10, v7 = some c10 → (126 ≤ c10 ∧ c10 < mN S8) ∧ (Q (.inl (some (.inl (mI S8 c10 0)))) S8)))) (fun _ _ => False)))) (fun x S9 => Q (.inr x) S9))))))))))))))) (fun x S9 => Q (.inr x) S9)))))) (fun x S9 => Q (.inr x) S9))))) : ma_wp X d w 150 0 [(0, .inr (.inr (some 64))), (1, .inl o), (2, .inl i), (3, .inl t)] [] S Q := by
  refine zw_push hm_150 dX11_link_0 (v := .inr (.inr (some 64))) rfl ?_
  refine zw_cv hm_150 dX11_link_1 v_11_119_11 hm_144 [] [] rfl (zT_rt hS s_64 rfl) ⟨by omega, by omega⟩ rfl ?_
  show ma_wp X (d - 1) (w - 20) 144 0 [(0, .inr (.inr (some 64)))] [] S _
  refine zw_push hm_144 dX11_needCollector_0 (v := .inr (.inr (some 64))) rfl ?_
  obtain ⟨hg, h⟩ := h
  refine zw_gf hm_144 dX11_needCollector_1 (v := .inr (.inr (some 84))) (zT_is hS s_64) (zT_t hS s_64) rfl f_11_98_11 (congrArg (fun z => Sum.inr (Sum.inr z)) hg) ?_
  refine zw_ifnonnull hm_144 dX11_needCollector_4 (t := 15) rfl (fun z => by cases z) (fun _ _ => ?_)
  refine zw_push hm_144 dX11_needCollector_15 (v := .inr (.inr (some 64))) rfl ?_
  obtain ⟨hg, h⟩ := h
  refine zw_gf hm_144 dX11_needCollector_16 (v := .inr (.inr (some 84))) (zT_is hS s_64) (zT_t hS s_64) rfl f_11_98_11 (congrArg (fun z => Sum.inr (Sum.inr z)) hg) ?_
  refine zw_aret hm_144 dX11_needCollector_19 ?_
  show ma_wp X d w 150 4 [(0, .inr (.inr (some 64))), (1, .inl o), (2, .inl i), (3, .inl t)] [.inr (.inr (some 84))] S _
  refine zw_sto hm_150 dX11_link_4 [(4, .inr (.inr (some 84))), (0, .inr (.inr (some 64))), (1, .inl o), (2, .inl i), (3, .inl t)] rfl rfl rfl ?_
  refine zw_push hm_150 dX11_link_6 (v := .inr (.inr (some 64))) rfl ?_
  refine zw_push hm_150 dX11_link_7 (v := .inl o) rfl ?_
  refine zw_cv hm_150 dX11_link_8 v_11_123_11 hm_149 [.inl o] [] rfl (zT_rt hS s_64 rfl) ⟨by omega, by omega⟩ rfl (zw_mono h (zo_go ?_ ?_))
  · intro v2 S1 hv
    obtain ⟨hS1, h⟩ := hv
    obtain ⟨c3, hc, h⟩ := h
    subst hc
    show ma_wp X d w 150 11 [(4, .inr (.inr (some 84))), (0, .inr (.inr (some 64))), (1, .inl o), (2, .inl i), (3, .inl t)] [.inr (.inr (some c3))] S1 _
    refine zw_sto hm_150 dX11_link_11 [(5, .inr (.inr (some c3))), (4, .inr (.inr (some 84))), (0, .inr (.inr (some 64))), (1, .inl o), (2, .inl i), (3, .inl t)] rfl rfl rfl ?_
    refine zw_push hm_150 dX11_link_13 (v := .inr (.inr (some 64))) rfl ?_
    refine zw_push hm_150 dX11_link_14 (v := .inl t) rfl ?_
    refine zw_cv hm_150 dX11_link_15 v_11_142_11 hm_151 [.inl t] [] rfl (zT_rt hS1 s_64 rfl) ⟨by omega, by omega⟩ rfl (zw_mono h (zo_go ?_ ?_))
    · intro v5 S4 hv
      obtain ⟨hS4, h⟩ := hv
      refine zw_sto hm_150 dX11_link_18 [(6, .inr (.inr v5)), (5, .inr (.inr (some c3))), (4, .inr (.inr (some 84))), (0, .inr (.inr (some 64))), (1, .inl o), (2, .inl i), (3, .inl t)] rfl rfl rfl ?_
      refine zw_push hm_150 dX11_link_20 (v := .inr (.inr (some c3))) rfl ?_
      refine zw_push hm_150 dX11_link_22 (v := .inl i) rfl ?_
      obtain ⟨hg, h⟩ := h
      refine zw_cv hm_150 dX11_link_23 v_11_127_9 hm_114 [.inl i] [] rfl (zT_trt hS4 hg) ⟨by omega, by omega⟩ rfl ?_
      show ma_wp X (d - 1) (w - 21) 114 0 [(0, .inr (.inr (some c3))), (1, .inl i)] [] S4 _
      refine zw_push hm_114 dX9_hasWord_0 (v := .inl i) rfl ?_
      refine zw_if0 hm_114 dX9_hasWord_1 (t := 18) rfl zc0_lt ?_ ?_
      · intro hc
        rw [if_pos hc] at h
        refine zw_push hm_114 dX9_hasWord_18 (v := .inl (0 : Int32)) rfl ?_
        refine zw_bret hm_114 dX9_hasWord_19 (by decide) ?_
        show ma_wp X d w 150 26 [(6, .inr (.inr v5)), (5, .inr (.inr (some c3))), (4, .inr (.inr (some 84))), (0, .inr (.inr (some 64))), (1, .inl o), (2, .inl i), (3, .inl t)] [.inl (0 : Int32)] S4 _
        refine zw_if0 hm_150 dX11_link_26 (t := 37) rfl zc0_ne (fun hc => absurd hc (by decide)) (fun _ => ?_)
        exact zw_thr hm_150 dX11_link_29 dX11_link_32 dX11_link_33 dX11_link_36 x_11_72_74 n_11_72 (by omega) (by show 0 + 81 ≤ w; omega) h
      · intro hc
        rw [if_neg hc] at h
        refine zw_push hm_114 dX9_hasWord_4 (v := .inl i) rfl ?_
        refine zw_push hm_114 dX9_hasWord_5 (v := .inr (.inr (some c3))) rfl ?_
        obtain ⟨hg, h⟩ := h
        refine zw_gf hm_114 dX9_hasWord_6 (v := .inl (mI S4 c3 2)) (zT_tis hS4 hg) (zT_tt hS4 hg) rfl f_9_16_9 rfl ?_
        refine zw_push hm_114 dX9_hasWord_9 (v := .inl (1 : Int32)) rfl ?_
        refine zw_stk hm_114 dX9_hasWord_10 (st' := [.inl ((mI S4 c3 2) - (1 : Int32)), .inl i]) rfl rfl ?_
        refine zw_if2 hm_114 dX9_hasWord_11 (t := 18) rfl zc2_ge ?_ ?_
        · intro hc
          rw [if_pos hc] at h
          refine zw_push hm_114 dX9_hasWord_18 (v := .inl (0 : Int32)) rfl ?_
          refine zw_bret hm_114 dX9_hasWord_19 (by decide) ?_
          show ma_wp X d w 150 26 [(6, .inr (.inr v5)), (5, .inr (.inr (some c3))), (4, .inr (.inr (some 84))), (0, .inr (.inr (some 64))), (1, .inl o), (2, .inl i), (3, .inl t)] [.inl (0 : Int32)] S4 _
          refine zw_if0 hm_150 dX11_link_26 (t := 37) rfl zc0_ne (fun hc => absurd hc (by decide)) (fun _ => ?_)
          exact zw_thr hm_150 dX11_link_29 dX11_link_32 dX11_link_33 dX11_link_36 x_11_72_74 n_11_72 (by omega) (by show 0 + 81 ≤ w; omega) h
        · intro hc
          rw [if_neg hc] at h
          refine zw_push hm_114 dX9_hasWord_14 (v := .inl (1 : Int32)) rfl ?_
          refine zw_goto hm_114 dX9_hasWord_15 (t := 19) rfl ?_
          refine zw_bret hm_114 dX9_hasWord_19 (by decide) ?_
          show ma_wp X d w 150 26 [(6, .inr (.inr v5)), (5, .inr (.inr (some c3))), (4, .inr (.inr (some 84))), (0, .inr (.inr (some 64))), (1, .inl o), (2, .inl i), (3, .inl t)] [.inl (1 : Int32)] S4 _
          refine zw_if0 hm_150 dX11_link_26 (t := 37) rfl zc0_ne (fun _ => ?_) (fun hc => absurd (by decide) hc)
          refine zw_push hm_150 dX11_link_37 (v := .inr (.inr (some c3))) rfl ?_
          refine zw_push hm_150 dX11_link_39 (v := .inl i) rfl ?_
          obtain ⟨hg, h⟩ := h
          refine zw_cv hm_150 dX11_link_40 v_11_132_9 hm_113 [.inl i] [] rfl (zT_trt hS4 hg) ⟨by omega, by omega⟩ rfl ?_
          show ma_wp X (d - 1) (w - 21) 113 0 [(0, .inr (.inr (some c3))), (1, .inl i)] [] S4 _
          refine zw_push hm_113 dX9_isReference_0 (v := .inr (.inr (some c3))) rfl ?_
          refine zw_push hm_113 dX9_isReference_1 (v := .inl i) rfl ?_
          obtain ⟨hg, h⟩ := h
          refine zw_cv hm_113 dX9_isReference_2 v_9_26_9 hm_114 [.inl i] [] rfl (zT_trt hS4 hg) ⟨by omega, by omega⟩ rfl ?_
          show ma_wp X ((d - 1) - 1) ((w - 21) - 21) 114 0 [(0, .inr (.inr (some c3))), (1, .inl i)] [] S4 _
          refine zw_push hm_114 dX9_hasWord_0 (v := .inl i) rfl ?_
          refine zw_if0 hm_114 dX9_hasWord_1 (t := 18) rfl zc0_lt ?_ ?_
          · intro hc
            rw [if_pos hc] at h
            refine zw_push hm_114 dX9_hasWord_18 (v := .inl (0 : Int32)) rfl ?_
            refine zw_bret hm_114 dX9_hasWord_19 (by decide) ?_
            show ma_wp X (d - 1) (w - 21) 113 5 [(0, .inr (.inr (some c3))), (1, .inl i)] [.inl (0 : Int32)] S4 _
            refine zw_if0 hm_113 dX9_isReference_5 (t := 25) rfl zc0_eq (fun _ => ?_) (fun hc => absurd (by decide) hc)
            refine zw_push hm_113 dX9_isReference_25 (v := .inl (0 : Int32)) rfl ?_
            refine zw_bret hm_113 dX9_isReference_26 (by decide) ?_
            show ma_wp X d w 150 43 [(6, .inr (.inr v5)), (5, .inr (.inr (some c3))), (4, .inr (.inr (some 84))), (0, .inr (.inr (some 64))), (1, .inl o), (2, .inl i), (3, .inl t)] [.inl (0 : Int32)] S4 _
            refine zw_if0 hm_150 dX11_link_43 (t := 54) rfl zc0_ne (fun hc => absurd hc (by decide)) (fun _ => ?_)
            exact zw_thr hm_150 dX11_link_46 dX11_link_49 dX11_link_50 dX11_link_53 x_11_135_137 n_11_135 (by omega) (by show 0 + 81 ≤ w; omega) h
          · intro hc
            rw [if_neg hc] at h
            refine zw_push hm_114 dX9_hasWord_4 (v := .inl i) rfl ?_
            refine zw_push hm_114 dX9_hasWord_5 (v := .inr (.inr (some c3))) rfl ?_
            obtain ⟨hg, h⟩ := h
            refine zw_gf hm_114 dX9_hasWord_6 (v := .inl (mI S4 c3 2)) (zT_tis hS4 hg) (zT_tt hS4 hg) rfl f_9_16_9 rfl ?_
            refine zw_push hm_114 dX9_hasWord_9 (v := .inl (1 : Int32)) rfl ?_
            refine zw_stk hm_114 dX9_hasWord_10 (st' := [.inl ((mI S4 c3 2) - (1 : Int32)), .inl i]) rfl rfl ?_
            refine zw_if2 hm_114 dX9_hasWord_11 (t := 18) rfl zc2_ge ?_ ?_
            · intro hc
              rw [if_pos hc] at h
              refine zw_push hm_114 dX9_hasWord_18 (v := .inl (0 : Int32)) rfl ?_
              refine zw_bret hm_114 dX9_hasWord_19 (by decide) ?_
              show ma_wp X (d - 1) (w - 21) 113 5 [(0, .inr (.inr (some c3))), (1, .inl i)] [.inl (0 : Int32)] S4 _
              refine zw_if0 hm_113 dX9_isReference_5 (t := 25) rfl zc0_eq (fun _ => ?_) (fun hc => absurd (by decide) hc)
              refine zw_push hm_113 dX9_isReference_25 (v := .inl (0 : Int32)) rfl ?_
              refine zw_bret hm_113 dX9_isReference_26 (by decide) ?_
              show ma_wp X d w 150 43 [(6, .inr (.inr v5)), (5, .inr (.inr (some c3))), (4, .inr (.inr (some 84))), (0, .inr (.inr (some 64))), (1, .inl o), (2, .inl i), (3, .inl t)] [.inl (0 : Int32)] S4 _
              refine zw_if0 hm_150 dX11_link_43 (t := 54) rfl zc0_ne (fun hc => absurd hc (by decide)) (fun _ => ?_)
              exact zw_thr hm_150 dX11_link_46 dX11_link_49 dX11_link_50 dX11_link_53 x_11_135_137 n_11_135 (by omega) (by show 0 + 81 ≤ w; omega) h
            · intro hc
              rw [if_neg hc] at h
              refine zw_push hm_114 dX9_hasWord_14 (v := .inl (1 : Int32)) rfl ?_
              refine zw_goto hm_114 dX9_hasWord_15 (t := 19) rfl ?_
              refine zw_bret hm_114 dX9_hasWord_19 (by decide) ?_
              show ma_wp X (d - 1) (w - 21) 113 5 [(0, .inr (.inr (some c3))), (1, .inl i)] [.inl (1 : Int32)] S4 _
              refine zw_if0 hm_113 dX9_isReference_5 (t := 25) rfl zc0_eq (fun hc => absurd hc (by decide)) (fun _ => ?_)
              refine zw_push hm_113 dX9_isReference_8 (v := .inr (.inr (some c3))) rfl ?_
              obtain ⟨hg, h⟩ := h
              refine zw_gf hm_113 dX9_isReference_9 (v := .inr (.inl (mL S4 c3 3))) (zT_tis hS4 hg) (zT_tt hS4 hg) rfl f_9_19_9 rfl ?_
              refine zw_push hm_113 dX9_isReference_12 (v := .inl i) rfl ?_
              refine zw_stk hm_113 dX9_isReference_13 (st' := [.inr (.inl (((mL S4 c3 3).toUInt64 >>> (i.toInt64.toUInt64 &&& Int64.toUInt64 63)).toInt64))]) rfl rfl ?_
              refine zw_push hm_113 dX9_isReference_14 (v := .inr (.inl (1 : Int64))) rfl ?_
              refine zw_stk hm_113 dX9_isReference_15 (st' := [.inr (.inl ((((mL S4 c3 3).toUInt64 >>> (i.toInt64.toUInt64 &&& Int64.toUInt64 63)).toInt64) &&& (1 : Int64)))]) rfl rfl ?_
              refine zw_push hm_113 dX9_isReference_16 (v := .inr (.inl (0 : Int64))) rfl ?_
              refine zw_stk hm_113 dX9_isReference_17 (st' := [.inl (lg_cmp ((((mL S4 c3 3).toUInt64 >>> (i.toInt64.toUInt64 &&& Int64.toUInt64 63)).toInt64) &&& (1 : Int64)) (0 : Int64))]) rfl rfl ?_
              refine zw_if0 hm_113 dX9_isReference_18 (t := 25) rfl zc0_eq ?_ ?_
              · intro hc
                rw [if_pos hc] at h
                refine zw_push hm_113 dX9_isReference_25 (v := .inl (0 : Int32)) rfl ?_
                refine zw_bret hm_113 dX9_isReference_26 (by decide) ?_
                show ma_wp X d w 150 43 [(6, .inr (.inr v5)), (5, .inr (.inr (some c3))), (4, .inr (.inr (some 84))), (0, .inr (.inr (some 64))), (1, .inl o), (2, .inl i), (3, .inl t)] [.inl (0 : Int32)] S4 _
                refine zw_if0 hm_150 dX11_link_43 (t := 54) rfl zc0_ne (fun hc => absurd hc (by decide)) (fun _ => ?_)
                exact zw_thr hm_150 dX11_link_46 dX11_link_49 dX11_link_50 dX11_link_53 x_11_135_137 n_11_135 (by omega) (by show 0 + 81 ≤ w; omega) h
              · intro hc
                rw [if_neg hc] at h
                refine zw_push hm_113 dX9_isReference_21 (v := .inl (1 : Int32)) rfl ?_
                refine zw_goto hm_113 dX9_isReference_22 (t := 26) rfl ?_
                refine zw_bret hm_113 dX9_isReference_26 (by decide) ?_
                show ma_wp X d w 150 43 [(6, .inr (.inr v5)), (5, .inr (.inr (some c3))), (4, .inr (.inr (some 84))), (0, .inr (.inr (some 64))), (1, .inl o), (2, .inl i), (3, .inl t)] [.inl (1 : Int32)] S4 _
                refine zw_if0 hm_150 dX11_link_43 (t := 54) rfl zc0_ne (fun _ => ?_) (fun hc => absurd (by decide) hc)
                refine zw_push hm_150 dX11_link_54 (v := .inr (.inr (some 64))) rfl ?_
                refine zw_gf hm_150 dX11_link_55 (v := .inr (.inr (some 69))) (zT_is hS4 s_64) (zT_t hS4 s_64) rfl f_11_26_11 (zT_f hS4 r_64_8) ?_
                refine zw_push hm_150 dX11_link_58 (v := .inr (.inr (some c3))) rfl ?_
                refine zw_push hm_150 dX11_link_60 (v := .inl i) rfl ?_
                refine zw_push hm_150 dX11_link_61 (v := .inr (.inr v5)) rfl ?_
                refine zw_cv hm_150 dX11_link_63 v_11_145_7 hm_94 [.inr (.inr v5), .inl i, .inr (.inr (some c3))] [] rfl (zT_rt hS4 s_69 rfl) ⟨by omega, by omega⟩ rfl (zw_mono h (zo_go ?_ ?_))
                · intro v7 S6 hv
                  obtain ⟨hS6, h⟩ := hv
                  refine zw_sto hm_150 dX11_link_66 [(7, .inr (.inr v7)), (6, .inr (.inr v5)), (5, .inr (.inr (some c3))), (4, .inr (.inr (some 84))), (0, .inr (.inr (some 64))), (1, .inl o), (2, .inl i), (3, .inl t)] rfl rfl rfl ?_
                  refine zw_push hm_150 dX11_link_68 (v := .inr (.inr (some 84))) rfl ?_
                  refine zw_push hm_150 dX11_link_70 (v := .inr (.inr (some c3))) rfl ?_
                  refine zw_push hm_150 dX11_link_72 (v := .inl i) rfl ?_
                  refine zw_push hm_150 dX11_link_73 (v := .inr (.inr v5)) rfl ?_
                  refine zw_cv hm_150 dX11_link_75 v_11_149_2 hm_267 [.inr (.inr v5), .inl i, .inr (.inr (some c3))] [] rfl (zT_rt hS6 s_84 rfl) ⟨by omega, by omega⟩ rfl ?_
                  show ma_wp X (d - 1) (w - 23) 267 0 [(0, .inr (.inr (some 84))), (1, .inr (.inr (some c3))), (2, .inl i), (3, .inr (.inr v5))] [] S6 _
                  refine zw_vret hm_267 dX1_noteReference_0 ?_
                  show ma_wp X d w 150 78 [(7, .inr (.inr v7)), (6, .inr (.inr v5)), (5, .inr (.inr (some c3))), (4, .inr (.inr (some 84))), (0, .inr (.inr (some 64))), (1, .inl o), (2, .inl i), (3, .inl t)] [] S6 _
                  refine zw_push hm_150 dX11_link_78 (v := .inr (.inr (some 84))) rfl ?_
                  refine zw_push hm_150 dX11_link_80 (v := .inr (.inr v7)) rfl ?_
                  refine zw_push hm_150 dX11_link_82 (v := .inr (.inr v5)) rfl ?_
                  refine zw_cv hm_150 dX11_link_84 v_11_153_2 hm_265 [.inr (.inr v5), .inr (.inr v7)] [] rfl (zT_rt hS6 s_84 rfl) ⟨by omega, by omega⟩ rfl ?_
                  show ma_wp X (d - 1) (w - 22) 265 0 [(0, .inr (.inr (some 84))), (1, .inr (.inr v7)), (2, .inr (.inr v5))] [] S6 _
                  refine zw_vret hm_265 dX1_noteChange_0 ?_
                  show ma_wp X d w 150 87 [(7, .inr (.inr v7)), (6, .inr (.inr v5)), (5, .inr (.inr (some c3))), (4, .inr (.inr (some 84))), (0, .inr (.inr (some 64))), (1, .inl o), (2, .inl i), (3, .inl t)] [] S6 _
                  refine zw_push hm_150 dX11_link_87 (v := .inr (.inr (some 84))) rfl ?_
                  refine zw_push hm_150 dX11_link_89 (v := .inr (.inr v7)) rfl ?_
                  refine zw_cv hm_150 dX11_link_91 v_11_157_2 hm_24 [.inr (.inr v7)] [] rfl (zT_rt hS6 s_84 rfl) ⟨by omega, by omega⟩ rfl (zw_mono h (zv_go ?_ ?_))
                  · intro S8 hv
                    obtain ⟨hS8, h⟩ := hv
                    refine zw_push hm_150 dX11_link_94 (v := .inr (.inr v7)) rfl ?_
                    refine zw_cs hm_150 dX11_link_96 pn_11_161 sl_11_161 hm_146 [.inr (.inr v7)] [] rfl ⟨by omega, by omega⟩ rfl ?_
                    show ma_wp X (d - 1) (w - 20) 146 0 [(0, .inr (.inr v7))] [] S8 _
                    refine zw_push hm_146 dX11_numberOf_0 (v := .inr (.inr v7)) rfl ?_
                    refine zw_ifnonnull hm_146 dX11_numberOf_1 (t := 8) rfl ?_ ?_
                    · intro hc
                      have h := h.1 hc
                      (try rw [hc])
                      show ma_wp X (d - 1) (w - 20) 146 4 [(0, .inr (.inr none))] [] S8 _
                      refine zw_push hm_146 dX11_numberOf_4 (v := .inl (-1 : Int32)) rfl ?_
                      refine zw_goto hm_146 dX11_numberOf_5 (t := 12) rfl ?_
                      refine zw_iret hm_146 dX11_numberOf_12 ?_
                      show ma_wp X d w 150 99 [(7, .inr (.inr none)), (6, .inr (.inr v5)), (5, .inr (.inr (some c3))), (4, .inr (.inr (some 84))), (0, .inr (.inr (some 64))), (1, .inl o), (2, .inl i), (3, .inl t)] [.inl (-1 : Int32)] S8 _
                      exact zw_iret hm_150 dX11_link_99 h
                    · intro c10 hc
                      have h := h.2 c10 hc
                      (try rw [hc])
                      show ma_wp X (d - 1) (w - 20) 146 8 [(0, .inr (.inr (some c10)))] [] S8 _
                      refine zw_push hm_146 dX11_numberOf_8 (v := .inr (.inr (some c10))) rfl ?_
                      obtain ⟨hg, h⟩ := h
                      refine zw_gf hm_146 dX11_numberOf_9 (v := .inl (mI S8 c10 0)) (zT_tis hS8 hg) (zT_tt hS8 hg) rfl f_11_182_9 rfl ?_
                      refine zw_iret hm_146 dX11_numberOf_12 ?_
                      show ma_wp X d w 150 99 [(7, .inr (.inr (some c10))), (6, .inr (.inr v5)), (5, .inr (.inr (some c3))), (4, .inr (.inr (some 84))), (0, .inr (.inr (some 64))), (1, .inl o), (2, .inl i), (3, .inl t)] [.inl (mI S8 c10 0)] S8 _
                      exact zw_iret hm_150 dX11_link_99 h
                  · intro x S9 hx
                    exact hx.elim
                · intro x S9 hx
                  exact ⟨by decide, hx⟩
    · intro x S9 hx
      exact ⟨by decide, hx⟩
  · intro x S9 hx
    exact ⟨by decide, hx⟩
theorem sp_150_64_p84 {X : Nat × (Nat → Int32)} {d w : Nat} {f : Nat → Nat → Int32} {r : Nat → Nat → Option Nat} {C Z N : Nat} {Q : Option ma_V ⊕ Nat → ma_S → Prop} {S : ma_S} (o : Int32) (i : Int32) (t : Int32) (hd : 8 ≤ d) (hw : 132 ≤ w) (hI : zB f r C Z N S) (hr : r 64 11 = some 84)  (K : ∀ v S', zB f r C Z N S' → (True) → Q (.inl (some (.inl v))) S') (KX : ∀ x S', (x = 1 ∨ x = 3 ∨ x = 4 ∨ x = 5) → zB f r C Z N S' → Q (.inr x) (ma_bump S')) : ma_wp X d w 150 0 [(0, .inr (.inr (some 64))), (1, .inl o), (2, .inl i), (3, .inl t)] [] S Q := by
  refine g_150_64_p84_0 o i t (by omega) (by omega) (zG_T hI) ?_
  refine ⟨((zG_r hI (by decide)).trans hr), ?_⟩
  refine ⟨((zG_r hI (by decide)).trans hr), ?_⟩
  have b1 := i_bd o
  refine sp_149_64 (o) (by omega) (by omega) (zB_dn_zI hI)  (fun v2 S1 hL_S1 hq_v2 => zo_n ⟨zG_T hL_S1, ?_⟩) (fun x S9 hx h9 => zo_x (KX x S9 (by omega) (zB_up_zI hI h9)))
  have hI_S1 := zB_up_zI hI hL_S1
  obtain ⟨c3, hc, th_c3⟩ := hq_v2
  refine ⟨c3, hc, ?_⟩
  have b2 := i_bd t
  refine sp_151_64 (t) (by omega) (by omega) (zB_dn_zI hI_S1)  (fun v5 S4 hL_S4 hq_v5 => zo_n ⟨zG_T hL_S4, ?_⟩) (fun x S9 hx h9 => zo_x (KX x S9 (by omega) (zB_up_zI hI_S1 h9)))
  have hI_S4 := zB_up_zI hI_S1 hL_S4
  refine ⟨zG_n hI_S4 th_c3, ?_⟩
  have b3 := i_bd i
  have li4 : (0 : Int32).toInt = 0 := rfl
  refine zd (fun h5 => ?_) (fun h5 => ?_)
  · skip
    have g6 := i_lt h5
    exact KX 1 _ (by decide) hI_S4
  · skip
    have g7 := i_nlt h5
    refine ⟨zG_n hI_S4 th_c3, ?_⟩
    have f8 := zG_th hI_S4 th_c3
    first | have e9 : ((mI S4 c3 2) - (1 : Int32)).toInt = (mI S4 c3 2).toInt - (1) := i_subk rfl (by omega) (by omega) | have b10 := i_bd ((mI S4 c3 2) - (1 : Int32))
    refine zd (fun h11 => ?_) (fun h11 => ?_)
    · skip
      have g12 := i_le h11
      exact KX 1 _ (by decide) hI_S4
    · skip
      have g13 := i_nle h11
      refine ⟨zG_n hI_S4 th_c3, ?_⟩
      refine ⟨zG_n hI_S4 th_c3, ?_⟩
      refine zd (fun h14 => ?_) (fun h14 => ?_)
      · skip
        have g15 := i_lt h14
        exact KX 5 _ (by decide) hI_S4
      · skip
        have g16 := i_nlt h14
        refine ⟨zG_n hI_S4 th_c3, ?_⟩
        refine zd (fun h17 => ?_) (fun h17 => ?_)
        · skip
          have g18 := i_le h17
          exact KX 5 _ (by decide) hI_S4
        · skip
          have g19 := i_nle h17
          refine ⟨zG_n hI_S4 th_c3, ?_⟩
          have b20 := i_bd (lg_cmp ((((mL S4 c3 3).toUInt64 >>> (i.toInt64.toUInt64 &&& Int64.toUInt64 63)).toInt64) &&& (1 : Int64)) (0 : Int64))
          refine zd (fun h21 => ?_) (fun h21 => ?_)
          · skip
            have g22 := i_eq h21
            exact KX 5 _ (by decide) hI_S4
          · skip
            have g23 := i_ne h21
            refine sp_94_69 c3 (i) (v5) (by omega) (by omega) (zB_dn_zI hI_S4) th_c3 hq_v5 (fun v7 S6 hL_S6 hq_v7 => zo_n ⟨zG_T hL_S6, ?_⟩)
            have hI_S6 := zB_up_zI hI_S4 hL_S6
            refine sp_24_84 (v7) (by omega) (by omega) (zB_dn_zJ84 hI_S6) hq_v7 (fun S8 hL_S8 => zv_n ⟨zG_T hL_S8, ?_⟩)
            have hI_S8 := zB_up_zJ84 hI_S6 hL_S8
            refine ⟨fun _ => ?_, fun c10 hc => ?_⟩
            · skip
              have li24 : (-1 : Int32).toInt = -1 := rfl
              exact K ((-1 : Int32)) _ hI_S8 trivial
            · skip
              have th_c10 := hq_v7 c10 hc
              subst hc
              refine ⟨zG_n hI_S8 th_c10, ?_⟩
              have f25 := zG_th hI_S8 th_c10
              exact K ((mI S8 c10 0)) _ hI_S8 trivial
theorem g_153_64_p84_0 {X : Nat × (Nat → Int32)} {d w : Nat} {S : ma_S} {Q : Option ma_V ⊕ Nat → ma_S → Prop} (i : Int32) (o : Int32) (hd : 8 ≤ d) (hw : 134 ≤ w) (hS : zT S) (h : if i < 0 then (Q (.inr 2) (ma_bump S)) else (if (16 : Int32) ≤ i then (Q (.inr 2) (ma_bump S)) else (mR S 64 11 = some 84 ∧ (mR S 64 11 = some 84 ∧ (ma_wp X (d - 1) (w - 21) 151 0 [(0, .inr (.inr (some 64))), (1, .inl o)] [] S (zo (fun v2 S1 => zT S1 ∧ (ma_wp X (d - 1) (w - 24) 145 0 [(0, .inr (.inr (some 64))), (1, .inr (.inr (some 84))), (2, .inl i), (3, .inr (.inr v2))] [] S1 (zo (fun v4 S3 => zT S3 ∧ ((v4 = none → Q (.inl (some (.inl (-1 : Int32)))) S3) ∧ (∀ c5, v4 = some c5 → (126 ≤ c5 ∧ c5 < mN S3) ∧ (Q (.inl (some (.inl (mI S3 c5 0)))) S3)))) (fun x S9 => Q (.inr x) S9)))) (fun x S9 => Q (.inr x) S9))))))) : ma_wp X d w 153 0 [(0, .inr (.inr (some 64))), (1, .inl i), (2, .inl o)] [] S Q := by
  refine zw_push hm_153 dX11_root_0 (v := .inl i) rfl ?_
  refine zw_cs hm_153 dX11_root_1 pn_11_109 sl_11_109 hm_142 [.inl i] [] rfl ⟨by omega, by omega⟩ rfl ?_
  show ma_wp X (d - 1) (w - 20) 142 0 [(0, .inl i)] [] S _
  refine zw_push hm_142 dX11_isSlot_0 (v := .inl i) rfl ?_
  refine zw_if0 hm_142 dX11_isSlot_1 (t := 14) rfl zc0_lt ?_ ?_
  · intro hc
    rw [if_pos hc] at h
    refine zw_push hm_142 dX11_isSlot_14 (v := .inl (0 : Int32)) rfl ?_
    refine zw_bret hm_142 dX11_isSlot_15 (by decide) ?_
    show ma_wp X d w 153 4 [(0, .inr (.inr (some 64))), (1, .inl i), (2, .inl o)] [.inl (0 : Int32)] S _
    refine zw_if0 hm_153 dX11_root_4 (t := 15) rfl zc0_ne (fun hc => absurd hc (by decide)) (fun _ => ?_)
    exact zw_thr hm_153 dX11_root_7 dX11_root_10 dX11_root_11 dX11_root_14 x_11_79_81 n_11_79 (by omega) (by show 0 + 81 ≤ w; omega) h
  · intro hc
    rw [if_neg hc] at h
    refine zw_push hm_142 dX11_isSlot_4 (v := .inl i) rfl ?_
    refine zw_push hm_142 dX11_isSlot_5 (v := .inl (16 : Int32)) rfl ?_
    refine zw_if2 hm_142 dX11_isSlot_7 (t := 14) rfl zc2_ge ?_ ?_
    · intro hc
      rw [if_pos hc] at h
      refine zw_push hm_142 dX11_isSlot_14 (v := .inl (0 : Int32)) rfl ?_
      refine zw_bret hm_142 dX11_isSlot_15 (by decide) ?_
      show ma_wp X d w 153 4 [(0, .inr (.inr (some 64))), (1, .inl i), (2, .inl o)] [.inl (0 : Int32)] S _
      refine zw_if0 hm_153 dX11_root_4 (t := 15) rfl zc0_ne (fun hc => absurd hc (by decide)) (fun _ => ?_)
      exact zw_thr hm_153 dX11_root_7 dX11_root_10 dX11_root_11 dX11_root_14 x_11_79_81 n_11_79 (by omega) (by show 0 + 81 ≤ w; omega) h
    · intro hc
      rw [if_neg hc] at h
      refine zw_push hm_142 dX11_isSlot_10 (v := .inl (1 : Int32)) rfl ?_
      refine zw_goto hm_142 dX11_isSlot_11 (t := 15) rfl ?_
      refine zw_bret hm_142 dX11_isSlot_15 (by decide) ?_
      show ma_wp X d w 153 4 [(0, .inr (.inr (some 64))), (1, .inl i), (2, .inl o)] [.inl (1 : Int32)] S _
      refine zw_if0 hm_153 dX11_root_4 (t := 15) rfl zc0_ne (fun _ => ?_) (fun hc => absurd (by decide) hc)
      refine zw_push hm_153 dX11_root_15 (v := .inr (.inr (some 64))) rfl ?_
      refine zw_cv hm_153 dX11_root_16 v_11_119_11 hm_144 [] [] rfl (zT_rt hS s_64 rfl) ⟨by omega, by omega⟩ rfl ?_
      show ma_wp X (d - 1) (w - 20) 144 0 [(0, .inr (.inr (some 64)))] [] S _
      refine zw_push hm_144 dX11_needCollector_0 (v := .inr (.inr (some 64))) rfl ?_
      obtain ⟨hg, h⟩ := h
      refine zw_gf hm_144 dX11_needCollector_1 (v := .inr (.inr (some 84))) (zT_is hS s_64) (zT_t hS s_64) rfl f_11_98_11 (congrArg (fun z => Sum.inr (Sum.inr z)) hg) ?_
      refine zw_ifnonnull hm_144 dX11_needCollector_4 (t := 15) rfl (fun z => by cases z) (fun _ _ => ?_)
      refine zw_push hm_144 dX11_needCollector_15 (v := .inr (.inr (some 64))) rfl ?_
      obtain ⟨hg, h⟩ := h
      refine zw_gf hm_144 dX11_needCollector_16 (v := .inr (.inr (some 84))) (zT_is hS s_64) (zT_t hS s_64) rfl f_11_98_11 (congrArg (fun z => Sum.inr (Sum.inr z)) hg) ?_
      refine zw_aret hm_144 dX11_needCollector_19 ?_
      show ma_wp X d w 153 19 [(0, .inr (.inr (some 64))), (1, .inl i), (2, .inl o)] [.inr (.inr (some 84))] S _
      refine zw_sto hm_153 dX11_root_19 [(3, .inr (.inr (some 84))), (0, .inr (.inr (some 64))), (1, .inl i), (2, .inl o)] rfl rfl rfl ?_
      refine zw_push hm_153 dX11_root_20 (v := .inr (.inr (some 64))) rfl ?_
      refine zw_push hm_153 dX11_root_21 (v := .inl o) rfl ?_
      refine zw_cv hm_153 dX11_root_22 v_11_142_11 hm_151 [.inl o] [] rfl (zT_rt hS s_64 rfl) ⟨by omega, by omega⟩ rfl (zw_mono h (zo_go ?_ ?_))
      · intro v2 S1 hv
        obtain ⟨hS1, h⟩ := hv
        refine zw_sto hm_153 dX11_root_25 [(4, .inr (.inr v2)), (3, .inr (.inr (some 84))), (0, .inr (.inr (some 64))), (1, .inl i), (2, .inl o)] rfl rfl rfl ?_
        refine zw_push hm_153 dX11_root_27 (v := .inr (.inr (some 64))) rfl ?_
        refine zw_push hm_153 dX11_root_28 (v := .inr (.inr (some 84))) rfl ?_
        refine zw_push hm_153 dX11_root_29 (v := .inl i) rfl ?_
        refine zw_push hm_153 dX11_root_30 (v := .inr (.inr v2)) rfl ?_
        refine zw_cv hm_153 dX11_root_32 v_11_169_11 hm_145 [.inr (.inr v2), .inl i, .inr (.inr (some 84))] [] rfl (zT_rt hS1 s_64 rfl) ⟨by omega, by omega⟩ rfl (zw_mono h (zo_go ?_ ?_))
        · intro v4 S3 hv
          obtain ⟨hS3, h⟩ := hv
          refine zw_cs hm_153 dX11_root_35 pn_11_161 sl_11_161 hm_146 [.inr (.inr v4)] [] rfl ⟨by omega, by omega⟩ rfl ?_
          show ma_wp X (d - 1) (w - 20) 146 0 [(0, .inr (.inr v4))] [] S3 _
          refine zw_push hm_146 dX11_numberOf_0 (v := .inr (.inr v4)) rfl ?_
          refine zw_ifnonnull hm_146 dX11_numberOf_1 (t := 8) rfl ?_ ?_
          · intro hc
            have h := h.1 hc
            (try rw [hc])
            show ma_wp X (d - 1) (w - 20) 146 4 [(0, .inr (.inr none))] [] S3 _
            refine zw_push hm_146 dX11_numberOf_4 (v := .inl (-1 : Int32)) rfl ?_
            refine zw_goto hm_146 dX11_numberOf_5 (t := 12) rfl ?_
            refine zw_iret hm_146 dX11_numberOf_12 ?_
            show ma_wp X d w 153 38 [(4, .inr (.inr v2)), (3, .inr (.inr (some 84))), (0, .inr (.inr (some 64))), (1, .inl i), (2, .inl o)] [.inl (-1 : Int32)] S3 _
            exact zw_iret hm_153 dX11_root_38 h
          · intro c5 hc
            have h := h.2 c5 hc
            (try rw [hc])
            show ma_wp X (d - 1) (w - 20) 146 8 [(0, .inr (.inr (some c5)))] [] S3 _
            refine zw_push hm_146 dX11_numberOf_8 (v := .inr (.inr (some c5))) rfl ?_
            obtain ⟨hg, h⟩ := h
            refine zw_gf hm_146 dX11_numberOf_9 (v := .inl (mI S3 c5 0)) (zT_tis hS3 hg) (zT_tt hS3 hg) rfl f_11_182_9 rfl ?_
            refine zw_iret hm_146 dX11_numberOf_12 ?_
            show ma_wp X d w 153 38 [(4, .inr (.inr v2)), (3, .inr (.inr (some 84))), (0, .inr (.inr (some 64))), (1, .inl i), (2, .inl o)] [.inl (mI S3 c5 0)] S3 _
            exact zw_iret hm_153 dX11_root_38 h
        · intro x S9 hx
          exact ⟨by decide, hx⟩
      · intro x S9 hx
        exact ⟨by decide, hx⟩
theorem sp_153_64_p84 {X : Nat × (Nat → Int32)} {d w : Nat} {f : Nat → Nat → Int32} {r : Nat → Nat → Option Nat} {C Z N : Nat} {Q : Option ma_V ⊕ Nat → ma_S → Prop} {S : ma_S} (i : Int32) (o : Int32) (hd : 8 ≤ d) (hw : 134 ≤ w) (hI : zB f r C Z N S) (hr : r 64 11 = some 84)  (K : ∀ v S', zB f r C Z N S' → (True) → Q (.inl (some (.inl v))) S') (KX : ∀ x S', (x = 2 ∨ x = 3 ∨ x = 4) → zB f r C Z N S' → Q (.inr x) (ma_bump S')) : ma_wp X d w 153 0 [(0, .inr (.inr (some 64))), (1, .inl i), (2, .inl o)] [] S Q := by
  refine g_153_64_p84_0 i o (by omega) (by omega) (zG_T hI) ?_
  have b1 := i_bd i
  have li2 : (0 : Int32).toInt = 0 := rfl
  refine zd (fun h3 => ?_) (fun h3 => ?_)
  · skip
    have g4 := i_lt h3
    exact KX 2 _ (by decide) hI
  · skip
    have g5 := i_nlt h3
    have li6 : (16 : Int32).toInt = 16 := rfl
    refine zd (fun h7 => ?_) (fun h7 => ?_)
    · skip
      have g8 := i_le h7
      exact KX 2 _ (by decide) hI
    · skip
      have g9 := i_nle h7
      refine ⟨((zG_r hI (by decide)).trans hr), ?_⟩
      refine ⟨((zG_r hI (by decide)).trans hr), ?_⟩
      have b10 := i_bd o
      refine sp_151_64 (o) (by omega) (by omega) (zB_dn_zI hI)  (fun v2 S1 hL_S1 hq_v2 => zo_n ⟨zG_T hL_S1, ?_⟩) (fun x S9 hx h9 => zo_x (KX x S9 (by omega) (zB_up_zI hI h9)))
      have hI_S1 := zB_up_zI hI hL_S1
      refine sp_145_64_84 (i) (v2) (by omega) (by omega) (zB_dn_zJ84 hI_S1) hq_v2 (fun v4 S3 hL_S3 hq_v4 => zo_n ⟨zG_T hL_S3, ?_⟩)
      have hI_S3 := zB_up_zJ84 hI_S1 hL_S3
      refine ⟨fun _ => ?_, fun c5 hc => ?_⟩
      · skip
        have li11 : (-1 : Int32).toInt = -1 := rfl
        exact K ((-1 : Int32)) _ hI_S3 trivial
      · skip
        have th_c5 := hq_v4 c5 hc
        subst hc
        refine ⟨zG_n hI_S3 th_c5, ?_⟩
        have f12 := zG_th hI_S3 th_c5
        exact K ((mI S3 c5 0)) _ hI_S3 trivial
theorem g_155_64_p84_0 {X : Nat × (Nat → Int32)} {d w : Nat} {S : ma_S} {Q : Option ma_V ⊕ Nat → ma_S → Prop} (i : Int32) (rt : Int32) (hd : 7 ≤ d) (hw : 134 ≤ w) (hS : zT S) (h : if i < 0 then (Q (.inr 2) (ma_bump S)) else (if (16 : Int32) ≤ i then (Q (.inr 2) (ma_bump S)) else (if rt < 0 then (Q (.inr 2) (ma_bump S)) else (if (16 : Int32) ≤ rt then (Q (.inr 2) (ma_bump S)) else (mR S 64 11 = some 84 ∧ (mR S 64 11 = some 84 ∧ ((0 ≤ i ∧ i.toNatClampNeg < 16) ∧ (if (mI S 73 i.toNatClampNeg) < 0 then (Q (.inl (some (.inl (-1 : Int32)))) S) else (if (512 : Int32) ≤ (mI S 73 i.toNatClampNeg) then (Q (.inl (some (.inl (-1 : Int32)))) S) else ((0 ≤ (mI S 73 i.toNatClampNeg) ∧ (mI S 73 i.toNatClampNeg).toNatClampNeg < 512) ∧ (((mR S 70 (mI S 73 i.toNatClampNeg).toNatClampNeg) = none → Q (.inl (some (.inl (-1 : Int32)))) S) ∧ (∀ c1, (mR S 70 (mI S 73 i.toNatClampNeg).toNatClampNeg) = some c1 → ma_wp X (d - 1) (w - 24) 145 0 [(0, .inr (.inr (some 64))), (1, .inr (.inr (some 84))), (2, .inl rt), (3, .inr (.inr (some c1)))] [] S (zo (fun v3 S2 => zT S2 ∧ ((126 ≤ c1 ∧ c1 < mN S2) ∧ (Q (.inl (some (.inl (mI S2 c1 0)))) S2))) (fun x S9 => Q (.inr x) S9)))))))))))))) : ma_wp X d w 155 0 [(0, .inr (.inr (some 64))), (1, .inl i), (2, .inl rt)] [] S Q := by
  refine zw_push hm_155 dX11_strong_0 (v := .inl i) rfl ?_
  refine zw_cs hm_155 dX11_strong_1 pn_11_109 sl_11_109 hm_142 [.inl i] [] rfl ⟨by omega, by omega⟩ rfl ?_
  show ma_wp X (d - 1) (w - 20) 142 0 [(0, .inl i)] [] S _
  refine zw_push hm_142 dX11_isSlot_0 (v := .inl i) rfl ?_
  refine zw_if0 hm_142 dX11_isSlot_1 (t := 14) rfl zc0_lt ?_ ?_
  · intro hc
    rw [if_pos hc] at h
    refine zw_push hm_142 dX11_isSlot_14 (v := .inl (0 : Int32)) rfl ?_
    refine zw_bret hm_142 dX11_isSlot_15 (by decide) ?_
    show ma_wp X d w 155 4 [(0, .inr (.inr (some 64))), (1, .inl i), (2, .inl rt)] [.inl (0 : Int32)] S _
    refine zw_if0 hm_155 dX11_strong_4 (t := 14) rfl zc0_eq (fun _ => ?_) (fun hc => absurd (by decide) hc)
    exact zw_thr hm_155 dX11_strong_14 dX11_strong_17 dX11_strong_18 dX11_strong_21 x_11_79_81 n_11_79 (by omega) (by show 0 + 81 ≤ w; omega) h
  · intro hc
    rw [if_neg hc] at h
    refine zw_push hm_142 dX11_isSlot_4 (v := .inl i) rfl ?_
    refine zw_push hm_142 dX11_isSlot_5 (v := .inl (16 : Int32)) rfl ?_
    refine zw_if2 hm_142 dX11_isSlot_7 (t := 14) rfl zc2_ge ?_ ?_
    · intro hc
      rw [if_pos hc] at h
      refine zw_push hm_142 dX11_isSlot_14 (v := .inl (0 : Int32)) rfl ?_
      refine zw_bret hm_142 dX11_isSlot_15 (by decide) ?_
      show ma_wp X d w 155 4 [(0, .inr (.inr (some 64))), (1, .inl i), (2, .inl rt)] [.inl (0 : Int32)] S _
      refine zw_if0 hm_155 dX11_strong_4 (t := 14) rfl zc0_eq (fun _ => ?_) (fun hc => absurd (by decide) hc)
      exact zw_thr hm_155 dX11_strong_14 dX11_strong_17 dX11_strong_18 dX11_strong_21 x_11_79_81 n_11_79 (by omega) (by show 0 + 81 ≤ w; omega) h
    · intro hc
      rw [if_neg hc] at h
      refine zw_push hm_142 dX11_isSlot_10 (v := .inl (1 : Int32)) rfl ?_
      refine zw_goto hm_142 dX11_isSlot_11 (t := 15) rfl ?_
      refine zw_bret hm_142 dX11_isSlot_15 (by decide) ?_
      show ma_wp X d w 155 4 [(0, .inr (.inr (some 64))), (1, .inl i), (2, .inl rt)] [.inl (1 : Int32)] S _
      refine zw_if0 hm_155 dX11_strong_4 (t := 14) rfl zc0_eq (fun hc => absurd hc (by decide)) (fun _ => ?_)
      refine zw_push hm_155 dX11_strong_7 (v := .inl rt) rfl ?_
      refine zw_cs hm_155 dX11_strong_8 pn_11_109 sl_11_109 hm_142 [.inl rt] [] rfl ⟨by omega, by omega⟩ rfl ?_
      show ma_wp X (d - 1) (w - 20) 142 0 [(0, .inl rt)] [] S _
      refine zw_push hm_142 dX11_isSlot_0 (v := .inl rt) rfl ?_
      refine zw_if0 hm_142 dX11_isSlot_1 (t := 14) rfl zc0_lt ?_ ?_
      · intro hc
        rw [if_pos hc] at h
        refine zw_push hm_142 dX11_isSlot_14 (v := .inl (0 : Int32)) rfl ?_
        refine zw_bret hm_142 dX11_isSlot_15 (by decide) ?_
        show ma_wp X d w 155 11 [(0, .inr (.inr (some 64))), (1, .inl i), (2, .inl rt)] [.inl (0 : Int32)] S _
        refine zw_if0 hm_155 dX11_strong_11 (t := 22) rfl zc0_ne (fun hc => absurd hc (by decide)) (fun _ => ?_)
        exact zw_thr hm_155 dX11_strong_14 dX11_strong_17 dX11_strong_18 dX11_strong_21 x_11_79_81 n_11_79 (by omega) (by show 0 + 81 ≤ w; omega) h
      · intro hc
        rw [if_neg hc] at h
        refine zw_push hm_142 dX11_isSlot_4 (v := .inl rt) rfl ?_
        refine zw_push hm_142 dX11_isSlot_5 (v := .inl (16 : Int32)) rfl ?_
        refine zw_if2 hm_142 dX11_isSlot_7 (t := 14) rfl zc2_ge ?_ ?_
        · intro hc
          rw [if_pos hc] at h
          refine zw_push hm_142 dX11_isSlot_14 (v := .inl (0 : Int32)) rfl ?_
          refine zw_bret hm_142 dX11_isSlot_15 (by decide) ?_
          show ma_wp X d w 155 11 [(0, .inr (.inr (some 64))), (1, .inl i), (2, .inl rt)] [.inl (0 : Int32)] S _
          refine zw_if0 hm_155 dX11_strong_11 (t := 22) rfl zc0_ne (fun hc => absurd hc (by decide)) (fun _ => ?_)
          exact zw_thr hm_155 dX11_strong_14 dX11_strong_17 dX11_strong_18 dX11_strong_21 x_11_79_81 n_11_79 (by omega) (by show 0 + 81 ≤ w; omega) h
        · intro hc
          rw [if_neg hc] at h
          refine zw_push hm_142 dX11_isSlot_10 (v := .inl (1 : Int32)) rfl ?_
          refine zw_goto hm_142 dX11_isSlot_11 (t := 15) rfl ?_
          refine zw_bret hm_142 dX11_isSlot_15 (by decide) ?_
          show ma_wp X d w 155 11 [(0, .inr (.inr (some 64))), (1, .inl i), (2, .inl rt)] [.inl (1 : Int32)] S _
          refine zw_if0 hm_155 dX11_strong_11 (t := 22) rfl zc0_ne (fun _ => ?_) (fun hc => absurd (by decide) hc)
          refine zw_push hm_155 dX11_strong_22 (v := .inr (.inr (some 64))) rfl ?_
          refine zw_cv hm_155 dX11_strong_23 v_11_119_11 hm_144 [] [] rfl (zT_rt hS s_64 rfl) ⟨by omega, by omega⟩ rfl ?_
          show ma_wp X (d - 1) (w - 20) 144 0 [(0, .inr (.inr (some 64)))] [] S _
          refine zw_push hm_144 dX11_needCollector_0 (v := .inr (.inr (some 64))) rfl ?_
          obtain ⟨hg, h⟩ := h
          refine zw_gf hm_144 dX11_needCollector_1 (v := .inr (.inr (some 84))) (zT_is hS s_64) (zT_t hS s_64) rfl f_11_98_11 (congrArg (fun z => Sum.inr (Sum.inr z)) hg) ?_
          refine zw_ifnonnull hm_144 dX11_needCollector_4 (t := 15) rfl (fun z => by cases z) (fun _ _ => ?_)
          refine zw_push hm_144 dX11_needCollector_15 (v := .inr (.inr (some 64))) rfl ?_
          obtain ⟨hg, h⟩ := h
          refine zw_gf hm_144 dX11_needCollector_16 (v := .inr (.inr (some 84))) (zT_is hS s_64) (zT_t hS s_64) rfl f_11_98_11 (congrArg (fun z => Sum.inr (Sum.inr z)) hg) ?_
          refine zw_aret hm_144 dX11_needCollector_19 ?_
          show ma_wp X d w 155 26 [(0, .inr (.inr (some 64))), (1, .inl i), (2, .inl rt)] [.inr (.inr (some 84))] S _
          refine zw_sto hm_155 dX11_strong_26 [(3, .inr (.inr (some 84))), (0, .inr (.inr (some 64))), (1, .inl i), (2, .inl rt)] rfl rfl rfl ?_
          refine zw_push hm_155 dX11_strong_27 (v := .inr (.inr (some 64))) rfl ?_
          refine zw_gf hm_155 dX11_strong_28 (v := .inr (.inr (some 69))) (zT_is hS s_64) (zT_t hS s_64) rfl f_11_26_11 (zT_f hS r_64_8) ?_
          refine zw_push hm_155 dX11_strong_31 (v := .inr (.inr (some 64))) rfl ?_
          refine zw_gf hm_155 dX11_strong_32 (v := .inr (.inr (some 69))) (zT_is hS s_64) (zT_t hS s_64) rfl f_11_26_11 (zT_f hS r_64_8) ?_
          refine zw_gf hm_155 dX11_strong_35 (v := .inr (.inr (some 73))) (zT_is hS s_69) (zT_t hS s_69) rfl f_11_173_7 (zT_f hS r_69_3) ?_
          refine zw_push hm_155 dX11_strong_38 (v := .inl i) rfl ?_
          obtain ⟨hg, h⟩ := h
          refine zw_ia hm_155 dX11_strong_39 (zT_is hS s_73) (zT_h hS s_73) rfl hg ?_
          show ma_wp X d w 155 40 [(3, .inr (.inr (some 84))), (0, .inr (.inr (some 64))), (1, .inl i), (2, .inl rt)] [.inl (mI S 73 i.toNatClampNeg), .inr (.inr (some 69))] S _
          refine zw_cv hm_155 dX11_strong_40 v_11_176_7 hm_81 [.inl (mI S 73 i.toNatClampNeg)] [] rfl (zT_rt hS s_69 rfl) ⟨by omega, by omega⟩ rfl ?_
          show ma_wp X (d - 1) (w - 21) 81 0 [(0, .inr (.inr (some 69))), (1, .inl (mI S 73 i.toNatClampNeg))] [] S _
          refine zw_push hm_81 dX7_thingAt_0 (v := .inl (mI S 73 i.toNatClampNeg)) rfl ?_
          refine zw_if0 hm_81 dX7_thingAt_1 (t := 20) rfl zc0_lt ?_ ?_
          · intro hc
            rw [if_pos hc] at h
            refine zw_push hm_81 dX7_thingAt_20 (v := .inr (.inr none)) rfl ?_
            refine zw_aret hm_81 dX7_thingAt_21 ?_
            show ma_wp X d w 155 43 [(3, .inr (.inr (some 84))), (0, .inr (.inr (some 64))), (1, .inl i), (2, .inl rt)] [.inr (.inr none)] S _
            refine zw_sto hm_155 dX11_strong_43 [(4, .inr (.inr none)), (3, .inr (.inr (some 84))), (0, .inr (.inr (some 64))), (1, .inl i), (2, .inl rt)] rfl rfl rfl ?_
            refine zw_push hm_155 dX11_strong_45 (v := .inr (.inr none)) rfl ?_
            refine zw_ifnonnull hm_155 dX11_strong_47 (t := 52) rfl (fun _ => ?_) (fun _ z => by cases z)
            refine zw_push hm_155 dX11_strong_50 (v := .inl (-1 : Int32)) rfl ?_
            exact zw_iret hm_155 dX11_strong_51 h
          · intro hc
            rw [if_neg hc] at h
            refine zw_push hm_81 dX7_thingAt_4 (v := .inl (mI S 73 i.toNatClampNeg)) rfl ?_
            refine zw_push hm_81 dX7_thingAt_5 (v := .inl (512 : Int32)) rfl ?_
            refine zw_if2 hm_81 dX7_thingAt_8 (t := 20) rfl zc2_ge ?_ ?_
            · intro hc
              rw [if_pos hc] at h
              refine zw_push hm_81 dX7_thingAt_20 (v := .inr (.inr none)) rfl ?_
              refine zw_aret hm_81 dX7_thingAt_21 ?_
              show ma_wp X d w 155 43 [(3, .inr (.inr (some 84))), (0, .inr (.inr (some 64))), (1, .inl i), (2, .inl rt)] [.inr (.inr none)] S _
              refine zw_sto hm_155 dX11_strong_43 [(4, .inr (.inr none)), (3, .inr (.inr (some 84))), (0, .inr (.inr (some 64))), (1, .inl i), (2, .inl rt)] rfl rfl rfl ?_
              refine zw_push hm_155 dX11_strong_45 (v := .inr (.inr none)) rfl ?_
              refine zw_ifnonnull hm_155 dX11_strong_47 (t := 52) rfl (fun _ => ?_) (fun _ z => by cases z)
              refine zw_push hm_155 dX11_strong_50 (v := .inl (-1 : Int32)) rfl ?_
              exact zw_iret hm_155 dX11_strong_51 h
            · intro hc
              rw [if_neg hc] at h
              refine zw_push hm_81 dX7_thingAt_11 (v := .inr (.inr (some 69))) rfl ?_
              refine zw_gf hm_81 dX7_thingAt_12 (v := .inr (.inr (some 70))) (zT_is hS s_69) (zT_t hS s_69) rfl f_7_11_7 (zT_f hS r_69_0) ?_
              refine zw_push hm_81 dX7_thingAt_15 (v := .inl (mI S 73 i.toNatClampNeg)) rfl ?_
              obtain ⟨hg, h⟩ := h
              refine zw_aa hm_81 dX7_thingAt_16 (zT_is hS s_70) (zT_h hS s_70) rfl rfl hg rfl ?_
              show ma_wp X (d - 1) (w - 21) 81 17 [(0, .inr (.inr (some 69))), (1, .inl (mI S 73 i.toNatClampNeg))] [.inr (.inr (mR S 70 (mI S 73 i.toNatClampNeg).toNatClampNeg))] S _
              refine zw_goto hm_81 dX7_thingAt_17 (t := 21) rfl ?_
              refine zw_aret hm_81 dX7_thingAt_21 ?_
              show ma_wp X d w 155 43 [(3, .inr (.inr (some 84))), (0, .inr (.inr (some 64))), (1, .inl i), (2, .inl rt)] [.inr (.inr (mR S 70 (mI S 73 i.toNatClampNeg).toNatClampNeg))] S _
              refine zw_sto hm_155 dX11_strong_43 [(4, .inr (.inr (mR S 70 (mI S 73 i.toNatClampNeg).toNatClampNeg))), (3, .inr (.inr (some 84))), (0, .inr (.inr (some 64))), (1, .inl i), (2, .inl rt)] rfl rfl rfl ?_
              refine zw_push hm_155 dX11_strong_45 (v := .inr (.inr (mR S 70 (mI S 73 i.toNatClampNeg).toNatClampNeg))) rfl ?_
              refine zw_ifnonnull hm_155 dX11_strong_47 (t := 52) rfl ?_ ?_
              · intro hc
                have h := h.1 hc
                (try rw [hc])
                show ma_wp X d w 155 50 [(4, .inr (.inr none)), (3, .inr (.inr (some 84))), (0, .inr (.inr (some 64))), (1, .inl i), (2, .inl rt)] [] S _
                refine zw_push hm_155 dX11_strong_50 (v := .inl (-1 : Int32)) rfl ?_
                exact zw_iret hm_155 dX11_strong_51 h
              · intro c1 hc
                have h := h.2 c1 hc
                (try rw [hc])
                show ma_wp X d w 155 52 [(4, .inr (.inr (some c1))), (3, .inr (.inr (some 84))), (0, .inr (.inr (some 64))), (1, .inl i), (2, .inl rt)] [] S _
                refine zw_push hm_155 dX11_strong_52 (v := .inr (.inr (some 64))) rfl ?_
                refine zw_push hm_155 dX11_strong_53 (v := .inr (.inr (some 84))) rfl ?_
                refine zw_push hm_155 dX11_strong_54 (v := .inl rt) rfl ?_
                refine zw_push hm_155 dX11_strong_55 (v := .inr (.inr (some c1))) rfl ?_
                refine zw_cv hm_155 dX11_strong_57 v_11_169_11 hm_145 [.inr (.inr (some c1)), .inl rt, .inr (.inr (some 84))] [] rfl (zT_rt hS s_64 rfl) ⟨by omega, by omega⟩ rfl (zw_mono h (zo_go ?_ ?_))
                · intro v3 S2 hv
                  obtain ⟨hS2, h⟩ := hv
                  refine zw_stk hm_155 dX11_strong_60 (st' := []) rfl rfl ?_
                  refine zw_push hm_155 dX11_strong_61 (v := .inr (.inr (some 84))) rfl ?_
                  refine zw_push hm_155 dX11_strong_62 (v := .inr (.inr (some c1))) rfl ?_
                  refine zw_cv hm_155 dX11_strong_64 v_11_179_2 hm_268 [.inr (.inr (some c1))] [] rfl (zT_rt hS2 s_84 rfl) ⟨by omega, by omega⟩ rfl ?_
                  show ma_wp X (d - 1) (w - 21) 268 0 [(0, .inr (.inr (some 84))), (1, .inr (.inr (some c1)))] [] S2 _
                  refine zw_vret hm_268 dX1_noteStrong_0 ?_
                  show ma_wp X d w 155 67 [(4, .inr (.inr (some c1))), (3, .inr (.inr (some 84))), (0, .inr (.inr (some 64))), (1, .inl i), (2, .inl rt)] [] S2 _
                  refine zw_push hm_155 dX11_strong_67 (v := .inr (.inr (some c1))) rfl ?_
                  obtain ⟨hg, h⟩ := h
                  refine zw_gf hm_155 dX11_strong_69 (v := .inl (mI S2 c1 0)) (zT_tis hS2 hg) (zT_tt hS2 hg) rfl f_11_182_9 rfl ?_
                  exact zw_iret hm_155 dX11_strong_72 h
                · intro x S9 hx
                  exact ⟨by decide, hx⟩
theorem sp_155_64_p84 {X : Nat × (Nat → Int32)} {d w : Nat} {f : Nat → Nat → Int32} {r : Nat → Nat → Option Nat} {C Z N : Nat} {Q : Option ma_V ⊕ Nat → ma_S → Prop} {S : ma_S} (i : Int32) (rt : Int32) (hd : 7 ≤ d) (hw : 134 ≤ w) (hI : zB f r C Z N S) (hr : r 64 11 = some 84)  (K : ∀ v S', zB f r C Z N S' → (True) → Q (.inl (some (.inl v))) S') (KX : ∀ x S', (x = 2 ∨ x = 3) → zB f r C Z N S' → Q (.inr x) (ma_bump S')) : ma_wp X d w 155 0 [(0, .inr (.inr (some 64))), (1, .inl i), (2, .inl rt)] [] S Q := by
  refine g_155_64_p84_0 i rt (by omega) (by omega) (zG_T hI) ?_
  have b1 := i_bd i
  have li2 : (0 : Int32).toInt = 0 := rfl
  refine zd (fun h3 => ?_) (fun h3 => ?_)
  · skip
    have g4 := i_lt h3
    exact KX 2 _ (by decide) hI
  · skip
    have g5 := i_nlt h3
    have li6 : (16 : Int32).toInt = 16 := rfl
    refine zd (fun h7 => ?_) (fun h7 => ?_)
    · skip
      have g8 := i_le h7
      exact KX 2 _ (by decide) hI
    · skip
      have g9 := i_nle h7
      have b10 := i_bd rt
      refine zd (fun h11 => ?_) (fun h11 => ?_)
      · skip
        have g12 := i_lt h11
        exact KX 2 _ (by decide) hI
      · skip
        have g13 := i_nlt h11
        refine zd (fun h14 => ?_) (fun h14 => ?_)
        · skip
          have g15 := i_le h14
          exact KX 2 _ (by decide) hI
        · skip
          have g16 := i_nle h14
          refine ⟨((zG_r hI (by decide)).trans hr), ?_⟩
          refine ⟨((zG_r hI (by decide)).trans hr), ?_⟩
          refine ⟨i_ix (by omega) (by omega), ?_⟩
          have b17 := i_bd (mI S 73 i.toNatClampNeg)
          refine zd (fun h18 => ?_) (fun h18 => ?_)
          · skip
            have g19 := i_lt h18
            have li20 : (-1 : Int32).toInt = -1 := rfl
            exact K ((-1 : Int32)) _ hI trivial
          · skip
            have g21 := i_nlt h18
            have li22 : (512 : Int32).toInt = 512 := rfl
            refine zd (fun h23 => ?_) (fun h23 => ?_)
            · skip
              have g24 := i_le h23
              have li25 : (-1 : Int32).toInt = -1 := rfl
              exact K ((-1 : Int32)) _ hI trivial
            · skip
              have g26 := i_nle h23
              refine ⟨i_ix (by omega) (by omega), ?_⟩
              refine ⟨fun _ => ?_, fun c1 hc => ?_⟩
              · skip
                have li27 : (-1 : Int32).toInt = -1 := rfl
                exact K ((-1 : Int32)) _ hI trivial
              · skip
                have th_c1 := (fun _ z => zG_70 hI (c := 70) (by decide) z) c1 hc
                refine sp_145_64_84 (rt) ((some c1)) (by omega) (by omega) (zB_dn_zJ84 hI) (fun _ z => by cases z; exact th_c1) (fun v3 S2 hL_S2 hq_v3 => zo_n ⟨zG_T hL_S2, ?_⟩)
                have hI_S2 := zB_up_zJ84 hI hL_S2
                refine ⟨zG_n hI_S2 th_c1, ?_⟩
                have f28 := zG_th hI_S2 th_c1
                exact K ((mI S2 c1 0)) _ hI_S2 trivial
