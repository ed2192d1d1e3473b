/-! from 95.q50 -/
/-! the moving collectors, the class (written by wip/tools/gen15.py) -/
theorem g_150_64_sm_p91_0 {X : Nat × (Nat → Int32)} {d w : Nat} {S : ma_S} {Q : Option ma_V ⊕ Nat → ma_S → Prop} (o : Int32) (i : Int32) (t : Int32) (hd : 8 ≤ d) (hw : 132 ≤ w) (hS : zT S) (h : mR S 64 11 = some 91 ∧ (mR S 64 11 = some 91 ∧ (ma_wp X (d - 1) (w - 22) 149 0 [(0, .inr (.inr (some 64))), (1, .inl o)] [] S (zo (fun v2 S1 => zT S1 ∧ ((∃ c3, v2 = some c3 ∧ (ma_wp X (d - 1) (w - 21) 151 0 [(0, .inr (.inr (some 64))), (1, .inl t)] [] S1 (zo (fun v5 S4 => zT S4 ∧ ((126 ≤ c3 ∧ c3 < mN S4) ∧ (if i < 0 then (Q (.inr 1) (ma_bump S4)) else ((126 ≤ c3 ∧ c3 < mN S4) ∧ (if ((mI S4 c3 2) - (1 : Int32)) ≤ i then (Q (.inr 1) (ma_bump S4)) else ((126 ≤ c3 ∧ c3 < mN S4) ∧ ((126 ≤ c3 ∧ c3 < mN S4) ∧ (if i < 0 then (Q (.inr 5) (ma_bump S4)) else ((126 ≤ c3 ∧ c3 < mN S4) ∧ (if ((mI S4 c3 2) - (1 : Int32)) ≤ i then (Q (.inr 5) (ma_bump S4)) else ((126 ≤ c3 ∧ c3 < mN S4) ∧ (if (lg_cmp ((((mL S4 c3 3).toUInt64 >>> (i.toInt64.toUInt64 &&& Int64.toUInt64 63)).toInt64) &&& (1 : Int64)) (0 : Int64)) = 0 then (Q (.inr 5) (ma_bump S4)) else (ma_wp X (d - 1) (w - 24) 94 0 [(0, .inr (.inr (some 69))), (1, .inr (.inr (some c3))), (2, .inl i), (3, .inr (.inr v5))] [] S4 (zo (fun v7 S6 => zT S6 ∧ ((v7 = none → Q (.inl (some (.inl (-1 : Int32)))) S6) ∧ (∀ c8, v7 = some c8 → (126 ≤ c8 ∧ c8 < mN S6) ∧ (Q (.inl (some (.inl (mI S6 c8 0)))) S6)))) (fun x S9 => Q (.inr x) S9))))))))))))))) (fun x S9 => Q (.inr x) S9)))))) (fun x S9 => Q (.inr x) S9))))) : ma_wp X d w 150 0 [(0, .inr (.inr (some 64))), (1, .inl o), (2, .inl i), (3, .inl t)] [] S Q := by
  refine zw_push hm_150 dX11_link_0 (v := .inr (.inr (some 64))) rfl ?_
  refine zw_cv hm_150 dX11_link_1 v_11_119_11 hm_144 [] [] rfl (zT_rt hS s_64 rfl) ⟨by omega, by omega⟩ rfl ?_
  show ma_wp X (d - 1) (w - 20) 144 0 [(0, .inr (.inr (some 64)))] [] S _
  refine zw_push hm_144 dX11_needCollector_0 (v := .inr (.inr (some 64))) rfl ?_
  obtain ⟨hg, h⟩ := h
  refine zw_gf hm_144 dX11_needCollector_1 (v := .inr (.inr (some 91))) (zT_is hS s_64) (zT_t hS s_64) rfl f_11_98_11 (congrArg (fun z => Sum.inr (Sum.inr z)) hg) ?_
  refine zw_ifnonnull hm_144 dX11_needCollector_4 (t := 15) rfl (fun z => by cases z) (fun _ _ => ?_)
  refine zw_push hm_144 dX11_needCollector_15 (v := .inr (.inr (some 64))) rfl ?_
  obtain ⟨hg, h⟩ := h
  refine zw_gf hm_144 dX11_needCollector_16 (v := .inr (.inr (some 91))) (zT_is hS s_64) (zT_t hS s_64) rfl f_11_98_11 (congrArg (fun z => Sum.inr (Sum.inr z)) hg) ?_
  refine zw_aret hm_144 dX11_needCollector_19 ?_
  show ma_wp X d w 150 4 [(0, .inr (.inr (some 64))), (1, .inl o), (2, .inl i), (3, .inl t)] [.inr (.inr (some 91))] S _
  refine zw_sto hm_150 dX11_link_4 [(4, .inr (.inr (some 91))), (0, .inr (.inr (some 64))), (1, .inl o), (2, .inl i), (3, .inl t)] rfl rfl rfl ?_
  refine zw_push hm_150 dX11_link_6 (v := .inr (.inr (some 64))) rfl ?_
  refine zw_push hm_150 dX11_link_7 (v := .inl o) rfl ?_
  refine zw_cv hm_150 dX11_link_8 v_11_123_11 hm_149 [.inl o] [] rfl (zT_rt hS s_64 rfl) ⟨by omega, by omega⟩ rfl (zw_mono h (zo_go ?_ ?_))
  · intro v2 S1 hv
    obtain ⟨hS1, h⟩ := hv
    obtain ⟨c3, hc, h⟩ := h
    subst hc
    show ma_wp X d w 150 11 [(4, .inr (.inr (some 91))), (0, .inr (.inr (some 64))), (1, .inl o), (2, .inl i), (3, .inl t)] [.inr (.inr (some c3))] S1 _
    refine zw_sto hm_150 dX11_link_11 [(5, .inr (.inr (some c3))), (4, .inr (.inr (some 91))), (0, .inr (.inr (some 64))), (1, .inl o), (2, .inl i), (3, .inl t)] rfl rfl rfl ?_
    refine zw_push hm_150 dX11_link_13 (v := .inr (.inr (some 64))) rfl ?_
    refine zw_push hm_150 dX11_link_14 (v := .inl t) rfl ?_
    refine zw_cv hm_150 dX11_link_15 v_11_142_11 hm_151 [.inl t] [] rfl (zT_rt hS1 s_64 rfl) ⟨by omega, by omega⟩ rfl (zw_mono h (zo_go ?_ ?_))
    · intro v5 S4 hv
      obtain ⟨hS4, h⟩ := hv
      refine zw_sto hm_150 dX11_link_18 [(6, .inr (.inr v5)), (5, .inr (.inr (some c3))), (4, .inr (.inr (some 91))), (0, .inr (.inr (some 64))), (1, .inl o), (2, .inl i), (3, .inl t)] rfl rfl rfl ?_
      refine zw_push hm_150 dX11_link_20 (v := .inr (.inr (some c3))) rfl ?_
      refine zw_push hm_150 dX11_link_22 (v := .inl i) rfl ?_
      obtain ⟨hg, h⟩ := h
      refine zw_cv hm_150 dX11_link_23 v_11_127_9 hm_114 [.inl i] [] rfl (zT_trt hS4 hg) ⟨by omega, by omega⟩ rfl ?_
      show ma_wp X (d - 1) (w - 21) 114 0 [(0, .inr (.inr (some c3))), (1, .inl i)] [] S4 _
      refine zw_push hm_114 dX9_hasWord_0 (v := .inl i) rfl ?_
      refine zw_if0 hm_114 dX9_hasWord_1 (t := 18) rfl zc0_lt ?_ ?_
      · intro hc
        rw [if_pos hc] at h
        refine zw_push hm_114 dX9_hasWord_18 (v := .inl (0 : Int32)) rfl ?_
        refine zw_bret hm_114 dX9_hasWord_19 (by decide) ?_
        show ma_wp X d w 150 26 [(6, .inr (.inr v5)), (5, .inr (.inr (some c3))), (4, .inr (.inr (some 91))), (0, .inr (.inr (some 64))), (1, .inl o), (2, .inl i), (3, .inl t)] [.inl (0 : Int32)] S4 _
        refine zw_if0 hm_150 dX11_link_26 (t := 37) rfl zc0_ne (fun hc => absurd hc (by decide)) (fun _ => ?_)
        exact zw_thr hm_150 dX11_link_29 dX11_link_32 dX11_link_33 dX11_link_36 x_11_72_74 n_11_72 (by omega) (by show 0 + 81 ≤ w; omega) h
      · intro hc
        rw [if_neg hc] at h
        refine zw_push hm_114 dX9_hasWord_4 (v := .inl i) rfl ?_
        refine zw_push hm_114 dX9_hasWord_5 (v := .inr (.inr (some c3))) rfl ?_
        obtain ⟨hg, h⟩ := h
        refine zw_gf hm_114 dX9_hasWord_6 (v := .inl (mI S4 c3 2)) (zT_tis hS4 hg) (zT_tt hS4 hg) rfl f_9_16_9 rfl ?_
        refine zw_push hm_114 dX9_hasWord_9 (v := .inl (1 : Int32)) rfl ?_
        refine zw_stk hm_114 dX9_hasWord_10 (st₉ := [.inl ((mI S4 c3 2) - (1 : Int32)), .inl i]) rfl rfl ?_
        refine zw_if2 hm_114 dX9_hasWord_11 (t := 18) rfl zc2_ge ?_ ?_
        · intro hc
          rw [if_pos hc] at h
          refine zw_push hm_114 dX9_hasWord_18 (v := .inl (0 : Int32)) rfl ?_
          refine zw_bret hm_114 dX9_hasWord_19 (by decide) ?_
          show ma_wp X d w 150 26 [(6, .inr (.inr v5)), (5, .inr (.inr (some c3))), (4, .inr (.inr (some 91))), (0, .inr (.inr (some 64))), (1, .inl o), (2, .inl i), (3, .inl t)] [.inl (0 : Int32)] S4 _
          refine zw_if0 hm_150 dX11_link_26 (t := 37) rfl zc0_ne (fun hc => absurd hc (by decide)) (fun _ => ?_)
          exact zw_thr hm_150 dX11_link_29 dX11_link_32 dX11_link_33 dX11_link_36 x_11_72_74 n_11_72 (by omega) (by show 0 + 81 ≤ w; omega) h
        · intro hc
          rw [if_neg hc] at h
          refine zw_push hm_114 dX9_hasWord_14 (v := .inl (1 : Int32)) rfl ?_
          refine zw_goto hm_114 dX9_hasWord_15 (t := 19) rfl ?_
          refine zw_bret hm_114 dX9_hasWord_19 (by decide) ?_
          show ma_wp X d w 150 26 [(6, .inr (.inr v5)), (5, .inr (.inr (some c3))), (4, .inr (.inr (some 91))), (0, .inr (.inr (some 64))), (1, .inl o), (2, .inl i), (3, .inl t)] [.inl (1 : Int32)] S4 _
          refine zw_if0 hm_150 dX11_link_26 (t := 37) rfl zc0_ne (fun _ => ?_) (fun hc => absurd (by decide) hc)
          refine zw_push hm_150 dX11_link_37 (v := .inr (.inr (some c3))) rfl ?_
          refine zw_push hm_150 dX11_link_39 (v := .inl i) rfl ?_
          obtain ⟨hg, h⟩ := h
          refine zw_cv hm_150 dX11_link_40 v_11_132_9 hm_113 [.inl i] [] rfl (zT_trt hS4 hg) ⟨by omega, by omega⟩ rfl ?_
          show ma_wp X (d - 1) (w - 21) 113 0 [(0, .inr (.inr (some c3))), (1, .inl i)] [] S4 _
          refine zw_push hm_113 dX9_isReference_0 (v := .inr (.inr (some c3))) rfl ?_
          refine zw_push hm_113 dX9_isReference_1 (v := .inl i) rfl ?_
          obtain ⟨hg, h⟩ := h
          refine zw_cv hm_113 dX9_isReference_2 v_9_26_9 hm_114 [.inl i] [] rfl (zT_trt hS4 hg) ⟨by omega, by omega⟩ rfl ?_
          show ma_wp X ((d - 1) - 1) ((w - 21) - 21) 114 0 [(0, .inr (.inr (some c3))), (1, .inl i)] [] S4 _
          refine zw_push hm_114 dX9_hasWord_0 (v := .inl i) rfl ?_
          refine zw_if0 hm_114 dX9_hasWord_1 (t := 18) rfl zc0_lt ?_ ?_
          · intro hc
            rw [if_pos hc] at h
            refine zw_push hm_114 dX9_hasWord_18 (v := .inl (0 : Int32)) rfl ?_
            refine zw_bret hm_114 dX9_hasWord_19 (by decide) ?_
            show ma_wp X (d - 1) (w - 21) 113 5 [(0, .inr (.inr (some c3))), (1, .inl i)] [.inl (0 : Int32)] S4 _
            refine zw_if0 hm_113 dX9_isReference_5 (t := 25) rfl zc0_eq (fun _ => ?_) (fun hc => absurd (by decide) hc)
            refine zw_push hm_113 dX9_isReference_25 (v := .inl (0 : Int32)) rfl ?_
            refine zw_bret hm_113 dX9_isReference_26 (by decide) ?_
            show ma_wp X d w 150 43 [(6, .inr (.inr v5)), (5, .inr (.inr (some c3))), (4, .inr (.inr (some 91))), (0, .inr (.inr (some 64))), (1, .inl o), (2, .inl i), (3, .inl t)] [.inl (0 : Int32)] S4 _
            refine zw_if0 hm_150 dX11_link_43 (t := 54) rfl zc0_ne (fun hc => absurd hc (by decide)) (fun _ => ?_)
            exact zw_thr hm_150 dX11_link_46 dX11_link_49 dX11_link_50 dX11_link_53 x_11_135_137 n_11_135 (by omega) (by show 0 + 81 ≤ w; omega) h
          · intro hc
            rw [if_neg hc] at h
            refine zw_push hm_114 dX9_hasWord_4 (v := .inl i) rfl ?_
            refine zw_push hm_114 dX9_hasWord_5 (v := .inr (.inr (some c3))) rfl ?_
            obtain ⟨hg, h⟩ := h
            refine zw_gf hm_114 dX9_hasWord_6 (v := .inl (mI S4 c3 2)) (zT_tis hS4 hg) (zT_tt hS4 hg) rfl f_9_16_9 rfl ?_
            refine zw_push hm_114 dX9_hasWord_9 (v := .inl (1 : Int32)) rfl ?_
            refine zw_stk hm_114 dX9_hasWord_10 (st₉ := [.inl ((mI S4 c3 2) - (1 : Int32)), .inl i]) rfl rfl ?_
            refine zw_if2 hm_114 dX9_hasWord_11 (t := 18) rfl zc2_ge ?_ ?_
            · intro hc
              rw [if_pos hc] at h
              refine zw_push hm_114 dX9_hasWord_18 (v := .inl (0 : Int32)) rfl ?_
              refine zw_bret hm_114 dX9_hasWord_19 (by decide) ?_
              show ma_wp X (d - 1) (w - 21) 113 5 [(0, .inr (.inr (some c3))), (1, .inl i)] [.inl (0 : Int32)] S4 _
              refine zw_if0 hm_113 dX9_isReference_5 (t := 25) rfl zc0_eq (fun _ => ?_) (fun hc => absurd (by decide) hc)
              refine zw_push hm_113 dX9_isReference_25 (v := .inl (0 : Int32)) rfl ?_
              refine zw_bret hm_113 dX9_isReference_26 (by decide) ?_
              show ma_wp X d w 150 43 [(6, .inr (.inr v5)), (5, .inr (.inr (some c3))), (4, .inr (.inr (some 91))), (0, .inr (.inr (some 64))), (1, .inl o), (2, .inl i), (3, .inl t)] [.inl (0 : Int32)] S4 _
              refine zw_if0 hm_150 dX11_link_43 (t := 54) rfl zc0_ne (fun hc => absurd hc (by decide)) (fun _ => ?_)
              exact zw_thr hm_150 dX11_link_46 dX11_link_49 dX11_link_50 dX11_link_53 x_11_135_137 n_11_135 (by omega) (by show 0 + 81 ≤ w; omega) h
            · intro hc
              rw [if_neg hc] at h
              refine zw_push hm_114 dX9_hasWord_14 (v := .inl (1 : Int32)) rfl ?_
              refine zw_goto hm_114 dX9_hasWord_15 (t := 19) rfl ?_
              refine zw_bret hm_114 dX9_hasWord_19 (by decide) ?_
              show ma_wp X (d - 1) (w - 21) 113 5 [(0, .inr (.inr (some c3))), (1, .inl i)] [.inl (1 : Int32)] S4 _
              refine zw_if0 hm_113 dX9_isReference_5 (t := 25) rfl zc0_eq (fun hc => absurd hc (by decide)) (fun _ => ?_)
              refine zw_push hm_113 dX9_isReference_8 (v := .inr (.inr (some c3))) rfl ?_
              obtain ⟨hg, h⟩ := h
              refine zw_gf hm_113 dX9_isReference_9 (v := .inr (.inl (mL S4 c3 3))) (zT_tis hS4 hg) (zT_tt hS4 hg) rfl f_9_19_9 rfl ?_
              refine zw_push hm_113 dX9_isReference_12 (v := .inl i) rfl ?_
              refine zw_stk hm_113 dX9_isReference_13 (st₉ := [.inr (.inl (((mL S4 c3 3).toUInt64 >>> (i.toInt64.toUInt64 &&& Int64.toUInt64 63)).toInt64))]) rfl rfl ?_
              refine zw_push hm_113 dX9_isReference_14 (v := .inr (.inl (1 : Int64))) rfl ?_
              refine zw_stk hm_113 dX9_isReference_15 (st₉ := [.inr (.inl ((((mL S4 c3 3).toUInt64 >>> (i.toInt64.toUInt64 &&& Int64.toUInt64 63)).toInt64) &&& (1 : Int64)))]) rfl rfl ?_
              refine zw_push hm_113 dX9_isReference_16 (v := .inr (.inl (0 : Int64))) rfl ?_
              refine zw_stk hm_113 dX9_isReference_17 (st₉ := [.inl (lg_cmp ((((mL S4 c3 3).toUInt64 >>> (i.toInt64.toUInt64 &&& Int64.toUInt64 63)).toInt64) &&& (1 : Int64)) (0 : Int64))]) rfl rfl ?_
              refine zw_if0 hm_113 dX9_isReference_18 (t := 25) rfl zc0_eq ?_ ?_
              · intro hc
                rw [if_pos hc] at h
                refine zw_push hm_113 dX9_isReference_25 (v := .inl (0 : Int32)) rfl ?_
                refine zw_bret hm_113 dX9_isReference_26 (by decide) ?_
                show ma_wp X d w 150 43 [(6, .inr (.inr v5)), (5, .inr (.inr (some c3))), (4, .inr (.inr (some 91))), (0, .inr (.inr (some 64))), (1, .inl o), (2, .inl i), (3, .inl t)] [.inl (0 : Int32)] S4 _
                refine zw_if0 hm_150 dX11_link_43 (t := 54) rfl zc0_ne (fun hc => absurd hc (by decide)) (fun _ => ?_)
                exact zw_thr hm_150 dX11_link_46 dX11_link_49 dX11_link_50 dX11_link_53 x_11_135_137 n_11_135 (by omega) (by show 0 + 81 ≤ w; omega) h
              · intro hc
                rw [if_neg hc] at h
                refine zw_push hm_113 dX9_isReference_21 (v := .inl (1 : Int32)) rfl ?_
                refine zw_goto hm_113 dX9_isReference_22 (t := 26) rfl ?_
                refine zw_bret hm_113 dX9_isReference_26 (by decide) ?_
                show ma_wp X d w 150 43 [(6, .inr (.inr v5)), (5, .inr (.inr (some c3))), (4, .inr (.inr (some 91))), (0, .inr (.inr (some 64))), (1, .inl o), (2, .inl i), (3, .inl t)] [.inl (1 : Int32)] S4 _
                refine zw_if0 hm_150 dX11_link_43 (t := 54) rfl zc0_ne (fun _ => ?_) (fun hc => absurd (by decide) hc)
                refine zw_push hm_150 dX11_link_54 (v := .inr (.inr (some 64))) rfl ?_
                refine zw_gf hm_150 dX11_link_55 (v := .inr (.inr (some 69))) (zT_is hS4 s_64) (zT_t hS4 s_64) rfl f_11_26_11 (zT_f hS4 r_64_8) ?_
                refine zw_push hm_150 dX11_link_58 (v := .inr (.inr (some c3))) rfl ?_
                refine zw_push hm_150 dX11_link_60 (v := .inl i) rfl ?_
                refine zw_push hm_150 dX11_link_61 (v := .inr (.inr v5)) rfl ?_
                refine zw_cv hm_150 dX11_link_63 v_11_145_7 hm_94 [.inr (.inr v5), .inl i, .inr (.inr (some c3))] [] rfl (zT_rt hS4 s_69 rfl) ⟨by omega, by omega⟩ rfl (zw_mono h (zo_go ?_ ?_))
                · intro v7 S6 hv
                  obtain ⟨hS6, h⟩ := hv
                  refine zw_sto hm_150 dX11_link_66 [(7, .inr (.inr v7)), (6, .inr (.inr v5)), (5, .inr (.inr (some c3))), (4, .inr (.inr (some 91))), (0, .inr (.inr (some 64))), (1, .inl o), (2, .inl i), (3, .inl t)] rfl rfl rfl ?_
                  refine zw_push hm_150 dX11_link_68 (v := .inr (.inr (some 91))) rfl ?_
                  refine zw_push hm_150 dX11_link_70 (v := .inr (.inr (some c3))) rfl ?_
                  refine zw_push hm_150 dX11_link_72 (v := .inl i) rfl ?_
                  refine zw_push hm_150 dX11_link_73 (v := .inr (.inr v5)) rfl ?_
                  refine zw_cv hm_150 dX11_link_75 v_11_149_4 hm_267 [.inr (.inr v5), .inl i, .inr (.inr (some c3))] [] rfl (zT_rt hS6 s_91 rfl) ⟨by omega, by omega⟩ rfl ?_
                  show ma_wp X (d - 1) (w - 23) 267 0 [(0, .inr (.inr (some 91))), (1, .inr (.inr (some c3))), (2, .inl i), (3, .inr (.inr v5))] [] S6 _
                  refine zw_vret hm_267 dX1_noteReference_0 ?_
                  show ma_wp X d w 150 78 [(7, .inr (.inr v7)), (6, .inr (.inr v5)), (5, .inr (.inr (some c3))), (4, .inr (.inr (some 91))), (0, .inr (.inr (some 64))), (1, .inl o), (2, .inl i), (3, .inl t)] [] S6 _
                  refine zw_push hm_150 dX11_link_78 (v := .inr (.inr (some 91))) rfl ?_
                  refine zw_push hm_150 dX11_link_80 (v := .inr (.inr v7)) rfl ?_
                  refine zw_push hm_150 dX11_link_82 (v := .inr (.inr v5)) rfl ?_
                  refine zw_cv hm_150 dX11_link_84 v_11_153_4 hm_265 [.inr (.inr v5), .inr (.inr v7)] [] rfl (zT_rt hS6 s_91 rfl) ⟨by omega, by omega⟩ rfl ?_
                  show ma_wp X (d - 1) (w - 22) 265 0 [(0, .inr (.inr (some 91))), (1, .inr (.inr v7)), (2, .inr (.inr v5))] [] S6 _
                  refine zw_vret hm_265 dX1_noteChange_0 ?_
                  show ma_wp X d w 150 87 [(7, .inr (.inr v7)), (6, .inr (.inr v5)), (5, .inr (.inr (some c3))), (4, .inr (.inr (some 91))), (0, .inr (.inr (some 64))), (1, .inl o), (2, .inl i), (3, .inl t)] [] S6 _
                  refine zw_push hm_150 dX11_link_87 (v := .inr (.inr (some 91))) rfl ?_
                  refine zw_push hm_150 dX11_link_89 (v := .inr (.inr v7)) rfl ?_
                  refine zw_cv hm_150 dX11_link_91 v_11_157_4 hm_266 [.inr (.inr v7)] [] rfl (zT_rt hS6 s_91 rfl) ⟨by omega, by omega⟩ rfl ?_
                  show ma_wp X (d - 1) (w - 21) 266 0 [(0, .inr (.inr (some 91))), (1, .inr (.inr v7))] [] S6 _
                  refine zw_vret hm_266 dX1_noteFewer_0 ?_
                  show ma_wp X d w 150 94 [(7, .inr (.inr v7)), (6, .inr (.inr v5)), (5, .inr (.inr (some c3))), (4, .inr (.inr (some 91))), (0, .inr (.inr (some 64))), (1, .inl o), (2, .inl i), (3, .inl t)] [] S6 _
                  refine zw_push hm_150 dX11_link_94 (v := .inr (.inr v7)) rfl ?_
                  refine zw_cs hm_150 dX11_link_96 pn_11_161 sl_11_161 hm_146 [.inr (.inr v7)] [] rfl ⟨by omega, by omega⟩ rfl ?_
                  show ma_wp X (d - 1) (w - 20) 146 0 [(0, .inr (.inr v7))] [] S6 _
                  refine zw_push hm_146 dX11_numberOf_0 (v := .inr (.inr v7)) rfl ?_
                  refine zw_ifnonnull hm_146 dX11_numberOf_1 (t := 8) rfl ?_ ?_
                  · intro hc
                    have h := h.1 hc
                    (try rw [hc])
                    show ma_wp X (d - 1) (w - 20) 146 4 [(0, .inr (.inr none))] [] S6 _
                    refine zw_push hm_146 dX11_numberOf_4 (v := .inl (-1 : Int32)) rfl ?_
                    refine zw_goto hm_146 dX11_numberOf_5 (t := 12) rfl ?_
                    refine zw_iret hm_146 dX11_numberOf_12 ?_
                    show ma_wp X d w 150 99 [(7, .inr (.inr none)), (6, .inr (.inr v5)), (5, .inr (.inr (some c3))), (4, .inr (.inr (some 91))), (0, .inr (.inr (some 64))), (1, .inl o), (2, .inl i), (3, .inl t)] [.inl (-1 : Int32)] S6 _
                    exact zw_iret hm_150 dX11_link_99 h
                  · intro c8 hc
                    have h := h.2 c8 hc
                    (try rw [hc])
                    show ma_wp X (d - 1) (w - 20) 146 8 [(0, .inr (.inr (some c8)))] [] S6 _
                    refine zw_push hm_146 dX11_numberOf_8 (v := .inr (.inr (some c8))) rfl ?_
                    obtain ⟨hg, h⟩ := h
                    refine zw_gf hm_146 dX11_numberOf_9 (v := .inl (mI S6 c8 0)) (zT_tis hS6 hg) (zT_tt hS6 hg) rfl f_11_182_9 rfl ?_
                    refine zw_iret hm_146 dX11_numberOf_12 ?_
                    show ma_wp X d w 150 99 [(7, .inr (.inr (some c8))), (6, .inr (.inr v5)), (5, .inr (.inr (some c3))), (4, .inr (.inr (some 91))), (0, .inr (.inr (some 64))), (1, .inl o), (2, .inl i), (3, .inl t)] [.inl (mI S6 c8 0)] S6 _
                    exact zw_iret hm_150 dX11_link_99 h
                · intro x S9 hx
                  exact ⟨by decide, hx⟩
    · intro x S9 hx
      exact ⟨by decide, hx⟩
  · intro x S9 hx
    exact ⟨by decide, hx⟩
theorem sp_150_64_sm_p91 {X : Nat × (Nat → Int32)} {d w : Nat} {f : Nat → Nat → Int32} {r : Nat → Nat → Option Nat} {C Z N : Nat} {Q : Option ma_V ⊕ Nat → ma_S → Prop} {ab : Nat→Nat→Int32} {fp91 : Nat→Int32} {fp92 : Nat→Int32} {S : ma_S} (o : Int32) (i : Int32) (t : Int32) (hd : 8 ≤ d) (hw : 132 ≤ w) (hI : zB f r C Z N S) (hr : r 64 11 = some 91) (hpre0 : xB S (mR S 70)) (hpre1 : aS 88 S = ab) (hpre2 : (mI S 91) = fp91) (hpre3 : (mI S 92) = fp92) (K : ∀ v S₉, zB f r C Z N S₉ → (True) → (xB S₉ (mR S₉ 70)) → (zRq ab o ∧ (t = -1 ∨ zRq ab t) ∧ zHw ab o i ∧ zIr ab o i ∧ aS 88 S₉ = aL0 ab o.toNatClampNeg i t ∧ v = aNm ab (aRef ab o.toNatClampNeg i)) → ((mI S₉ 91) = fp91) → ((mI S₉ 92) = fp92) → Q (.inl (some (.inl v))) S₉) (KX : ∀ x S₉, (x = 1 ∨ x = 4 ∨ x = 5) → zB f r C Z N S₉ → (xB S₉ (mR S₉ 70)) → (aS 88 S₉ = ab) → ((x = 4 ∧ (¬ zRq ab o ∨ (zRq ab o ∧ t ≠ -1 ∧ ¬ zRq ab t))) ∨ (x = 1 ∧ zRq ab o ∧ (t = -1 ∨ zRq ab t) ∧ ¬ zHw ab o i) ∨ (x = 5 ∧ zRq ab o ∧ (t = -1 ∨ zRq ab t) ∧ zHw ab o i ∧ ¬ zIr ab o i)) → ((mI S₉ 91) = fp91) → ((mI S₉ 92) = fp92) → Q (.inr x) (ma_bump S₉)) : ma_wp X d w 150 0 [(0, .inr (.inr (some 64))), (1, .inl o), (2, .inl i), (3, .inl t)] [] S Q := by
  refine g_150_64_sm_p91_0 o i t (by omega) (by omega) (zG_T hI) ?_
  refine ⟨((zG_r hI (by decide)).trans hr), ?_⟩
  refine ⟨((zG_r hI (by decide)).trans hr), ?_⟩
  have b1 := i_bd o
  refine sp_149_64_s (R := (mR S 70)) (a7 := (aS 75 S)) (a8 := (aS 88 S)) (o) (by omega) (by omega) (zB_dn_zI hI) (show xB S (mR S 70) from by first | (exact (xC_o (W := 75) hpre0).2)) (show aS 75 S = (aS 75 S) from by first | (exact rfl)) (show aS 88 S = (aS 88 S) from by first | (exact rfl)) (fun v2 S1 hL_S1 hq_v2 rp0_S1 rp1_S1 rp2_S1 rp3_S1 => zo_n ⟨zG_T hL_S1, ?_⟩) (fun x S9 hx h9 rx0 rx1 rx2 => by have h9u := (zB_up_zI hI h9); exact zo_x (KX x S9 (by omega) h9u (show xB S9 (mR S9 70) from by first | (exact xB_x (xC_o (W := 75) rx0).2)) (show aS 88 S9 = ab from by first | (exact rx1.trans hpre1)) (show (x = 4 ∧ (¬ zRq ab o ∨ (zRq ab o ∧ t ≠ -1 ∧ ¬ zRq ab t))) ∨ (x = 1 ∧ zRq ab o ∧ (t = -1 ∨ zRq ab t) ∧ ¬ zHw ab o i) ∨ (x = 5 ∧ zRq ab o ∧ (t = -1 ∨ zRq ab t) ∧ zHw ab o i ∧ ¬ zIr ab o i) from by first | (exact Or.inl ⟨rx2.1, Or.inl (rq_no rx2.2 hpre1)⟩)) (show (mI S9 91) = fp91 from by first | (exact ((show mI _ 91 = mI _ 91 from funext (fun _ => zG_z h9 rfl)).trans hpre2))) (show (mI S9 92) = fp92 from by first | (exact ((show mI _ 92 = mI _ 92 from funext (fun _ => zG_z h9 rfl)).trans hpre3)))))
  have hI_S1 := zB_up_zI hI hL_S1
  have rp0_S1 : xB S1 (mR S 70) := by
    have z := rp0_S1
    (try rw [show mI S 65 = f 65 from funext (fun k => zG_z hI rfl)] at z)
    (try rw [show mI S 64 1 = f 64 1 from zG_z hI rfl] at z)
    exact z
  have rp1_S1 : aS 88 S1 = (aS 88 S) := by
    have z := rp1_S1
    (try rw [show mI S 65 = f 65 from funext (fun k => zG_z hI rfl)] at z)
    (try rw [show mI S 64 1 = f 64 1 from zG_z hI rfl] at z)
    exact z
  have rp2_S1 : v2 = zTa (mR S 70) o := by
    have z := rp2_S1
    (try rw [show mI S 65 = f 65 from funext (fun k => zG_z hI rfl)] at z)
    (try rw [show mI S 64 1 = f 64 1 from zG_z hI rfl] at z)
    exact z
  have rp3_S1 : zRq (aS 75 S) o := by
    have z := rp3_S1
    (try rw [show mI S 65 = f 65 from funext (fun k => zG_z hI rfl)] at z)
    (try rw [show mI S 64 1 = f 64 1 from zG_z hI rfl] at z)
    exact z
  obtain ⟨c3, hc, th_c3⟩ := hq_v2
  have rg_c3 : zTa (mR S 70) o = some c3 := rp2_S1.symm.trans hc
  refine ⟨c3, hc, ?_⟩
  have b2 := i_bd t
  refine sp_151_64_s (R := (mR S 70)) (a7 := (aS 75 S1)) (a8 := (aS 88 S1)) (t) (by omega) (by omega) (zB_dn_zI hI_S1) (show xB S1 (mR S 70) from by first | (exact (xC_o (W := 75) rp0_S1).2)) (show aS 75 S1 = (aS 75 S1) from by first | (exact rfl)) (show aS 88 S1 = (aS 88 S1) from by first | (exact rfl) | (exact (xC_o (W := 88) rp0_S1).1.trans rp1_S1)) (fun v5 S4 hL_S4 hq_v5 rp0_S4 rp1_S4 rp2_S4 rp3_S4 => zo_n ⟨zG_T hL_S4, ?_⟩) (fun x S9 hx h9 rx0 rx1 rx2 => by have h9u := (zB_up_zI hI_S1 h9); exact zo_x (KX x S9 (by omega) h9u (show xB S9 (mR S9 70) from by first | (exact xB_x (xC_o (W := 75) rx0).2)) (show aS 88 S9 = ab from by first | (exact rx1.trans (rp1_S1.trans hpre1))) (show (x = 4 ∧ (¬ zRq ab o ∨ (zRq ab o ∧ t ≠ -1 ∧ ¬ zRq ab t))) ∨ (x = 1 ∧ zRq ab o ∧ (t = -1 ∨ zRq ab t) ∧ ¬ zHw ab o i) ∨ (x = 5 ∧ zRq ab o ∧ (t = -1 ∨ zRq ab t) ∧ zHw ab o i ∧ ¬ zIr ab o i) from by first | (exact Or.inl ⟨rx2.1, Or.inr ⟨(rq_up rp3_S1 hpre1), rx2.2.1, rq_no rx2.2.2 (rp1_S1.trans hpre1)⟩⟩)) (show (mI S9 91) = fp91 from by first | (exact ((show mI _ 91 = mI _ 91 from funext (fun _ => zG_z h9 rfl)).trans ((show mI S1 91 = mI S 91 from funext (fun _ => zG_z hL_S1 rfl)).trans hpre2)))) (show (mI S9 92) = fp92 from by first | (exact ((show mI _ 92 = mI _ 92 from funext (fun _ => zG_z h9 rfl)).trans ((show mI S1 92 = mI S 92 from funext (fun _ => zG_z hL_S1 rfl)).trans hpre3))))))
  have hI_S4 := zB_up_zI hI_S1 hL_S4
  have rp0_S4 : xB S4 (mR S 70) := by
    have z := rp0_S4
    (try rw [show mI S1 65 = f 65 from funext (fun k => zG_z hI_S1 rfl)] at z)
    (try rw [show mI S1 64 1 = f 64 1 from zG_z hI_S1 rfl] at z)
    exact z
  have rp1_S4 : aS 88 S4 = (aS 88 S1) := by
    have z := rp1_S4
    (try rw [show mI S1 65 = f 65 from funext (fun k => zG_z hI_S1 rfl)] at z)
    (try rw [show mI S1 64 1 = f 64 1 from zG_z hI_S1 rfl] at z)
    exact z
  have rp2_S4 : v5 = zTa (mR S 70) t := by
    have z := rp2_S4
    (try rw [show mI S1 65 = f 65 from funext (fun k => zG_z hI_S1 rfl)] at z)
    (try rw [show mI S1 64 1 = f 64 1 from zG_z hI_S1 rfl] at z)
    exact z
  have rp3_S4 : t = -1 ∨ zRq (aS 75 S1) t := by
    have z := rp3_S4
    (try rw [show mI S1 65 = f 65 from funext (fun k => zG_z hI_S1 rfl)] at z)
    (try rw [show mI S1 64 1 = f 64 1 from zG_z hI_S1 rfl] at z)
    exact z
  refine ⟨zG_n hI_S4 th_c3, ?_⟩
  have b3 := i_bd i
  have li4 : (0 : Int32).toInt = 0 := rfl
  refine zd (fun h5 => ?_) (fun h5 => ?_)
  · skip
    have g6 := i_lt h5
    exact KX 1 _ (by decide) hI_S4 (show xB S4 (mR S4 70) from by first | (exact xB_x (xC_o (W := 75) rp0_S4).2)) (show aS 88 S4 = ab from by first | (exact (xC_o (W := 88) rp0_S4).1.trans (rp1_S4.trans (rp1_S1.trans hpre1)))) (show (1 = 4 ∧ (¬ zRq ab o ∨ (zRq ab o ∧ t ≠ -1 ∧ ¬ zRq ab t))) ∨ (1 = 1 ∧ zRq ab o ∧ (t = -1 ∨ zRq ab t) ∧ ¬ zHw ab o i) ∨ (1 = 5 ∧ zRq ab o ∧ (t = -1 ∨ zRq ab t) ∧ zHw ab o i ∧ ¬ zIr ab o i) from by first | (have ty := xB_th (W := 88) rp0_S4 rg_c3; have z2 := congrArg Int32.toInt ty.2.2.2.2.1; rw [(rp1_S4.trans (rp1_S1.trans hpre1))] at z2; exact Or.inr (Or.inl ⟨rfl, (rq_up rp3_S1 hpre1), (rp3_S4.imp id (fun w => rq_up w (rp1_S1.trans hpre1))), fun w => by have w1 := w.1; have w2 := w.2; omega⟩))) (show (mI S4 91) = fp91 from by first | (exact ((show mI S4 91 = mI S1 91 from funext (fun _ => zG_z hL_S4 rfl)).trans ((show mI S1 91 = mI S 91 from funext (fun _ => zG_z hL_S1 rfl)).trans hpre2)))) (show (mI S4 92) = fp92 from by first | (exact ((show mI S4 92 = mI S1 92 from funext (fun _ => zG_z hL_S4 rfl)).trans ((show mI S1 92 = mI S 92 from funext (fun _ => zG_z hL_S1 rfl)).trans hpre3))))
  · skip
    have g7 := i_nlt h5
    refine ⟨zG_n hI_S4 th_c3, ?_⟩
    have f8 := zG_th hI_S4 th_c3
    first | have e9 : ((mI S4 c3 2) - (1 : Int32)).toInt = (mI S4 c3 2).toInt - (1) := i_subk rfl (by omega) (by omega) | have b10 := i_bd ((mI S4 c3 2) - (1 : Int32))
    refine zd (fun h11 => ?_) (fun h11 => ?_)
    · skip
      have g12 := i_le h11
      exact KX 1 _ (by decide) hI_S4 (show xB S4 (mR S4 70) from by first | (exact xB_x (xC_o (W := 75) rp0_S4).2)) (show aS 88 S4 = ab from by first | (exact (xC_o (W := 88) rp0_S4).1.trans (rp1_S4.trans (rp1_S1.trans hpre1)))) (show (1 = 4 ∧ (¬ zRq ab o ∨ (zRq ab o ∧ t ≠ -1 ∧ ¬ zRq ab t))) ∨ (1 = 1 ∧ zRq ab o ∧ (t = -1 ∨ zRq ab t) ∧ ¬ zHw ab o i) ∨ (1 = 5 ∧ zRq ab o ∧ (t = -1 ∨ zRq ab t) ∧ zHw ab o i ∧ ¬ zIr ab o i) from by first | (have ty := xB_th (W := 88) rp0_S4 rg_c3; have z2 := congrArg Int32.toInt ty.2.2.2.2.1; rw [(rp1_S4.trans (rp1_S1.trans hpre1))] at z2; exact Or.inr (Or.inl ⟨rfl, (rq_up rp3_S1 hpre1), (rp3_S4.imp id (fun w => rq_up w (rp1_S1.trans hpre1))), fun w => by have w1 := w.1; have w2 := w.2; omega⟩))) (show (mI S4 91) = fp91 from by first | (exact ((show mI S4 91 = mI S1 91 from funext (fun _ => zG_z hL_S4 rfl)).trans ((show mI S1 91 = mI S 91 from funext (fun _ => zG_z hL_S1 rfl)).trans hpre2)))) (show (mI S4 92) = fp92 from by first | (exact ((show mI S4 92 = mI S1 92 from funext (fun _ => zG_z hL_S4 rfl)).trans ((show mI S1 92 = mI S 92 from funext (fun _ => zG_z hL_S1 rfl)).trans hpre3))))
    · skip
      have g13 := i_nle h11
      refine ⟨zG_n hI_S4 th_c3, ?_⟩
      refine ⟨zG_n hI_S4 th_c3, ?_⟩
      refine zd (fun h14 => ?_) (fun h14 => ?_)
      · skip
        have g15 := i_lt h14
        exact KX 5 _ (by decide) hI_S4 (show xB S4 (mR S4 70) from by first | (exact xB_x (xC_o (W := 75) rp0_S4).2)) (show aS 88 S4 = ab from by first | (exact (xC_o (W := 88) rp0_S4).1.trans (rp1_S4.trans (rp1_S1.trans hpre1)))) (show (5 = 4 ∧ (¬ zRq ab o ∨ (zRq ab o ∧ t ≠ -1 ∧ ¬ zRq ab t))) ∨ (5 = 1 ∧ zRq ab o ∧ (t = -1 ∨ zRq ab t) ∧ ¬ zHw ab o i) ∨ (5 = 5 ∧ zRq ab o ∧ (t = -1 ∨ zRq ab t) ∧ zHw ab o i ∧ ¬ zIr ab o i) from by first | (exfalso; omega) | (have ty := xB_th (W := 88) rp0_S4 rg_c3; have z2 := congrArg Int32.toInt ty.2.2.2.2.1; rw [(rp1_S4.trans (rp1_S1.trans hpre1))] at z2; exact Or.inr (Or.inr ⟨rfl, (rq_up rp3_S1 hpre1), (rp3_S4.imp id (fun w => rq_up w (rp1_S1.trans hpre1))), ⟨by omega, by omega⟩, ir_n rp0_S4 rg_c3 (rp1_S4.trans (rp1_S1.trans hpre1)) (by omega) (by assumption)⟩))) (show (mI S4 91) = fp91 from by first | (exact ((show mI S4 91 = mI S1 91 from funext (fun _ => zG_z hL_S4 rfl)).trans ((show mI S1 91 = mI S 91 from funext (fun _ => zG_z hL_S1 rfl)).trans hpre2)))) (show (mI S4 92) = fp92 from by first | (exact ((show mI S4 92 = mI S1 92 from funext (fun _ => zG_z hL_S4 rfl)).trans ((show mI S1 92 = mI S 92 from funext (fun _ => zG_z hL_S1 rfl)).trans hpre3))))
      · skip
        have g16 := i_nlt h14
        refine ⟨zG_n hI_S4 th_c3, ?_⟩
        refine zd (fun h17 => ?_) (fun h17 => ?_)
        · skip
          have g18 := i_le h17
          exact KX 5 _ (by decide) hI_S4 (show xB S4 (mR S4 70) from by first | (exact xB_x (xC_o (W := 75) rp0_S4).2)) (show aS 88 S4 = ab from by first | (exact (xC_o (W := 88) rp0_S4).1.trans (rp1_S4.trans (rp1_S1.trans hpre1)))) (show (5 = 4 ∧ (¬ zRq ab o ∨ (zRq ab o ∧ t ≠ -1 ∧ ¬ zRq ab t))) ∨ (5 = 1 ∧ zRq ab o ∧ (t = -1 ∨ zRq ab t) ∧ ¬ zHw ab o i) ∨ (5 = 5 ∧ zRq ab o ∧ (t = -1 ∨ zRq ab t) ∧ zHw ab o i ∧ ¬ zIr ab o i) from by first | (exfalso; omega) | (have ty := xB_th (W := 88) rp0_S4 rg_c3; have z2 := congrArg Int32.toInt ty.2.2.2.2.1; rw [(rp1_S4.trans (rp1_S1.trans hpre1))] at z2; exact Or.inr (Or.inr ⟨rfl, (rq_up rp3_S1 hpre1), (rp3_S4.imp id (fun w => rq_up w (rp1_S1.trans hpre1))), ⟨by omega, by omega⟩, ir_n rp0_S4 rg_c3 (rp1_S4.trans (rp1_S1.trans hpre1)) (by omega) (by assumption)⟩))) (show (mI S4 91) = fp91 from by first | (exact ((show mI S4 91 = mI S1 91 from funext (fun _ => zG_z hL_S4 rfl)).trans ((show mI S1 91 = mI S 91 from funext (fun _ => zG_z hL_S1 rfl)).trans hpre2)))) (show (mI S4 92) = fp92 from by first | (exact ((show mI S4 92 = mI S1 92 from funext (fun _ => zG_z hL_S4 rfl)).trans ((show mI S1 92 = mI S 92 from funext (fun _ => zG_z hL_S1 rfl)).trans hpre3))))
        · skip
          have g19 := i_nle h17
          refine ⟨zG_n hI_S4 th_c3, ?_⟩
          have b20 := i_bd (lg_cmp ((((mL S4 c3 3).toUInt64 >>> (i.toInt64.toUInt64 &&& Int64.toUInt64 63)).toInt64) &&& (1 : Int64)) (0 : Int64))
          refine zd (fun h21 => ?_) (fun h21 => ?_)
          · skip
            have g22 := i_eq h21
            exact KX 5 _ (by decide) hI_S4 (show xB S4 (mR S4 70) from by first | (exact xB_x (xC_o (W := 75) rp0_S4).2)) (show aS 88 S4 = ab from by first | (exact (xC_o (W := 88) rp0_S4).1.trans (rp1_S4.trans (rp1_S1.trans hpre1)))) (show (5 = 4 ∧ (¬ zRq ab o ∨ (zRq ab o ∧ t ≠ -1 ∧ ¬ zRq ab t))) ∨ (5 = 1 ∧ zRq ab o ∧ (t = -1 ∨ zRq ab t) ∧ ¬ zHw ab o i) ∨ (5 = 5 ∧ zRq ab o ∧ (t = -1 ∨ zRq ab t) ∧ zHw ab o i ∧ ¬ zIr ab o i) from by first | (exfalso; omega) | (have ty := xB_th (W := 88) rp0_S4 rg_c3; have z2 := congrArg Int32.toInt ty.2.2.2.2.1; rw [(rp1_S4.trans (rp1_S1.trans hpre1))] at z2; exact Or.inr (Or.inr ⟨rfl, (rq_up rp3_S1 hpre1), (rp3_S4.imp id (fun w => rq_up w (rp1_S1.trans hpre1))), ⟨by omega, by omega⟩, ir_n rp0_S4 rg_c3 (rp1_S4.trans (rp1_S1.trans hpre1)) (by omega) (by assumption)⟩))) (show (mI S4 91) = fp91 from by first | (exact ((show mI S4 91 = mI S1 91 from funext (fun _ => zG_z hL_S4 rfl)).trans ((show mI S1 91 = mI S 91 from funext (fun _ => zG_z hL_S1 rfl)).trans hpre2)))) (show (mI S4 92) = fp92 from by first | (exact ((show mI S4 92 = mI S1 92 from funext (fun _ => zG_z hL_S4 rfl)).trans ((show mI S1 92 = mI S 92 from funext (fun _ => zG_z hL_S1 rfl)).trans hpre3))))
          · skip
            have g23 := i_ne h21
            refine sp_94_69_s (ab := (aS 88 S4)) (R := (mR S 70)) (W := 88) (y := (t)) (yt := (o)) c3 (i) (v5) (by omega) (by omega) (zB_dn_zI hI_S4) th_c3 hq_v5 (show xB S4 (mR S 70) from by first | (exact (xC_o (W := 75) rp0_S4).2)) (show aS 88 S4 = (aS 88 S4) from by first | (exact rfl)) (show xW 88 from by first | (exact xW88) | (exact xW75)) (show zTa (mR S 70) (o) = some c3 from by first | (exact rg_c3)) (show v5 = zTa (mR S 70) (t) from by first | (exact rp2_S4)) (by omega) (fun v7 S6 hL_S6 hq_v7 rp0_S6 rp1_S6 rp2_S6 => zo_n ⟨zG_T hL_S6, ?_⟩)
            have hI_S6 := zB_up_zI hI_S4 hL_S6
            have rp0_S6 : xB S6 (mR S 70) := by
              have z := rp0_S6
              (try rw [show mI S4 65 = f 65 from funext (fun k => zG_z hI_S4 rfl)] at z)
              (try rw [show mI S4 64 1 = f 64 1 from zG_z hI_S4 rfl] at z)
              exact z
            have rp1_S6 : aS 88 S6 = aCi (aS 88 S4) (o).toNatClampNeg i (aNm (aS 88 S4) (t)) := by
              have z := rp1_S6
              (try rw [show mI S4 65 = f 65 from funext (fun k => zG_z hI_S4 rfl)] at z)
              (try rw [show mI S4 64 1 = f 64 1 from zG_z hI_S4 rfl] at z)
              exact z
            have rp2_S6 : v7 = zTa (mR S 70) (aRef (aS 88 S4) (o).toNatClampNeg i) := by
              have z := rp2_S6
              (try rw [show mI S4 65 = f 65 from funext (fun k => zG_z hI_S4 rfl)] at z)
              (try rw [show mI S4 64 1 = f 64 1 from zG_z hI_S4 rfl] at z)
              exact z
            refine ⟨fun hc => ?_, fun c8 hc => ?_⟩
            · skip
              have rn_c8 : zTa (mR S 70) (aRef (aS 88 S4) (o).toNatClampNeg i) = none := rp2_S6.symm.trans hc
              have li24 : (-1 : Int32).toInt = -1 := rfl
              exact K ((-1 : Int32)) _ hI_S6 trivial (show xB S6 (mR S6 70) from by first | (exact xB_x (xC_o (W := 75) rp0_S6).2)) (show zRq ab o ∧ (t = -1 ∨ zRq ab t) ∧ zHw ab o i ∧ zIr ab o i ∧ aS 88 S6 = aL0 ab o.toNatClampNeg i t ∧ (-1 : Int32) = aNm ab (aRef ab o.toNatClampNeg i) from by first | (exfalso; omega) | (have ty := xB_th (W := 88) rp0_S4 rg_c3; have z2 := congrArg Int32.toInt ty.2.2.2.2.1; rw [(rp1_S4.trans (rp1_S1.trans hpre1))] at z2; have ns := rp1_S6; rw [(rp1_S4.trans (rp1_S1.trans hpre1))] at ns; have nn := nm_n (W := 88) rp0_S4 rn_c8; rw [(rp1_S4.trans (rp1_S1.trans hpre1))] at nn; exact ⟨(rq_up rp3_S1 hpre1), (rp3_S4.imp id (fun w => rq_up w (rp1_S1.trans hpre1))), ⟨by omega, by omega⟩, ir_y rp0_S4 rg_c3 (rp1_S4.trans (rp1_S1.trans hpre1)) (by omega) (by assumption), ns, (by exact nn.symm)⟩)) (show (mI S6 91) = fp91 from by first | (exact ((show mI S6 91 = mI S4 91 from funext (fun _ => zG_z hL_S6 rfl)).trans ((show mI S4 91 = mI S1 91 from funext (fun _ => zG_z hL_S4 rfl)).trans ((show mI S1 91 = mI S 91 from funext (fun _ => zG_z hL_S1 rfl)).trans hpre2))))) (show (mI S6 92) = fp92 from by first | (exact ((show mI S6 92 = mI S4 92 from funext (fun _ => zG_z hL_S6 rfl)).trans ((show mI S4 92 = mI S1 92 from funext (fun _ => zG_z hL_S4 rfl)).trans ((show mI S1 92 = mI S 92 from funext (fun _ => zG_z hL_S1 rfl)).trans hpre3)))))
            · skip
              have th_c8 := hq_v7 c8 hc
              have rg_c8 : zTa (mR S 70) (aRef (aS 88 S4) (o).toNatClampNeg i) = some c8 := rp2_S6.symm.trans hc
              subst hc
              refine ⟨zG_n hI_S6 th_c8, ?_⟩
              have f25 := zG_th hI_S6 th_c8
              exact K ((mI S6 c8 0)) _ hI_S6 trivial (show xB S6 (mR S6 70) from by first | (exact xB_x (xC_o (W := 75) rp0_S6).2)) (show zRq ab o ∧ (t = -1 ∨ zRq ab t) ∧ zHw ab o i ∧ zIr ab o i ∧ aS 88 S6 = aL0 ab o.toNatClampNeg i t ∧ (mI S6 c8 0) = aNm ab (aRef ab o.toNatClampNeg i) from by first | (exfalso; omega) | (have ty := xB_th (W := 88) rp0_S4 rg_c3; have z2 := congrArg Int32.toInt ty.2.2.2.2.1; rw [(rp1_S4.trans (rp1_S1.trans hpre1))] at z2; have ns := rp1_S6; rw [(rp1_S4.trans (rp1_S1.trans hpre1))] at ns; have nn := nm_y (W := 88) rp0_S4 rg_c8; have tn := (xB_th (W := 88) rp0_S6 rg_c8).2.2.1; rw [(rp1_S4.trans (rp1_S1.trans hpre1))] at nn; exact ⟨(rq_up rp3_S1 hpre1), (rp3_S4.imp id (fun w => rq_up w (rp1_S1.trans hpre1))), ⟨by omega, by omega⟩, ir_y rp0_S4 rg_c3 (rp1_S4.trans (rp1_S1.trans hpre1)) (by omega) (by assumption), ns, (by rw [tn]; (try rw [(rp1_S4.trans (rp1_S1.trans hpre1))]); exact nn.symm)⟩)) (show (mI S6 91) = fp91 from by first | (exact ((show mI S6 91 = mI S4 91 from funext (fun _ => zG_z hL_S6 rfl)).trans ((show mI S4 91 = mI S1 91 from funext (fun _ => zG_z hL_S4 rfl)).trans ((show mI S1 91 = mI S 91 from funext (fun _ => zG_z hL_S1 rfl)).trans hpre2))))) (show (mI S6 92) = fp92 from by first | (exact ((show mI S6 92 = mI S4 92 from funext (fun _ => zG_z hL_S6 rfl)).trans ((show mI S4 92 = mI S1 92 from funext (fun _ => zG_z hL_S4 rfl)).trans ((show mI S1 92 = mI S 92 from funext (fun _ => zG_z hL_S1 rfl)).trans hpre3)))))

/-! from 95.q51 -/
/-! the moving collectors, the class (written by wip/tools/gen15.py) -/
theorem g_155_64_sm_p91_0 {X : Nat × (Nat → Int32)} {d w : Nat} {S : ma_S} {Q : Option ma_V ⊕ Nat → ma_S → Prop} (i : Int32) (rt : Int32) (hd : 7 ≤ d) (hw : 134 ≤ w) (hS : zT S) (h : if i < 0 then (Q (.inr 2) (ma_bump S)) else (if (16 : Int32) ≤ i then (Q (.inr 2) (ma_bump S)) else (if rt < 0 then (Q (.inr 2) (ma_bump S)) else (if (16 : Int32) ≤ rt then (Q (.inr 2) (ma_bump S)) else (mR S 64 11 = some 91 ∧ (mR S 64 11 = some 91 ∧ ((0 ≤ i ∧ i.toNatClampNeg < 16) ∧ (if (mI S 73 i.toNatClampNeg) < 0 then (Q (.inl (some (.inl (-1 : Int32)))) S) else (if (512 : Int32) ≤ (mI S 73 i.toNatClampNeg) then (Q (.inl (some (.inl (-1 : Int32)))) S) else ((0 ≤ (mI S 73 i.toNatClampNeg) ∧ (mI S 73 i.toNatClampNeg).toNatClampNeg < 512) ∧ (((mR S 70 (mI S 73 i.toNatClampNeg).toNatClampNeg) = none → Q (.inl (some (.inl (-1 : Int32)))) S) ∧ (∀ c1, (mR S 70 (mI S 73 i.toNatClampNeg).toNatClampNeg) = some c1 → ma_wp X (d - 1) (w - 24) 145 0 [(0, .inr (.inr (some 64))), (1, .inr (.inr (some 91))), (2, .inl rt), (3, .inr (.inr (some c1)))] [] S (zo (fun v3 S2 => zT S2 ∧ ((126 ≤ c1 ∧ c1 < mN S2) ∧ (Q (.inl (some (.inl (mI S2 c1 0)))) S2))) (fun x S9 => Q (.inr x) S9)))))))))))))) : ma_wp X d w 155 0 [(0, .inr (.inr (some 64))), (1, .inl i), (2, .inl rt)] [] S Q := by
  refine zw_push hm_155 dX11_strong_0 (v := .inl i) rfl ?_
  refine zw_cs hm_155 dX11_strong_1 pn_11_109 sl_11_109 hm_142 [.inl i] [] rfl ⟨by omega, by omega⟩ rfl ?_
  show ma_wp X (d - 1) (w - 20) 142 0 [(0, .inl i)] [] S _
  refine zw_push hm_142 dX11_isSlot_0 (v := .inl i) rfl ?_
  refine zw_if0 hm_142 dX11_isSlot_1 (t := 14) rfl zc0_lt ?_ ?_
  · intro hc
    rw [if_pos hc] at h
    refine zw_push hm_142 dX11_isSlot_14 (v := .inl (0 : Int32)) rfl ?_
    refine zw_bret hm_142 dX11_isSlot_15 (by decide) ?_
    show ma_wp X d w 155 4 [(0, .inr (.inr (some 64))), (1, .inl i), (2, .inl rt)] [.inl (0 : Int32)] S _
    refine zw_if0 hm_155 dX11_strong_4 (t := 14) rfl zc0_eq (fun _ => ?_) (fun hc => absurd (by decide) hc)
    exact zw_thr hm_155 dX11_strong_14 dX11_strong_17 dX11_strong_18 dX11_strong_21 x_11_79_81 n_11_79 (by omega) (by show 0 + 81 ≤ w; omega) h
  · intro hc
    rw [if_neg hc] at h
    refine zw_push hm_142 dX11_isSlot_4 (v := .inl i) rfl ?_
    refine zw_push hm_142 dX11_isSlot_5 (v := .inl (16 : Int32)) rfl ?_
    refine zw_if2 hm_142 dX11_isSlot_7 (t := 14) rfl zc2_ge ?_ ?_
    · intro hc
      rw [if_pos hc] at h
      refine zw_push hm_142 dX11_isSlot_14 (v := .inl (0 : Int32)) rfl ?_
      refine zw_bret hm_142 dX11_isSlot_15 (by decide) ?_
      show ma_wp X d w 155 4 [(0, .inr (.inr (some 64))), (1, .inl i), (2, .inl rt)] [.inl (0 : Int32)] S _
      refine zw_if0 hm_155 dX11_strong_4 (t := 14) rfl zc0_eq (fun _ => ?_) (fun hc => absurd (by decide) hc)
      exact zw_thr hm_155 dX11_strong_14 dX11_strong_17 dX11_strong_18 dX11_strong_21 x_11_79_81 n_11_79 (by omega) (by show 0 + 81 ≤ w; omega) h
    · intro hc
      rw [if_neg hc] at h
      refine zw_push hm_142 dX11_isSlot_10 (v := .inl (1 : Int32)) rfl ?_
      refine zw_goto hm_142 dX11_isSlot_11 (t := 15) rfl ?_
      refine zw_bret hm_142 dX11_isSlot_15 (by decide) ?_
      show ma_wp X d w 155 4 [(0, .inr (.inr (some 64))), (1, .inl i), (2, .inl rt)] [.inl (1 : Int32)] S _
      refine zw_if0 hm_155 dX11_strong_4 (t := 14) rfl zc0_eq (fun hc => absurd hc (by decide)) (fun _ => ?_)
      refine zw_push hm_155 dX11_strong_7 (v := .inl rt) rfl ?_
      refine zw_cs hm_155 dX11_strong_8 pn_11_109 sl_11_109 hm_142 [.inl rt] [] rfl ⟨by omega, by omega⟩ rfl ?_
      show ma_wp X (d - 1) (w - 20) 142 0 [(0, .inl rt)] [] S _
      refine zw_push hm_142 dX11_isSlot_0 (v := .inl rt) rfl ?_
      refine zw_if0 hm_142 dX11_isSlot_1 (t := 14) rfl zc0_lt ?_ ?_
      · intro hc
        rw [if_pos hc] at h
        refine zw_push hm_142 dX11_isSlot_14 (v := .inl (0 : Int32)) rfl ?_
        refine zw_bret hm_142 dX11_isSlot_15 (by decide) ?_
        show ma_wp X d w 155 11 [(0, .inr (.inr (some 64))), (1, .inl i), (2, .inl rt)] [.inl (0 : Int32)] S _
        refine zw_if0 hm_155 dX11_strong_11 (t := 22) rfl zc0_ne (fun hc => absurd hc (by decide)) (fun _ => ?_)
        exact zw_thr hm_155 dX11_strong_14 dX11_strong_17 dX11_strong_18 dX11_strong_21 x_11_79_81 n_11_79 (by omega) (by show 0 + 81 ≤ w; omega) h
      · intro hc
        rw [if_neg hc] at h
        refine zw_push hm_142 dX11_isSlot_4 (v := .inl rt) rfl ?_
        refine zw_push hm_142 dX11_isSlot_5 (v := .inl (16 : Int32)) rfl ?_
        refine zw_if2 hm_142 dX11_isSlot_7 (t := 14) rfl zc2_ge ?_ ?_
        · intro hc
          rw [if_pos hc] at h
          refine zw_push hm_142 dX11_isSlot_14 (v := .inl (0 : Int32)) rfl ?_
          refine zw_bret hm_142 dX11_isSlot_15 (by decide) ?_
          show ma_wp X d w 155 11 [(0, .inr (.inr (some 64))), (1, .inl i), (2, .inl rt)] [.inl (0 : Int32)] S _
          refine zw_if0 hm_155 dX11_strong_11 (t := 22) rfl zc0_ne (fun hc => absurd hc (by decide)) (fun _ => ?_)
          exact zw_thr hm_155 dX11_strong_14 dX11_strong_17 dX11_strong_18 dX11_strong_21 x_11_79_81 n_11_79 (by omega) (by show 0 + 81 ≤ w; omega) h
        · intro hc
          rw [if_neg hc] at h
          refine zw_push hm_142 dX11_isSlot_10 (v := .inl (1 : Int32)) rfl ?_
          refine zw_goto hm_142 dX11_isSlot_11 (t := 15) rfl ?_
          refine zw_bret hm_142 dX11_isSlot_15 (by decide) ?_
          show ma_wp X d w 155 11 [(0, .inr (.inr (some 64))), (1, .inl i), (2, .inl rt)] [.inl (1 : Int32)] S _
          refine zw_if0 hm_155 dX11_strong_11 (t := 22) rfl zc0_ne (fun _ => ?_) (fun hc => absurd (by decide) hc)
          refine zw_push hm_155 dX11_strong_22 (v := .inr (.inr (some 64))) rfl ?_
          refine zw_cv hm_155 dX11_strong_23 v_11_119_11 hm_144 [] [] rfl (zT_rt hS s_64 rfl) ⟨by omega, by omega⟩ rfl ?_
          show ma_wp X (d - 1) (w - 20) 144 0 [(0, .inr (.inr (some 64)))] [] S _
          refine zw_push hm_144 dX11_needCollector_0 (v := .inr (.inr (some 64))) rfl ?_
          obtain ⟨hg, h⟩ := h
          refine zw_gf hm_144 dX11_needCollector_1 (v := .inr (.inr (some 91))) (zT_is hS s_64) (zT_t hS s_64) rfl f_11_98_11 (congrArg (fun z => Sum.inr (Sum.inr z)) hg) ?_
          refine zw_ifnonnull hm_144 dX11_needCollector_4 (t := 15) rfl (fun z => by cases z) (fun _ _ => ?_)
          refine zw_push hm_144 dX11_needCollector_15 (v := .inr (.inr (some 64))) rfl ?_
          obtain ⟨hg, h⟩ := h
          refine zw_gf hm_144 dX11_needCollector_16 (v := .inr (.inr (some 91))) (zT_is hS s_64) (zT_t hS s_64) rfl f_11_98_11 (congrArg (fun z => Sum.inr (Sum.inr z)) hg) ?_
          refine zw_aret hm_144 dX11_needCollector_19 ?_
          show ma_wp X d w 155 26 [(0, .inr (.inr (some 64))), (1, .inl i), (2, .inl rt)] [.inr (.inr (some 91))] S _
          refine zw_sto hm_155 dX11_strong_26 [(3, .inr (.inr (some 91))), (0, .inr (.inr (some 64))), (1, .inl i), (2, .inl rt)] rfl rfl rfl ?_
          refine zw_push hm_155 dX11_strong_27 (v := .inr (.inr (some 64))) rfl ?_
          refine zw_gf hm_155 dX11_strong_28 (v := .inr (.inr (some 69))) (zT_is hS s_64) (zT_t hS s_64) rfl f_11_26_11 (zT_f hS r_64_8) ?_
          refine zw_push hm_155 dX11_strong_31 (v := .inr (.inr (some 64))) rfl ?_
          refine zw_gf hm_155 dX11_strong_32 (v := .inr (.inr (some 69))) (zT_is hS s_64) (zT_t hS s_64) rfl f_11_26_11 (zT_f hS r_64_8) ?_
          refine zw_gf hm_155 dX11_strong_35 (v := .inr (.inr (some 73))) (zT_is hS s_69) (zT_t hS s_69) rfl f_11_173_7 (zT_f hS r_69_3) ?_
          refine zw_push hm_155 dX11_strong_38 (v := .inl i) rfl ?_
          obtain ⟨hg, h⟩ := h
          refine zw_ia hm_155 dX11_strong_39 (zT_is hS s_73) (zT_h hS s_73) rfl hg ?_
          show ma_wp X d w 155 40 [(3, .inr (.inr (some 91))), (0, .inr (.inr (some 64))), (1, .inl i), (2, .inl rt)] [.inl (mI S 73 i.toNatClampNeg), .inr (.inr (some 69))] S _
          refine zw_cv hm_155 dX11_strong_40 v_11_176_7 hm_81 [.inl (mI S 73 i.toNatClampNeg)] [] rfl (zT_rt hS s_69 rfl) ⟨by omega, by omega⟩ rfl ?_
          show ma_wp X (d - 1) (w - 21) 81 0 [(0, .inr (.inr (some 69))), (1, .inl (mI S 73 i.toNatClampNeg))] [] S _
          refine zw_push hm_81 dX7_thingAt_0 (v := .inl (mI S 73 i.toNatClampNeg)) rfl ?_
          refine zw_if0 hm_81 dX7_thingAt_1 (t := 20) rfl zc0_lt ?_ ?_
          · intro hc
            rw [if_pos hc] at h
            refine zw_push hm_81 dX7_thingAt_20 (v := .inr (.inr none)) rfl ?_
            refine zw_aret hm_81 dX7_thingAt_21 ?_
            show ma_wp X d w 155 43 [(3, .inr (.inr (some 91))), (0, .inr (.inr (some 64))), (1, .inl i), (2, .inl rt)] [.inr (.inr none)] S _
            refine zw_sto hm_155 dX11_strong_43 [(4, .inr (.inr none)), (3, .inr (.inr (some 91))), (0, .inr (.inr (some 64))), (1, .inl i), (2, .inl rt)] rfl rfl rfl ?_
            refine zw_push hm_155 dX11_strong_45 (v := .inr (.inr none)) rfl ?_
            refine zw_ifnonnull hm_155 dX11_strong_47 (t := 52) rfl (fun _ => ?_) (fun _ z => by cases z)
            refine zw_push hm_155 dX11_strong_50 (v := .inl (-1 : Int32)) rfl ?_
            exact zw_iret hm_155 dX11_strong_51 h
          · intro hc
            rw [if_neg hc] at h
            refine zw_push hm_81 dX7_thingAt_4 (v := .inl (mI S 73 i.toNatClampNeg)) rfl ?_
            refine zw_push hm_81 dX7_thingAt_5 (v := .inl (512 : Int32)) rfl ?_
            refine zw_if2 hm_81 dX7_thingAt_8 (t := 20) rfl zc2_ge ?_ ?_
            · intro hc
              rw [if_pos hc] at h
              refine zw_push hm_81 dX7_thingAt_20 (v := .inr (.inr none)) rfl ?_
              refine zw_aret hm_81 dX7_thingAt_21 ?_
              show ma_wp X d w 155 43 [(3, .inr (.inr (some 91))), (0, .inr (.inr (some 64))), (1, .inl i), (2, .inl rt)] [.inr (.inr none)] S _
              refine zw_sto hm_155 dX11_strong_43 [(4, .inr (.inr none)), (3, .inr (.inr (some 91))), (0, .inr (.inr (some 64))), (1, .inl i), (2, .inl rt)] rfl rfl rfl ?_
              refine zw_push hm_155 dX11_strong_45 (v := .inr (.inr none)) rfl ?_
              refine zw_ifnonnull hm_155 dX11_strong_47 (t := 52) rfl (fun _ => ?_) (fun _ z => by cases z)
              refine zw_push hm_155 dX11_strong_50 (v := .inl (-1 : Int32)) rfl ?_
              exact zw_iret hm_155 dX11_strong_51 h
            · intro hc
              rw [if_neg hc] at h
              refine zw_push hm_81 dX7_thingAt_11 (v := .inr (.inr (some 69))) rfl ?_
              refine zw_gf hm_81 dX7_thingAt_12 (v := .inr (.inr (some 70))) (zT_is hS s_69) (zT_t hS s_69) rfl f_7_11_7 (zT_f hS r_69_0) ?_
              refine zw_push hm_81 dX7_thingAt_15 (v := .inl (mI S 73 i.toNatClampNeg)) rfl ?_
              obtain ⟨hg, h⟩ := h
              refine zw_aa hm_81 dX7_thingAt_16 (zT_is hS s_70) (zT_h hS s_70) rfl rfl hg rfl ?_
              show ma_wp X (d - 1) (w - 21) 81 17 [(0, .inr (.inr (some 69))), (1, .inl (mI S 73 i.toNatClampNeg))] [.inr (.inr (mR S 70 (mI S 73 i.toNatClampNeg).toNatClampNeg))] S _
              refine zw_goto hm_81 dX7_thingAt_17 (t := 21) rfl ?_
              refine zw_aret hm_81 dX7_thingAt_21 ?_
              show ma_wp X d w 155 43 [(3, .inr (.inr (some 91))), (0, .inr (.inr (some 64))), (1, .inl i), (2, .inl rt)] [.inr (.inr (mR S 70 (mI S 73 i.toNatClampNeg).toNatClampNeg))] S _
              refine zw_sto hm_155 dX11_strong_43 [(4, .inr (.inr (mR S 70 (mI S 73 i.toNatClampNeg).toNatClampNeg))), (3, .inr (.inr (some 91))), (0, .inr (.inr (some 64))), (1, .inl i), (2, .inl rt)] rfl rfl rfl ?_
              refine zw_push hm_155 dX11_strong_45 (v := .inr (.inr (mR S 70 (mI S 73 i.toNatClampNeg).toNatClampNeg))) rfl ?_
              refine zw_ifnonnull hm_155 dX11_strong_47 (t := 52) rfl ?_ ?_
              · intro hc
                have h := h.1 hc
                (try rw [hc])
                show ma_wp X d w 155 50 [(4, .inr (.inr none)), (3, .inr (.inr (some 91))), (0, .inr (.inr (some 64))), (1, .inl i), (2, .inl rt)] [] S _
                refine zw_push hm_155 dX11_strong_50 (v := .inl (-1 : Int32)) rfl ?_
                exact zw_iret hm_155 dX11_strong_51 h
              · intro c1 hc
                have h := h.2 c1 hc
                (try rw [hc])
                show ma_wp X d w 155 52 [(4, .inr (.inr (some c1))), (3, .inr (.inr (some 91))), (0, .inr (.inr (some 64))), (1, .inl i), (2, .inl rt)] [] S _
                refine zw_push hm_155 dX11_strong_52 (v := .inr (.inr (some 64))) rfl ?_
                refine zw_push hm_155 dX11_strong_53 (v := .inr (.inr (some 91))) rfl ?_
                refine zw_push hm_155 dX11_strong_54 (v := .inl rt) rfl ?_
                refine zw_push hm_155 dX11_strong_55 (v := .inr (.inr (some c1))) rfl ?_
                refine zw_cv hm_155 dX11_strong_57 v_11_169_11 hm_145 [.inr (.inr (some c1)), .inl rt, .inr (.inr (some 91))] [] rfl (zT_rt hS s_64 rfl) ⟨by omega, by omega⟩ rfl (zw_mono h (zo_go ?_ ?_))
                · intro v3 S2 hv
                  obtain ⟨hS2, h⟩ := hv
                  refine zw_stk hm_155 dX11_strong_60 (st₉ := []) rfl rfl ?_
                  refine zw_push hm_155 dX11_strong_61 (v := .inr (.inr (some 91))) rfl ?_
                  refine zw_push hm_155 dX11_strong_62 (v := .inr (.inr (some c1))) rfl ?_
                  refine zw_cv hm_155 dX11_strong_64 v_11_179_4 hm_268 [.inr (.inr (some c1))] [] rfl (zT_rt hS2 s_91 rfl) ⟨by omega, by omega⟩ rfl ?_
                  show ma_wp X (d - 1) (w - 21) 268 0 [(0, .inr (.inr (some 91))), (1, .inr (.inr (some c1)))] [] S2 _
                  refine zw_vret hm_268 dX1_noteStrong_0 ?_
                  show ma_wp X d w 155 67 [(4, .inr (.inr (some c1))), (3, .inr (.inr (some 91))), (0, .inr (.inr (some 64))), (1, .inl i), (2, .inl rt)] [] S2 _
                  refine zw_push hm_155 dX11_strong_67 (v := .inr (.inr (some c1))) rfl ?_
                  obtain ⟨hg, h⟩ := h
                  refine zw_gf hm_155 dX11_strong_69 (v := .inl (mI S2 c1 0)) (zT_tis hS2 hg) (zT_tt hS2 hg) rfl f_11_182_9 rfl ?_
                  exact zw_iret hm_155 dX11_strong_72 h
                · intro x S9 hx
                  exact ⟨by decide, hx⟩
theorem sp_155_64_sm_p91 {X : Nat × (Nat → Int32)} {d w : Nat} {f : Nat → Nat → Int32} {r : Nat → Nat → Option Nat} {C Z N : Nat} {Q : Option ma_V ⊕ Nat → ma_S → Prop} {ab : Nat→Nat→Int32} {fp91 : Nat→Int32} {fp92 : Nat→Int32} {S : ma_S} (i : Int32) (rt : Int32) (hd : 7 ≤ d) (hw : 134 ≤ w) (hI : zB f r C Z N S) (hr : r 64 11 = some 91) (hpre0 : xB S (mR S 70)) (hpre1 : aS 88 S = ab) (hpre2 : (mI S 91) = fp91) (hpre3 : (mI S 92) = fp92) (K : ∀ v S₉, zB f r C Z N S₉ → (True) → (xB S₉ (mR S₉ 70)) → ((0 ≤ i.toInt ∧ i.toInt ≤ 15) ∧ (0 ≤ rt.toInt ∧ rt.toInt ≤ 15) ∧ ((aNm ab (ab 73 i.toNatClampNeg) = -1 ∧ aS 88 S₉ = ab ∧ v = -1) ∨ (aNm ab (ab 73 i.toNatClampNeg) = ab 73 i.toNatClampNeg ∧ 0 ≤ (ab 73 i.toNatClampNeg).toInt ∧ aS 88 S₉ = aR0 ab rt (ab 73 i.toNatClampNeg) ∧ v = ab 73 i.toNatClampNeg))) → ((mI S₉ 91) = fp91) → ((mI S₉ 92) = fp92) → Q (.inl (some (.inl v))) S₉) (KX : ∀ x S₉, (x = 2) → zB f r C Z N S₉ → (xB S₉ (mR S₉ 70)) → (aS 88 S₉ = ab) → (x = 2 ∧ ¬ ((0 ≤ i.toInt ∧ i.toInt ≤ 15) ∧ (0 ≤ rt.toInt ∧ rt.toInt ≤ 15))) → ((mI S₉ 91) = fp91) → ((mI S₉ 92) = fp92) → Q (.inr x) (ma_bump S₉)) : ma_wp X d w 155 0 [(0, .inr (.inr (some 64))), (1, .inl i), (2, .inl rt)] [] S Q := by
  refine g_155_64_sm_p91_0 i rt (by omega) (by omega) (zG_T hI) ?_
  have b1 := i_bd i
  have li2 : (0 : Int32).toInt = 0 := rfl
  refine zd (fun h3 => ?_) (fun h3 => ?_)
  · skip
    have g4 := i_lt h3
    exact KX 2 _ (by decide) hI (show xB S (mR S 70) from by first | (exact xB_x (xC_o (W := 75) hpre0).2)) (show aS 88 S = ab from by first | (exact (xC_o (W := 88) hpre0).1.trans hpre1)) (show 2 = 2 ∧ ¬ ((0 ≤ i.toInt ∧ i.toInt ≤ 15) ∧ (0 ≤ rt.toInt ∧ rt.toInt ≤ 15)) from by first | (exact ⟨rfl, by omega⟩)) (show (mI S 91) = fp91 from by first | (exact hpre2)) (show (mI S 92) = fp92 from by first | (exact hpre3))
  · skip
    have g5 := i_nlt h3
    have li6 : (16 : Int32).toInt = 16 := rfl
    refine zd (fun h7 => ?_) (fun h7 => ?_)
    · skip
      have g8 := i_le h7
      exact KX 2 _ (by decide) hI (show xB S (mR S 70) from by first | (exact xB_x (xC_o (W := 75) hpre0).2)) (show aS 88 S = ab from by first | (exact (xC_o (W := 88) hpre0).1.trans hpre1)) (show 2 = 2 ∧ ¬ ((0 ≤ i.toInt ∧ i.toInt ≤ 15) ∧ (0 ≤ rt.toInt ∧ rt.toInt ≤ 15)) from by first | (exact ⟨rfl, by omega⟩)) (show (mI S 91) = fp91 from by first | (exact hpre2)) (show (mI S 92) = fp92 from by first | (exact hpre3))
    · skip
      have g9 := i_nle h7
      have b10 := i_bd rt
      refine zd (fun h11 => ?_) (fun h11 => ?_)
      · skip
        have g12 := i_lt h11
        exact KX 2 _ (by decide) hI (show xB S (mR S 70) from by first | (exact xB_x (xC_o (W := 75) hpre0).2)) (show aS 88 S = ab from by first | (exact (xC_o (W := 88) hpre0).1.trans hpre1)) (show 2 = 2 ∧ ¬ ((0 ≤ i.toInt ∧ i.toInt ≤ 15) ∧ (0 ≤ rt.toInt ∧ rt.toInt ≤ 15)) from by first | (exact ⟨rfl, by omega⟩)) (show (mI S 91) = fp91 from by first | (exact hpre2)) (show (mI S 92) = fp92 from by first | (exact hpre3))
      · skip
        have g13 := i_nlt h11
        refine zd (fun h14 => ?_) (fun h14 => ?_)
        · skip
          have g15 := i_le h14
          exact KX 2 _ (by decide) hI (show xB S (mR S 70) from by first | (exact xB_x (xC_o (W := 75) hpre0).2)) (show aS 88 S = ab from by first | (exact (xC_o (W := 88) hpre0).1.trans hpre1)) (show 2 = 2 ∧ ¬ ((0 ≤ i.toInt ∧ i.toInt ≤ 15) ∧ (0 ≤ rt.toInt ∧ rt.toInt ≤ 15)) from by first | (exact ⟨rfl, by omega⟩)) (show (mI S 91) = fp91 from by first | (exact hpre2)) (show (mI S 92) = fp92 from by first | (exact hpre3))
        · skip
          have g16 := i_nle h14
          refine ⟨((zG_r hI (by decide)).trans hr), ?_⟩
          refine ⟨((zG_r hI (by decide)).trans hr), ?_⟩
          refine ⟨i_ix (by omega) (by omega), ?_⟩
          have b17 := i_bd (mI S 73 i.toNatClampNeg)
          refine zd (fun h18 => ?_) (fun h18 => ?_)
          · skip
            have g19 := i_lt h18
            have li20 : (-1 : Int32).toInt = -1 := rfl
            exact K ((-1 : Int32)) _ hI trivial (show xB S (mR S 70) from by first | (exact xB_x (xC_o (W := 75) hpre0).2)) (show (0 ≤ i.toInt ∧ i.toInt ≤ 15) ∧ (0 ≤ rt.toInt ∧ rt.toInt ≤ 15) ∧ ((aNm ab (ab 73 i.toNatClampNeg) = -1 ∧ aS 88 S = ab ∧ (-1 : Int32) = -1) ∨ (aNm ab (ab 73 i.toNatClampNeg) = ab 73 i.toNatClampNeg ∧ 0 ≤ (ab 73 i.toNatClampNeg).toInt ∧ aS 88 S = aR0 ab rt (ab 73 i.toNatClampNeg) ∧ (-1 : Int32) = ab 73 i.toNatClampNeg)) from by first | (have we : mI S 73 i.toNatClampNeg = ab 73 i.toNatClampNeg := (aS_I (W := 88) (S := S) (c := 73) (c₉ := 73) (k := i.toNatClampNeg) rfl rfl).symm.trans (congrFun (congrFun hpre1 73) i.toNatClampNeg); have wi := congrArg Int32.toInt we; refine ⟨⟨by omega, by omega⟩, ⟨by omega, by omega⟩, ?_⟩; exact Or.inl ⟨if_neg (fun q => by omega), hpre1, rfl⟩)) (show (mI S 91) = fp91 from by first | (exact hpre2)) (show (mI S 92) = fp92 from by first | (exact hpre3))
          · skip
            have g21 := i_nlt h18
            have li22 : (512 : Int32).toInt = 512 := rfl
            refine zd (fun h23 => ?_) (fun h23 => ?_)
            · skip
              have g24 := i_le h23
              have li25 : (-1 : Int32).toInt = -1 := rfl
              exact K ((-1 : Int32)) _ hI trivial (show xB S (mR S 70) from by first | (exact xB_x (xC_o (W := 75) hpre0).2)) (show (0 ≤ i.toInt ∧ i.toInt ≤ 15) ∧ (0 ≤ rt.toInt ∧ rt.toInt ≤ 15) ∧ ((aNm ab (ab 73 i.toNatClampNeg) = -1 ∧ aS 88 S = ab ∧ (-1 : Int32) = -1) ∨ (aNm ab (ab 73 i.toNatClampNeg) = ab 73 i.toNatClampNeg ∧ 0 ≤ (ab 73 i.toNatClampNeg).toInt ∧ aS 88 S = aR0 ab rt (ab 73 i.toNatClampNeg) ∧ (-1 : Int32) = ab 73 i.toNatClampNeg)) from by first | (have we : mI S 73 i.toNatClampNeg = ab 73 i.toNatClampNeg := (aS_I (W := 88) (S := S) (c := 73) (c₉ := 73) (k := i.toNatClampNeg) rfl rfl).symm.trans (congrFun (congrFun hpre1 73) i.toNatClampNeg); have wi := congrArg Int32.toInt we; refine ⟨⟨by omega, by omega⟩, ⟨by omega, by omega⟩, ?_⟩; exact Or.inl ⟨if_neg (fun q => by omega), hpre1, rfl⟩)) (show (mI S 91) = fp91 from by first | (exact hpre2)) (show (mI S 92) = fp92 from by first | (exact hpre3))
            · skip
              have g26 := i_nle h23
              refine ⟨i_ix (by omega) (by omega), ?_⟩
              refine ⟨fun hc => ?_, fun c1 hc => ?_⟩
              · skip
                have rn_c1 : zTa (mR S 70) (mI S 73 i.toNatClampNeg) = none := (ta_rd (y := (mI S 73 i.toNatClampNeg)) hpre0 (by omega) (by omega)).symm.trans hc
                have li27 : (-1 : Int32).toInt = -1 := rfl
                exact K ((-1 : Int32)) _ hI trivial (show xB S (mR S 70) from by first | (exact xB_x (xC_o (W := 75) hpre0).2)) (show (0 ≤ i.toInt ∧ i.toInt ≤ 15) ∧ (0 ≤ rt.toInt ∧ rt.toInt ≤ 15) ∧ ((aNm ab (ab 73 i.toNatClampNeg) = -1 ∧ aS 88 S = ab ∧ (-1 : Int32) = -1) ∨ (aNm ab (ab 73 i.toNatClampNeg) = ab 73 i.toNatClampNeg ∧ 0 ≤ (ab 73 i.toNatClampNeg).toInt ∧ aS 88 S = aR0 ab rt (ab 73 i.toNatClampNeg) ∧ (-1 : Int32) = ab 73 i.toNatClampNeg)) from by first | (have we : mI S 73 i.toNatClampNeg = ab 73 i.toNatClampNeg := (aS_I (W := 88) (S := S) (c := 73) (c₉ := 73) (k := i.toNatClampNeg) rfl rfl).symm.trans (congrFun (congrFun hpre1 73) i.toNatClampNeg); have wi := congrArg Int32.toInt we; have nn := nm_n (W := 88) hpre0 rn_c1; rw [hpre1, we] at nn; refine ⟨⟨by omega, by omega⟩, ⟨by omega, by omega⟩, ?_⟩; exact Or.inl ⟨nn, hpre1, rfl⟩)) (show (mI S 91) = fp91 from by first | (exact hpre2)) (show (mI S 92) = fp92 from by first | (exact hpre3))
              · skip
                have th_c1 := (fun _ z => zG_70 hI (c := 70) (by decide) z) c1 hc
                have rg_c1 : zTa (mR S 70) (mI S 73 i.toNatClampNeg) = some c1 := (ta_rd (y := (mI S 73 i.toNatClampNeg)) hpre0 (by omega) (by omega)).symm.trans hc
                refine sp_145_64_91_sm (ab := (aS 88 S)) (R := (mR S 70)) (y := ((mI S 73 i.toNatClampNeg))) (fp91 := (mI S 91)) (fp92 := (mI S 92)) (rt) ((some c1)) (by omega) (by omega) (zB_dn_zL91 hI) (fun _ z => by cases z; exact th_c1) (show xB S (mR S 70) from by first | (exact (xC_o (W := 75) hpre0).2)) (show aS 88 S = (aS 88 S) from by first | (exact rfl)) (show (some c1) = zTa (mR S 70) ((mI S 73 i.toNatClampNeg)) from by first | (exact rg_c1.symm)) (by omega) (by omega) (show (mI S 91) = (mI S 91) from by first | (exact rfl)) (show (mI S 92) = (mI S 92) from by first | (exact rfl)) (fun v3 S2 hL_S2 hq_v3 rp0_S2 rp1_S2 rp2_S2 rp3_S2 rp4_S2 => zo_n ⟨zG_T hL_S2, ?_⟩)
                have hI_S2 := zB_up_zL91 hI hL_S2
                have rp0_S2 : xB S2 (mR S 70) := by
                  have z := rp0_S2
                  (try rw [show mI S 65 = f 65 from funext (fun k => zG_z hI rfl)] at z)
                  (try rw [show mI S 64 1 = f 64 1 from zG_z hI rfl] at z)
                  exact z
                have rp1_S2 : aS 88 S2 = aR0 (aS 88 S) rt ((mI S 73 i.toNatClampNeg)) := by
                  have z := rp1_S2
                  (try rw [show mI S 65 = f 65 from funext (fun k => zG_z hI rfl)] at z)
                  (try rw [show mI S 64 1 = f 64 1 from zG_z hI rfl] at z)
                  exact z
                have rp2_S2 : v3 = zTa (mR S 70) ((aS 88 S) 72 rt.toNatClampNeg) := by
                  have z := rp2_S2
                  (try rw [show mI S 65 = f 65 from funext (fun k => zG_z hI rfl)] at z)
                  (try rw [show mI S 64 1 = f 64 1 from zG_z hI rfl] at z)
                  exact z
                have rp3_S2 : (mI S2 91) = (mI S 91) := by
                  have z := rp3_S2
                  (try rw [show mI S 65 = f 65 from funext (fun k => zG_z hI rfl)] at z)
                  (try rw [show mI S 64 1 = f 64 1 from zG_z hI rfl] at z)
                  exact z
                have rp4_S2 : (mI S2 92) = (mI S 92) := by
                  have z := rp4_S2
                  (try rw [show mI S 65 = f 65 from funext (fun k => zG_z hI rfl)] at z)
                  (try rw [show mI S 64 1 = f 64 1 from zG_z hI rfl] at z)
                  exact z
                refine ⟨zG_n hI_S2 th_c1, ?_⟩
                have f28 := zG_th hI_S2 th_c1
                exact K ((mI S2 c1 0)) _ hI_S2 trivial (show xB S2 (mR S2 70) from by first | (exact xB_x (xC_o (W := 75) rp0_S2).2)) (show (0 ≤ i.toInt ∧ i.toInt ≤ 15) ∧ (0 ≤ rt.toInt ∧ rt.toInt ≤ 15) ∧ ((aNm ab (ab 73 i.toNatClampNeg) = -1 ∧ aS 88 S2 = ab ∧ (mI S2 c1 0) = -1) ∨ (aNm ab (ab 73 i.toNatClampNeg) = ab 73 i.toNatClampNeg ∧ 0 ≤ (ab 73 i.toNatClampNeg).toInt ∧ aS 88 S2 = aR0 ab rt (ab 73 i.toNatClampNeg) ∧ (mI S2 c1 0) = ab 73 i.toNatClampNeg)) from by first | (have we : mI S 73 i.toNatClampNeg = ab 73 i.toNatClampNeg := (aS_I (W := 88) (S := S) (c := 73) (c₉ := 73) (k := i.toNatClampNeg) rfl rfl).symm.trans (congrFun (congrFun hpre1 73) i.toNatClampNeg); have wi := congrArg Int32.toInt we; have nn := nm_y (W := 88) hpre0 rg_c1; rw [hpre1, we] at nn; have w0 := (zTa_p rg_c1).1; have st := rp1_S2; rw [hpre1, we] at st; have tn := (xB_th (W := 88) rp0_S2 rg_c1).2.2.1; refine ⟨⟨by omega, by omega⟩, ⟨by omega, by omega⟩, ?_⟩; exact Or.inr ⟨nn, (by omega), st, tn.trans we⟩)) (show (mI S2 91) = fp91 from by first | (exact (rp3_S2.trans hpre2))) (show (mI S2 92) = fp92 from by first | (exact (rp4_S2.trans hpre3)))

/-! from 95.q52 -/
/-! the moving collectors, the class (written by wip/tools/gen15.py) -/
theorem g_161_64_sm_p91_0 {X : Nat × (Nat → Int32)} {d w : Nat} {S : ma_S} {Q : Option ma_V ⊕ Nat → ma_S → Prop} (o : Int32) (wh : Int32) (hd : 7 ≤ d) (hw : 111 ≤ w) (hS : zT S) (h : if wh < 0 then (Q (.inr 2) (ma_bump S)) else (if wh ≤ (7 : Int32) then (mR S 64 11 = some 91 ∧ (mR S 64 11 = some 91 ∧ (ma_wp X (d - 1) (w - 22) 149 0 [(0, .inr (.inr (some 64))), (1, .inl o)] [] S (zo (fun v2 S1 => zT S1 ∧ ((∃ c3, v2 = some c3 ∧ (if wh = (0 : Int32) then ((126 ≤ c3 ∧ c3 < mN S1) ∧ (Q (.inl (some (.inl (mI S1 c3 4)))) S1)) else (if wh = (1 : Int32) then ((126 ≤ c3 ∧ c3 < mN S1) ∧ (Q (.inl (some (.inl (mI S1 c3 2)))) S1)) else (if wh = (2 : Int32) then ((126 ≤ c3 ∧ c3 < mN S1) ∧ (Q (.inl (some (.inl (mI S1 c3 1)))) S1)) else (if wh = (3 : Int32) then ((126 ≤ c3 ∧ c3 < mN S1) ∧ (Q (.inl (some (.inl (mI S1 c3 5)))) S1)) else (if wh = (4 : Int32) then (Q (.inl (some (.inl (0 : Int32)))) S1) else (if wh = (5 : Int32) then (Q (.inl (some (.inl (0 : Int32)))) S1) else (if wh = (6 : Int32) then ((126 ≤ c3 ∧ c3 < mN S1) ∧ (Q (.inl (some (.inl (mI S1 c3 7)))) S1)) else ((126 ≤ c3 ∧ c3 < mN S1) ∧ (if (mI S1 c3 8) = 0 then (Q (.inl (some (.inl (0 : Int32)))) S1) else (Q (.inl (some (.inl (1 : Int32)))) S1))))))))))))) (fun x S9 => Q (.inr x) S9))))) else (Q (.inr 2) (ma_bump S)))) : ma_wp X d w 161 0 [(0, .inr (.inr (some 64))), (1, .inl o), (2, .inl wh)] [] S Q := by
  refine zw_push hm_161 dX11_about_0 (v := .inl wh) rfl ?_
  refine zw_if0 hm_161 dX11_about_1 (t := 10) rfl zc0_lt ?_ ?_
  · intro hc
    rw [if_pos hc] at h
    exact zw_thr hm_161 dX11_about_10 dX11_about_13 dX11_about_14 dX11_about_17 x_11_79_81 n_11_79 (by omega) (by show 0 + 81 ≤ w; omega) h
  · intro hc
    rw [if_neg hc] at h
    refine zw_push hm_161 dX11_about_4 (v := .inl wh) rfl ?_
    refine zw_push hm_161 dX11_about_5 (v := .inl (7 : Int32)) rfl ?_
    refine zw_if2 hm_161 dX11_about_7 (t := 18) rfl zc2_le ?_ ?_
    · intro hc
      rw [if_pos hc] at h
      refine zw_push hm_161 dX11_about_18 (v := .inr (.inr (some 64))) rfl ?_
      refine zw_cv hm_161 dX11_about_19 v_11_119_11 hm_144 [] [] rfl (zT_rt hS s_64 rfl) ⟨by omega, by omega⟩ rfl ?_
      show ma_wp X (d - 1) (w - 20) 144 0 [(0, .inr (.inr (some 64)))] [] S _
      refine zw_push hm_144 dX11_needCollector_0 (v := .inr (.inr (some 64))) rfl ?_
      obtain ⟨hg, h⟩ := h
      refine zw_gf hm_144 dX11_needCollector_1 (v := .inr (.inr (some 91))) (zT_is hS s_64) (zT_t hS s_64) rfl f_11_98_11 (congrArg (fun z => Sum.inr (Sum.inr z)) hg) ?_
      refine zw_ifnonnull hm_144 dX11_needCollector_4 (t := 15) rfl (fun z => by cases z) (fun _ _ => ?_)
      refine zw_push hm_144 dX11_needCollector_15 (v := .inr (.inr (some 64))) rfl ?_
      obtain ⟨hg, h⟩ := h
      refine zw_gf hm_144 dX11_needCollector_16 (v := .inr (.inr (some 91))) (zT_is hS s_64) (zT_t hS s_64) rfl f_11_98_11 (congrArg (fun z => Sum.inr (Sum.inr z)) hg) ?_
      refine zw_aret hm_144 dX11_needCollector_19 ?_
      show ma_wp X d w 161 22 [(0, .inr (.inr (some 64))), (1, .inl o), (2, .inl wh)] [.inr (.inr (some 91))] S _
      refine zw_sto hm_161 dX11_about_22 [(3, .inr (.inr (some 91))), (0, .inr (.inr (some 64))), (1, .inl o), (2, .inl wh)] rfl rfl rfl ?_
      refine zw_push hm_161 dX11_about_23 (v := .inr (.inr (some 64))) rfl ?_
      refine zw_push hm_161 dX11_about_24 (v := .inl o) rfl ?_
      refine zw_cv hm_161 dX11_about_25 v_11_123_11 hm_149 [.inl o] [] rfl (zT_rt hS s_64 rfl) ⟨by omega, by omega⟩ rfl (zw_mono h (zo_go ?_ ?_))
      · intro v2 S1 hv
        obtain ⟨hS1, h⟩ := hv
        obtain ⟨c3, hc, h⟩ := h
        subst hc
        show ma_wp X d w 161 28 [(3, .inr (.inr (some 91))), (0, .inr (.inr (some 64))), (1, .inl o), (2, .inl wh)] [.inr (.inr (some c3))] S1 _
        refine zw_sto hm_161 dX11_about_28 [(4, .inr (.inr (some c3))), (3, .inr (.inr (some 91))), (0, .inr (.inr (some 64))), (1, .inl o), (2, .inl wh)] rfl rfl rfl ?_
        refine zw_push hm_161 dX11_about_30 (v := .inl wh) rfl ?_
        by_cases hc0 : wh = (0 : Int32)
        · rw [if_pos hc0] at h
          refine zw_jmp hm_161 dX11_about_31 (t := 72) (st₉ := []) rfl rfl rfl (ma_jmp_tab (by rw [hc0]; decide +kernel)) ?_
          refine zw_push hm_161 dX11_about_72 (v := .inr (.inr (some c3))) rfl ?_
          obtain ⟨hg, h⟩ := h
          refine zw_gf hm_161 dX11_about_74 (v := .inl (mI S1 c3 4)) (zT_tis hS1 hg) (zT_tt hS1 hg) rfl f_11_214_9 rfl ?_
          exact zw_iret hm_161 dX11_about_77 h
        rw [if_neg hc0] at h
        by_cases hc1 : wh = (1 : Int32)
        · rw [if_pos hc1] at h
          refine zw_jmp hm_161 dX11_about_31 (t := 78) (st₉ := []) rfl rfl rfl (ma_jmp_tab (by rw [hc1]; decide +kernel)) ?_
          refine zw_push hm_161 dX11_about_78 (v := .inr (.inr (some c3))) rfl ?_
          obtain ⟨hg, h⟩ := h
          refine zw_gf hm_161 dX11_about_80 (v := .inl (mI S1 c3 2)) (zT_tis hS1 hg) (zT_tt hS1 hg) rfl f_11_217_9 rfl ?_
          exact zw_iret hm_161 dX11_about_83 h
        rw [if_neg hc1] at h
        by_cases hc2 : wh = (2 : Int32)
        · rw [if_pos hc2] at h
          refine zw_jmp hm_161 dX11_about_31 (t := 84) (st₉ := []) rfl rfl rfl (ma_jmp_tab (by rw [hc2]; decide +kernel)) ?_
          refine zw_push hm_161 dX11_about_84 (v := .inr (.inr (some c3))) rfl ?_
          obtain ⟨hg, h⟩ := h
          refine zw_gf hm_161 dX11_about_86 (v := .inl (mI S1 c3 1)) (zT_tis hS1 hg) (zT_tt hS1 hg) rfl f_11_220_9 rfl ?_
          exact zw_iret hm_161 dX11_about_89 h
        rw [if_neg hc2] at h
        by_cases hc3 : wh = (3 : Int32)
        · rw [if_pos hc3] at h
          refine zw_jmp hm_161 dX11_about_31 (t := 90) (st₉ := []) rfl rfl rfl (ma_jmp_tab (by rw [hc3]; decide +kernel)) ?_
          refine zw_push hm_161 dX11_about_90 (v := .inr (.inr (some c3))) rfl ?_
          obtain ⟨hg, h⟩ := h
          refine zw_gf hm_161 dX11_about_92 (v := .inl (mI S1 c3 5)) (zT_tis hS1 hg) (zT_tt hS1 hg) rfl f_11_223_9 rfl ?_
          exact zw_iret hm_161 dX11_about_95 h
        rw [if_neg hc3] at h
        by_cases hc4 : wh = (4 : Int32)
        · rw [if_pos hc4] at h
          refine zw_jmp hm_161 dX11_about_31 (t := 96) (st₉ := []) rfl rfl rfl (ma_jmp_tab (by rw [hc4]; decide +kernel)) ?_
          refine zw_push hm_161 dX11_about_96 (v := .inr (.inr (some 91))) rfl ?_
          refine zw_push hm_161 dX11_about_97 (v := .inr (.inr (some c3))) rfl ?_
          refine zw_cv hm_161 dX11_about_99 v_11_226_4 hm_270 [.inr (.inr (some c3))] [] rfl (zT_rt hS1 s_91 rfl) ⟨by omega, by omega⟩ rfl ?_
          show ma_wp X (d - 1) (w - 21) 270 0 [(0, .inr (.inr (some 91))), (1, .inr (.inr (some c3)))] [] S1 _
          refine zw_push hm_270 dX1_countOf_0 (v := .inl (0 : Int32)) rfl ?_
          refine zw_iret hm_270 dX1_countOf_1 ?_
          show ma_wp X d w 161 102 [(4, .inr (.inr (some c3))), (3, .inr (.inr (some 91))), (0, .inr (.inr (some 64))), (1, .inl o), (2, .inl wh)] [.inl (0 : Int32)] S1 _
          exact zw_iret hm_161 dX11_about_102 h
        rw [if_neg hc4] at h
        by_cases hc5 : wh = (5 : Int32)
        · rw [if_pos hc5] at h
          refine zw_jmp hm_161 dX11_about_31 (t := 103) (st₉ := []) rfl rfl rfl (ma_jmp_tab (by rw [hc5]; decide +kernel)) ?_
          refine zw_push hm_161 dX11_about_103 (v := .inr (.inr (some 91))) rfl ?_
          refine zw_push hm_161 dX11_about_104 (v := .inr (.inr (some c3))) rfl ?_
          refine zw_cv hm_161 dX11_about_106 v_11_229_4 hm_271 [.inr (.inr (some c3))] [] rfl (zT_rt hS1 s_91 rfl) ⟨by omega, by omega⟩ rfl ?_
          show ma_wp X (d - 1) (w - 21) 271 0 [(0, .inr (.inr (some 91))), (1, .inr (.inr (some c3)))] [] S1 _
          refine zw_push hm_271 dX1_colourOf_0 (v := .inl (0 : Int32)) rfl ?_
          refine zw_iret hm_271 dX1_colourOf_1 ?_
          show ma_wp X d w 161 109 [(4, .inr (.inr (some c3))), (3, .inr (.inr (some 91))), (0, .inr (.inr (some 64))), (1, .inl o), (2, .inl wh)] [.inl (0 : Int32)] S1 _
          exact zw_iret hm_161 dX11_about_109 h
        rw [if_neg hc5] at h
        by_cases hc6 : wh = (6 : Int32)
        · rw [if_pos hc6] at h
          refine zw_jmp hm_161 dX11_about_31 (t := 110) (st₉ := []) rfl rfl rfl (ma_jmp_tab (by rw [hc6]; decide +kernel)) ?_
          refine zw_push hm_161 dX11_about_110 (v := .inr (.inr (some c3))) rfl ?_
          obtain ⟨hg, h⟩ := h
          refine zw_gf hm_161 dX11_about_112 (v := .inl (mI S1 c3 7)) (zT_tis hS1 hg) (zT_tt hS1 hg) rfl f_11_189_9 rfl ?_
          exact zw_iret hm_161 dX11_about_115 h
        rw [if_neg hc6] at h
        refine zw_jmp hm_161 dX11_about_31 (t := 116) (st₉ := []) rfl rfl rfl (ma_jmp_def (m := 7) (by decide) (fun j hj => by
            have hj2 : j = 0 ∨ j = 1 ∨ j = 2 ∨ j = 3 ∨ j = 4 ∨ j = 5 ∨ j = 6 := by omega
            rcases hj2 with rfl | rfl | rfl | rfl | rfl | rfl | rfl
            · exact hc0
            · exact hc1
            · exact hc2
            · exact hc3
            · exact hc4
            · exact hc5
            · exact hc6
            ) rfl) ?_
        refine zw_push hm_161 dX11_about_116 (v := .inr (.inr (some c3))) rfl ?_
        obtain ⟨hg, h⟩ := h
        refine zw_gf hm_161 dX11_about_118 (v := .inl (mI S1 c3 8)) (zT_tis hS1 hg) (zT_tt hS1 hg) rfl f_11_199_9 rfl ?_
        refine zw_if0 hm_161 dX11_about_121 (t := 128) rfl zc0_eq ?_ ?_
        · intro hc
          rw [if_pos hc] at h
          refine zw_push hm_161 dX11_about_128 (v := .inl (0 : Int32)) rfl ?_
          exact zw_iret hm_161 dX11_about_129 h
        · intro hc
          rw [if_neg hc] at h
          refine zw_push hm_161 dX11_about_124 (v := .inl (1 : Int32)) rfl ?_
          refine zw_goto hm_161 dX11_about_125 (t := 129) rfl ?_
          exact zw_iret hm_161 dX11_about_129 h
      · intro x S9 hx
        exact ⟨by decide, hx⟩
    · intro hc
      rw [if_neg hc] at h
      exact zw_thr hm_161 dX11_about_10 dX11_about_13 dX11_about_14 dX11_about_17 x_11_79_81 n_11_79 (by omega) (by show 0 + 81 ≤ w; omega) h
theorem sp_161_64_sm_p91 {X : Nat × (Nat → Int32)} {d w : Nat} {f : Nat → Nat → Int32} {r : Nat → Nat → Option Nat} {C Z N : Nat} {Q : Option ma_V ⊕ Nat → ma_S → Prop} {ab : Nat→Nat→Int32} {fp91 : Nat→Int32} {fp92 : Nat→Int32} {S : ma_S} (o : Int32) (wh : Int32) (hd : 7 ≤ d) (hw : 111 ≤ w) (hI : zB f r C Z N S) (hr : r 64 11 = some 91) (hpre0 : xB S (mR S 70)) (hpre1 : aS 88 S = ab) (hpre2 : (mI S 91) = fp91) (hpre3 : (mI S 92) = fp92) (K : ∀ v S₉, zB f r C Z N S₉ → (True) → (xB S₉ (mR S₉ 70)) → (aS 88 S₉ = ab) → ((mI S₉ 91) = fp91) → ((mI S₉ 92) = fp92) → Q (.inl (some (.inl v))) S₉) (KX : ∀ x S₉, (x = 2 ∨ x = 4) → zB f r C Z N S₉ → (xB S₉ (mR S₉ 70)) → (aS 88 S₉ = ab) → ((mI S₉ 91) = fp91) → ((mI S₉ 92) = fp92) → Q (.inr x) (ma_bump S₉)) : ma_wp X d w 161 0 [(0, .inr (.inr (some 64))), (1, .inl o), (2, .inl wh)] [] S Q := by
  refine g_161_64_sm_p91_0 o wh (by omega) (by omega) (zG_T hI) ?_
  have b1 := i_bd wh
  have li2 : (0 : Int32).toInt = 0 := rfl
  refine zd (fun h3 => ?_) (fun h3 => ?_)
  · skip
    have g4 := i_lt h3
    exact KX 2 _ (by decide) hI (show xB S (mR S 70) from by first | (exact xB_x (xC_o (W := 75) hpre0).2)) (show aS 88 S = ab from by first | (exact (xC_o (W := 88) hpre0).1.trans hpre1)) (show (mI S 91) = fp91 from by first | (exact hpre2)) (show (mI S 92) = fp92 from by first | (exact hpre3))
  · skip
    have g5 := i_nlt h3
    have li6 : (7 : Int32).toInt = 7 := rfl
    refine zd (fun h7 => ?_) (fun h7 => ?_)
    · skip
      have g8 := i_le h7
      refine ⟨((zG_r hI (by decide)).trans hr), ?_⟩
      refine ⟨((zG_r hI (by decide)).trans hr), ?_⟩
      have b9 := i_bd o
      refine sp_149_64_s (R := (mR S 70)) (a7 := (aS 75 S)) (a8 := (aS 88 S)) (o) (by omega) (by omega) (zB_dn_zI hI) (show xB S (mR S 70) from by first | (exact (xC_o (W := 75) hpre0).2)) (show aS 75 S = (aS 75 S) from by first | (exact rfl)) (show aS 88 S = (aS 88 S) from by first | (exact rfl)) (fun v2 S1 hL_S1 hq_v2 rp0_S1 rp1_S1 rp2_S1 rp3_S1 => zo_n ⟨zG_T hL_S1, ?_⟩) (fun x S9 hx h9 rx0 rx1 rx2 => by have h9u := (zB_up_zI hI h9); exact zo_x (KX x S9 (by omega) h9u (show xB S9 (mR S9 70) from by first | (exact xB_x (xC_o (W := 75) rx0).2)) (show aS 88 S9 = ab from by first | (exact rx1.trans hpre1)) (show (mI S9 91) = fp91 from by first | (exact ((show mI _ 91 = mI _ 91 from funext (fun _ => zG_z h9 rfl)).trans hpre2))) (show (mI S9 92) = fp92 from by first | (exact ((show mI _ 92 = mI _ 92 from funext (fun _ => zG_z h9 rfl)).trans hpre3)))))
      have hI_S1 := zB_up_zI hI hL_S1
      have rp0_S1 : xB S1 (mR S 70) := by
        have z := rp0_S1
        (try rw [show mI S 65 = f 65 from funext (fun k => zG_z hI rfl)] at z)
        (try rw [show mI S 64 1 = f 64 1 from zG_z hI rfl] at z)
        exact z
      have rp1_S1 : aS 88 S1 = (aS 88 S) := by
        have z := rp1_S1
        (try rw [show mI S 65 = f 65 from funext (fun k => zG_z hI rfl)] at z)
        (try rw [show mI S 64 1 = f 64 1 from zG_z hI rfl] at z)
        exact z
      have rp2_S1 : v2 = zTa (mR S 70) o := by
        have z := rp2_S1
        (try rw [show mI S 65 = f 65 from funext (fun k => zG_z hI rfl)] at z)
        (try rw [show mI S 64 1 = f 64 1 from zG_z hI rfl] at z)
        exact z
      have rp3_S1 : zRq (aS 75 S) o := by
        have z := rp3_S1
        (try rw [show mI S 65 = f 65 from funext (fun k => zG_z hI rfl)] at z)
        (try rw [show mI S 64 1 = f 64 1 from zG_z hI rfl] at z)
        exact z
      obtain ⟨c3, hc, th_c3⟩ := hq_v2
      have rg_c3 : zTa (mR S 70) o = some c3 := rp2_S1.symm.trans hc
      refine ⟨c3, hc, ?_⟩
      refine zd (fun h10 => ?_) (fun h10 => ?_)
      · skip
        have g11 := i_eq h10
        refine ⟨zG_n hI_S1 th_c3, ?_⟩
        have f12 := zG_th hI_S1 th_c3
        exact K ((mI S1 c3 4)) _ hI_S1 trivial (show xB S1 (mR S1 70) from by first | (exact xB_x (xC_o (W := 75) rp0_S1).2)) (show aS 88 S1 = ab from by first | (exact (xC_o (W := 88) rp0_S1).1.trans (rp1_S1.trans hpre1))) (show (mI S1 91) = fp91 from by first | (exact ((show mI S1 91 = mI S 91 from funext (fun _ => zG_z hL_S1 rfl)).trans hpre2))) (show (mI S1 92) = fp92 from by first | (exact ((show mI S1 92 = mI S 92 from funext (fun _ => zG_z hL_S1 rfl)).trans hpre3)))
      · skip
        have g13 := i_ne h10
        have li14 : (1 : Int32).toInt = 1 := rfl
        refine zd (fun h15 => ?_) (fun h15 => ?_)
        · skip
          have g16 := i_eq h15
          refine ⟨zG_n hI_S1 th_c3, ?_⟩
          have f17 := zG_th hI_S1 th_c3
          exact K ((mI S1 c3 2)) _ hI_S1 trivial (show xB S1 (mR S1 70) from by first | (exact xB_x (xC_o (W := 75) rp0_S1).2)) (show aS 88 S1 = ab from by first | (exact (xC_o (W := 88) rp0_S1).1.trans (rp1_S1.trans hpre1))) (show (mI S1 91) = fp91 from by first | (exact ((show mI S1 91 = mI S 91 from funext (fun _ => zG_z hL_S1 rfl)).trans hpre2))) (show (mI S1 92) = fp92 from by first | (exact ((show mI S1 92 = mI S 92 from funext (fun _ => zG_z hL_S1 rfl)).trans hpre3)))
        · skip
          have g18 := i_ne h15
          have li19 : (2 : Int32).toInt = 2 := rfl
          refine zd (fun h20 => ?_) (fun h20 => ?_)
          · skip
            have g21 := i_eq h20
            refine ⟨zG_n hI_S1 th_c3, ?_⟩
            have b22 := i_bd (mI S1 c3 1)
            exact K ((mI S1 c3 1)) _ hI_S1 trivial (show xB S1 (mR S1 70) from by first | (exact xB_x (xC_o (W := 75) rp0_S1).2)) (show aS 88 S1 = ab from by first | (exact (xC_o (W := 88) rp0_S1).1.trans (rp1_S1.trans hpre1))) (show (mI S1 91) = fp91 from by first | (exact ((show mI S1 91 = mI S 91 from funext (fun _ => zG_z hL_S1 rfl)).trans hpre2))) (show (mI S1 92) = fp92 from by first | (exact ((show mI S1 92 = mI S 92 from funext (fun _ => zG_z hL_S1 rfl)).trans hpre3)))
          · skip
            have g23 := i_ne h20
            have li24 : (3 : Int32).toInt = 3 := rfl
            refine zd (fun h25 => ?_) (fun h25 => ?_)
            · skip
              have g26 := i_eq h25
              refine ⟨zG_n hI_S1 th_c3, ?_⟩
              have b27 := i_bd (mI S1 c3 5)
              exact K ((mI S1 c3 5)) _ hI_S1 trivial (show xB S1 (mR S1 70) from by first | (exact xB_x (xC_o (W := 75) rp0_S1).2)) (show aS 88 S1 = ab from by first | (exact (xC_o (W := 88) rp0_S1).1.trans (rp1_S1.trans hpre1))) (show (mI S1 91) = fp91 from by first | (exact ((show mI S1 91 = mI S 91 from funext (fun _ => zG_z hL_S1 rfl)).trans hpre2))) (show (mI S1 92) = fp92 from by first | (exact ((show mI S1 92 = mI S 92 from funext (fun _ => zG_z hL_S1 rfl)).trans hpre3)))
            · skip
              have g28 := i_ne h25
              have li29 : (4 : Int32).toInt = 4 := rfl
              refine zd (fun h30 => ?_) (fun h30 => ?_)
              · skip
                have g31 := i_eq h30
                exact K ((0 : Int32)) _ hI_S1 trivial (show xB S1 (mR S1 70) from by first | (exact xB_x (xC_o (W := 75) rp0_S1).2)) (show aS 88 S1 = ab from by first | (exact (xC_o (W := 88) rp0_S1).1.trans (rp1_S1.trans hpre1))) (show (mI S1 91) = fp91 from by first | (exact ((show mI S1 91 = mI S 91 from funext (fun _ => zG_z hL_S1 rfl)).trans hpre2))) (show (mI S1 92) = fp92 from by first | (exact ((show mI S1 92 = mI S 92 from funext (fun _ => zG_z hL_S1 rfl)).trans hpre3)))
              · skip
                have g32 := i_ne h30
                have li33 : (5 : Int32).toInt = 5 := rfl
                refine zd (fun h34 => ?_) (fun h34 => ?_)
                · skip
                  have g35 := i_eq h34
                  exact K ((0 : Int32)) _ hI_S1 trivial (show xB S1 (mR S1 70) from by first | (exact xB_x (xC_o (W := 75) rp0_S1).2)) (show aS 88 S1 = ab from by first | (exact (xC_o (W := 88) rp0_S1).1.trans (rp1_S1.trans hpre1))) (show (mI S1 91) = fp91 from by first | (exact ((show mI S1 91 = mI S 91 from funext (fun _ => zG_z hL_S1 rfl)).trans hpre2))) (show (mI S1 92) = fp92 from by first | (exact ((show mI S1 92 = mI S 92 from funext (fun _ => zG_z hL_S1 rfl)).trans hpre3)))
                · skip
                  have g36 := i_ne h34
                  have li37 : (6 : Int32).toInt = 6 := rfl
                  refine zd (fun h38 => ?_) (fun h38 => ?_)
                  · skip
                    have g39 := i_eq h38
                    refine ⟨zG_n hI_S1 th_c3, ?_⟩
                    have b40 := i_bd (mI S1 c3 7)
                    exact K ((mI S1 c3 7)) _ hI_S1 trivial (show xB S1 (mR S1 70) from by first | (exact xB_x (xC_o (W := 75) rp0_S1).2)) (show aS 88 S1 = ab from by first | (exact (xC_o (W := 88) rp0_S1).1.trans (rp1_S1.trans hpre1))) (show (mI S1 91) = fp91 from by first | (exact ((show mI S1 91 = mI S 91 from funext (fun _ => zG_z hL_S1 rfl)).trans hpre2))) (show (mI S1 92) = fp92 from by first | (exact ((show mI S1 92 = mI S 92 from funext (fun _ => zG_z hL_S1 rfl)).trans hpre3)))
                  · skip
                    have g41 := i_ne h38
                    refine ⟨zG_n hI_S1 th_c3, ?_⟩
                    have b42 := i_bd (mI S1 c3 8)
                    refine zd (fun h43 => ?_) (fun h43 => ?_)
                    · skip
                      have g44 := i_eq h43
                      exact K ((0 : Int32)) _ hI_S1 trivial (show xB S1 (mR S1 70) from by first | (exact xB_x (xC_o (W := 75) rp0_S1).2)) (show aS 88 S1 = ab from by first | (exact (xC_o (W := 88) rp0_S1).1.trans (rp1_S1.trans hpre1))) (show (mI S1 91) = fp91 from by first | (exact ((show mI S1 91 = mI S 91 from funext (fun _ => zG_z hL_S1 rfl)).trans hpre2))) (show (mI S1 92) = fp92 from by first | (exact ((show mI S1 92 = mI S 92 from funext (fun _ => zG_z hL_S1 rfl)).trans hpre3)))
                    · skip
                      have g45 := i_ne h43
                      exact K ((1 : Int32)) _ hI_S1 trivial (show xB S1 (mR S1 70) from by first | (exact xB_x (xC_o (W := 75) rp0_S1).2)) (show aS 88 S1 = ab from by first | (exact (xC_o (W := 88) rp0_S1).1.trans (rp1_S1.trans hpre1))) (show (mI S1 91) = fp91 from by first | (exact ((show mI S1 91 = mI S 91 from funext (fun _ => zG_z hL_S1 rfl)).trans hpre2))) (show (mI S1 92) = fp92 from by first | (exact ((show mI S1 92 = mI S 92 from funext (fun _ => zG_z hL_S1 rfl)).trans hpre3)))
    · skip
      have g46 := i_nle h7
      exact KX 2 _ (by decide) hI (show xB S (mR S 70) from by first | (exact xB_x (xC_o (W := 75) hpre0).2)) (show aS 88 S = ab from by first | (exact (xC_o (W := 88) hpre0).1.trans hpre1)) (show (mI S 91) = fp91 from by first | (exact hpre2)) (show (mI S 92) = fp92 from by first | (exact hpre3))

/-! from 95.q53 -/
/-! the moving collectors, the class (written by wip/tools/gen15.py) -/
theorem g_163_64_sm_p91_0 {X : Nat × (Nat → Int32)} {d w : Nat} {S : ma_S} {Q : Option ma_V ⊕ Nat → ma_S → Prop} (wh : Int32) (hd : 7 ≤ d) (hw : 109 ≤ w) (hS : zT S) (h : if wh < 0 then (Q (.inr 2) (ma_bump S)) else (if wh ≤ (13 : Int32) then (if wh = 0 then (Q (.inl (some (.inl (mI S 64 1)))) S) else (if wh = (1 : Int32) then (Q (.inl (some (.inl (mI S 64 7)))) S) else (mR S 64 11 = some 91 ∧ (mR S 64 11 = some 91 ∧ (if wh = (2 : Int32) then (Q (.inl (some (.inl (mI S 69 7)))) S) else (if wh = (3 : Int32) then (Q (.inl (some (.inl (mI S 69 8)))) S) else (if wh = (4 : Int32) then (Q (.inl (some (.inl (mI S 69 6)))) S) else (if wh = (5 : Int32) then (Q (.inl (some (.inl (mI S 69 9)))) S) else (if wh = (6 : Int32) then (Q (.inl (some (.inl (mI S 69 10)))) S) else (if wh = (7 : Int32) then (Q (.inl (some (.inl (mI S 69 11)))) S) else (if wh = (8 : Int32) then (Q (.inl (some (.inl (mI S 69 12)))) S) else (if wh = (9 : Int32) then (Q (.inl (some (.inl (mI S 69 5)))) S) else (if wh = (10 : Int32) then (ma_wp X (d - 1) (w - 22) 42 0 [(0, .inr (.inr (some 91)))] [] S (zi (fun v2 S1 => zT S1 ∧ (Q (.inl (some (.inl v2))) S1)) (fun _ _ => False))) else (if wh = (11 : Int32) then (if (mI S 91 5) < 0 then (Q (.inl (some (.inl (((mI S 91 5) * (mI S 91 2)) + (0 : Int32))))) S) else (if (93 : Int32) ≤ (mI S 91 5) then (Q (.inl (some (.inl (((mI S 91 5) * (mI S 91 2)) + (0 : Int32))))) S) else ((0 ≤ (mI S 91 5) ∧ (mI S 91 5).toNatClampNeg < 93) ∧ (Q (.inl (some (.inl (((mI S 91 5) * (mI S 91 2)) + (mI S 92 (mI S 91 5).toNatClampNeg))))) S)))) else (if wh = (12 : Int32) then (Q (.inl (some (.inl (0 : Int32)))) S) else (ma_wp X (d - 1) (w - 20) 57 0 [(0, .inr (.inr (some 91)))] [] S (zi (fun v4 S3 => zT S3 ∧ (Q (.inl (some (.inl v4))) S3)) (fun _ _ => False)))))))))))))))))) else (Q (.inr 2) (ma_bump S)))) : ma_wp X d w 163 0 [(0, .inr (.inr (some 64))), (1, .inl wh)] [] S Q := by
  refine zw_push hm_163 dX11_count_0 (v := .inl wh) rfl ?_
  refine zw_if0 hm_163 dX11_count_1 (t := 10) rfl zc0_lt ?_ ?_
  · intro hc
    rw [if_pos hc] at h
    exact zw_thr hm_163 dX11_count_10 dX11_count_13 dX11_count_14 dX11_count_17 x_11_79_81 n_11_79 (by omega) (by show 0 + 81 ≤ w; omega) h
  · intro hc
    rw [if_neg hc] at h
    refine zw_push hm_163 dX11_count_4 (v := .inl wh) rfl ?_
    refine zw_push hm_163 dX11_count_5 (v := .inl (13 : Int32)) rfl ?_
    refine zw_if2 hm_163 dX11_count_7 (t := 18) rfl zc2_le ?_ ?_
    · intro hc
      rw [if_pos hc] at h
      refine zw_push hm_163 dX11_count_18 (v := .inl wh) rfl ?_
      refine zw_if0 hm_163 dX11_count_19 (t := 27) rfl zc0_ne ?_ ?_
      · intro hc
        rw [if_neg hc] at h
        refine zw_push hm_163 dX11_count_27 (v := .inl wh) rfl ?_
        refine zw_push hm_163 dX11_count_28 (v := .inl (1 : Int32)) rfl ?_
        refine zw_if2 hm_163 dX11_count_29 (t := 37) rfl zc2_ne ?_ ?_
        · intro hc
          rw [if_neg hc] at h
          refine zw_push hm_163 dX11_count_37 (v := .inr (.inr (some 64))) rfl ?_
          refine zw_cv hm_163 dX11_count_38 v_11_119_11 hm_144 [] [] rfl (zT_rt hS s_64 rfl) ⟨by omega, by omega⟩ rfl ?_
          show ma_wp X (d - 1) (w - 20) 144 0 [(0, .inr (.inr (some 64)))] [] S _
          refine zw_push hm_144 dX11_needCollector_0 (v := .inr (.inr (some 64))) rfl ?_
          obtain ⟨hg, h⟩ := h
          refine zw_gf hm_144 dX11_needCollector_1 (v := .inr (.inr (some 91))) (zT_is hS s_64) (zT_t hS s_64) rfl f_11_98_11 (congrArg (fun z => Sum.inr (Sum.inr z)) hg) ?_
          refine zw_ifnonnull hm_144 dX11_needCollector_4 (t := 15) rfl (fun z => by cases z) (fun _ _ => ?_)
          refine zw_push hm_144 dX11_needCollector_15 (v := .inr (.inr (some 64))) rfl ?_
          obtain ⟨hg, h⟩ := h
          refine zw_gf hm_144 dX11_needCollector_16 (v := .inr (.inr (some 91))) (zT_is hS s_64) (zT_t hS s_64) rfl f_11_98_11 (congrArg (fun z => Sum.inr (Sum.inr z)) hg) ?_
          refine zw_aret hm_144 dX11_needCollector_19 ?_
          show ma_wp X d w 163 41 [(0, .inr (.inr (some 64))), (1, .inl wh)] [.inr (.inr (some 91))] S _
          refine zw_sto hm_163 dX11_count_41 [(2, .inr (.inr (some 91))), (0, .inr (.inr (some 64))), (1, .inl wh)] rfl rfl rfl ?_
          refine zw_push hm_163 dX11_count_42 (v := .inl wh) rfl ?_
          by_cases hc0 : wh = (2 : Int32)
          · rw [if_pos hc0] at h
            refine zw_jmp hm_163 dX11_count_43 (t := 100) (st₉ := []) rfl rfl rfl (ma_jmp_tab (by rw [hc0]; decide +kernel)) ?_
            refine zw_push hm_163 dX11_count_100 (v := .inr (.inr (some 64))) rfl ?_
            refine zw_gf hm_163 dX11_count_101 (v := .inr (.inr (some 69))) (zT_is hS s_64) (zT_t hS s_64) rfl f_11_26_11 (zT_f hS r_64_8) ?_
            refine zw_gf hm_163 dX11_count_104 (v := .inl (mI S 69 7)) (zT_is hS s_69) (zT_t hS s_69) rfl f_11_238_7 rfl ?_
            exact zw_iret hm_163 dX11_count_107 h
          rw [if_neg hc0] at h
          by_cases hc1 : wh = (3 : Int32)
          · rw [if_pos hc1] at h
            refine zw_jmp hm_163 dX11_count_43 (t := 108) (st₉ := []) rfl rfl rfl (ma_jmp_tab (by rw [hc1]; decide +kernel)) ?_
            refine zw_push hm_163 dX11_count_108 (v := .inr (.inr (some 64))) rfl ?_
            refine zw_gf hm_163 dX11_count_109 (v := .inr (.inr (some 69))) (zT_is hS s_64) (zT_t hS s_64) rfl f_11_26_11 (zT_f hS r_64_8) ?_
            refine zw_gf hm_163 dX11_count_112 (v := .inl (mI S 69 8)) (zT_is hS s_69) (zT_t hS s_69) rfl f_11_241_7 rfl ?_
            exact zw_iret hm_163 dX11_count_115 h
          rw [if_neg hc1] at h
          by_cases hc2 : wh = (4 : Int32)
          · rw [if_pos hc2] at h
            refine zw_jmp hm_163 dX11_count_43 (t := 116) (st₉ := []) rfl rfl rfl (ma_jmp_tab (by rw [hc2]; decide +kernel)) ?_
            refine zw_push hm_163 dX11_count_116 (v := .inr (.inr (some 64))) rfl ?_
            refine zw_gf hm_163 dX11_count_117 (v := .inr (.inr (some 69))) (zT_is hS s_64) (zT_t hS s_64) rfl f_11_26_11 (zT_f hS r_64_8) ?_
            refine zw_gf hm_163 dX11_count_120 (v := .inl (mI S 69 6)) (zT_is hS s_69) (zT_t hS s_69) rfl f_11_244_7 rfl ?_
            exact zw_iret hm_163 dX11_count_123 h
          rw [if_neg hc2] at h
          by_cases hc3 : wh = (5 : Int32)
          · rw [if_pos hc3] at h
            refine zw_jmp hm_163 dX11_count_43 (t := 124) (st₉ := []) rfl rfl rfl (ma_jmp_tab (by rw [hc3]; decide +kernel)) ?_
            refine zw_push hm_163 dX11_count_124 (v := .inr (.inr (some 64))) rfl ?_
            refine zw_gf hm_163 dX11_count_125 (v := .inr (.inr (some 69))) (zT_is hS s_64) (zT_t hS s_64) rfl f_11_26_11 (zT_f hS r_64_8) ?_
            refine zw_gf hm_163 dX11_count_128 (v := .inl (mI S 69 9)) (zT_is hS s_69) (zT_t hS s_69) rfl f_11_247_7 rfl ?_
            exact zw_iret hm_163 dX11_count_131 h
          rw [if_neg hc3] at h
          by_cases hc4 : wh = (6 : Int32)
          · rw [if_pos hc4] at h
            refine zw_jmp hm_163 dX11_count_43 (t := 132) (st₉ := []) rfl rfl rfl (ma_jmp_tab (by rw [hc4]; decide +kernel)) ?_
            refine zw_push hm_163 dX11_count_132 (v := .inr (.inr (some 64))) rfl ?_
            refine zw_gf hm_163 dX11_count_133 (v := .inr (.inr (some 69))) (zT_is hS s_64) (zT_t hS s_64) rfl f_11_26_11 (zT_f hS r_64_8) ?_
            refine zw_gf hm_163 dX11_count_136 (v := .inl (mI S 69 10)) (zT_is hS s_69) (zT_t hS s_69) rfl f_11_250_7 rfl ?_
            exact zw_iret hm_163 dX11_count_139 h
          rw [if_neg hc4] at h
          by_cases hc5 : wh = (7 : Int32)
          · rw [if_pos hc5] at h
            refine zw_jmp hm_163 dX11_count_43 (t := 140) (st₉ := []) rfl rfl rfl (ma_jmp_tab (by rw [hc5]; decide +kernel)) ?_
            refine zw_push hm_163 dX11_count_140 (v := .inr (.inr (some 64))) rfl ?_
            refine zw_gf hm_163 dX11_count_141 (v := .inr (.inr (some 69))) (zT_is hS s_64) (zT_t hS s_64) rfl f_11_26_11 (zT_f hS r_64_8) ?_
            refine zw_gf hm_163 dX11_count_144 (v := .inl (mI S 69 11)) (zT_is hS s_69) (zT_t hS s_69) rfl f_11_253_7 rfl ?_
            exact zw_iret hm_163 dX11_count_147 h
          rw [if_neg hc5] at h
          by_cases hc6 : wh = (8 : Int32)
          · rw [if_pos hc6] at h
            refine zw_jmp hm_163 dX11_count_43 (t := 148) (st₉ := []) rfl rfl rfl (ma_jmp_tab (by rw [hc6]; decide +kernel)) ?_
            refine zw_push hm_163 dX11_count_148 (v := .inr (.inr (some 64))) rfl ?_
            refine zw_gf hm_163 dX11_count_149 (v := .inr (.inr (some 69))) (zT_is hS s_64) (zT_t hS s_64) rfl f_11_26_11 (zT_f hS r_64_8) ?_
            refine zw_gf hm_163 dX11_count_152 (v := .inl (mI S 69 12)) (zT_is hS s_69) (zT_t hS s_69) rfl f_11_256_7 rfl ?_
            exact zw_iret hm_163 dX11_count_155 h
          rw [if_neg hc6] at h
          by_cases hc7 : wh = (9 : Int32)
          · rw [if_pos hc7] at h
            refine zw_jmp hm_163 dX11_count_43 (t := 156) (st₉ := []) rfl rfl rfl (ma_jmp_tab (by rw [hc7]; decide +kernel)) ?_
            refine zw_push hm_163 dX11_count_156 (v := .inr (.inr (some 64))) rfl ?_
            refine zw_gf hm_163 dX11_count_157 (v := .inr (.inr (some 69))) (zT_is hS s_64) (zT_t hS s_64) rfl f_11_26_11 (zT_f hS r_64_8) ?_
            refine zw_gf hm_163 dX11_count_160 (v := .inl (mI S 69 5)) (zT_is hS s_69) (zT_t hS s_69) rfl f_11_259_7 rfl ?_
            exact zw_iret hm_163 dX11_count_163 h
          rw [if_neg hc7] at h
          by_cases hc8 : wh = (10 : Int32)
          · rw [if_pos hc8] at h
            refine zw_jmp hm_163 dX11_count_43 (t := 164) (st₉ := []) rfl rfl rfl (ma_jmp_tab (by rw [hc8]; decide +kernel)) ?_
            refine zw_push hm_163 dX11_count_164 (v := .inr (.inr (some 91))) rfl ?_
            refine zw_cv hm_163 dX11_count_165 v_11_262_4 hm_42 [] [] rfl (zT_rt hS s_91 rfl) ⟨by omega, by omega⟩ rfl (zw_mono h (zi_go ?_ ?_))
            · intro v2 S1 hv
              obtain ⟨hS1, h⟩ := hv
              exact zw_iret hm_163 dX11_count_168 h
            · intro x S9 hx
              exact hx.elim
          rw [if_neg hc8] at h
          by_cases hc9 : wh = (11 : Int32)
          · rw [if_pos hc9] at h
            refine zw_jmp hm_163 dX11_count_43 (t := 169) (st₉ := []) rfl rfl rfl (ma_jmp_tab (by rw [hc9]; decide +kernel)) ?_
            refine zw_push hm_163 dX11_count_169 (v := .inr (.inr (some 91))) rfl ?_
            refine zw_cv hm_163 dX11_count_170 v_11_265_4 hm_55 [] [] rfl (zT_rt hS s_91 rfl) ⟨by omega, by omega⟩ rfl ?_
            show ma_wp X (d - 1) (w - 20) 55 0 [(0, .inr (.inr (some 91)))] [] S _
            refine zw_push hm_55 dX4_topPlace_0 (v := .inr (.inr (some 91))) rfl ?_
            refine zw_gf hm_55 dX4_topPlace_1 (v := .inl (mI S 91 5)) (zT_is hS s_91) (zT_t hS s_91) rfl f_4_34_4 rfl ?_
            refine zw_push hm_55 dX4_topPlace_4 (v := .inr (.inr (some 91))) rfl ?_
            refine zw_gf hm_55 dX4_topPlace_5 (v := .inl (mI S 91 2)) (zT_is hS s_91) (zT_t hS s_91) rfl f_4_18_4 rfl ?_
            refine zw_stk hm_55 dX4_topPlace_8 (st₉ := [.inl ((mI S 91 5) * (mI S 91 2))]) rfl rfl ?_
            refine zw_push hm_55 dX4_topPlace_9 (v := .inr (.inr (some 91))) rfl ?_
            refine zw_push hm_55 dX4_topPlace_10 (v := .inr (.inr (some 91))) rfl ?_
            refine zw_gf hm_55 dX4_topPlace_11 (v := .inl (mI S 91 5)) (zT_is hS s_91) (zT_t hS s_91) rfl f_4_34_4 rfl ?_
            refine zw_cv hm_55 dX4_topPlace_14 v_4_93_4 hm_50 [.inl (mI S 91 5)] [.inl ((mI S 91 5) * (mI S 91 2))] rfl (zT_rt hS s_91 rfl) ⟨by omega, by omega⟩ rfl ?_
            show ma_wp X ((d - 1) - 1) ((w - 20) - 21) 50 0 [(0, .inr (.inr (some 91))), (1, .inl (mI S 91 5))] [] S _
            refine zw_push hm_50 dX4_topOf_0 (v := .inl (mI S 91 5)) rfl ?_
            refine zw_if0 hm_50 dX4_topOf_1 (t := 19) rfl zc0_lt ?_ ?_
            · intro hc
              rw [if_pos hc] at h
              refine zw_push hm_50 dX4_topOf_19 (v := .inl (0 : Int32)) rfl ?_
              refine zw_iret hm_50 dX4_topOf_20 ?_
              show ma_wp X (d - 1) (w - 20) 55 17 [(0, .inr (.inr (some 91)))] [.inl (0 : Int32), .inl ((mI S 91 5) * (mI S 91 2))] S _
              refine zw_stk hm_55 dX4_topPlace_17 (st₉ := [.inl (((mI S 91 5) * (mI S 91 2)) + (0 : Int32))]) rfl rfl ?_
              refine zw_iret hm_55 dX4_topPlace_18 ?_
              show ma_wp X d w 163 173 [(2, .inr (.inr (some 91))), (0, .inr (.inr (some 64))), (1, .inl wh)] [.inl (((mI S 91 5) * (mI S 91 2)) + (0 : Int32))] S _
              exact zw_iret hm_163 dX11_count_173 h
            · intro hc
              rw [if_neg hc] at h
              refine zw_push hm_50 dX4_topOf_4 (v := .inl (mI S 91 5)) rfl ?_
              refine zw_push hm_50 dX4_topOf_5 (v := .inl (93 : Int32)) rfl ?_
              refine zw_if2 hm_50 dX4_topOf_7 (t := 19) rfl zc2_ge ?_ ?_
              · intro hc
                rw [if_pos hc] at h
                refine zw_push hm_50 dX4_topOf_19 (v := .inl (0 : Int32)) rfl ?_
                refine zw_iret hm_50 dX4_topOf_20 ?_
                show ma_wp X (d - 1) (w - 20) 55 17 [(0, .inr (.inr (some 91)))] [.inl (0 : Int32), .inl ((mI S 91 5) * (mI S 91 2))] S _
                refine zw_stk hm_55 dX4_topPlace_17 (st₉ := [.inl (((mI S 91 5) * (mI S 91 2)) + (0 : Int32))]) rfl rfl ?_
                refine zw_iret hm_55 dX4_topPlace_18 ?_
                show ma_wp X d w 163 173 [(2, .inr (.inr (some 91))), (0, .inr (.inr (some 64))), (1, .inl wh)] [.inl (((mI S 91 5) * (mI S 91 2)) + (0 : Int32))] S _
                exact zw_iret hm_163 dX11_count_173 h
              · intro hc
                rw [if_neg hc] at h
                refine zw_push hm_50 dX4_topOf_10 (v := .inr (.inr (some 91))) rfl ?_
                refine zw_gf hm_50 dX4_topOf_11 (v := .inr (.inr (some 92))) (zT_is hS s_91) (zT_t hS s_91) rfl f_4_9_4 (zT_f hS r_91_7) ?_
                refine zw_push hm_50 dX4_topOf_14 (v := .inl (mI S 91 5)) rfl ?_
                obtain ⟨hg, h⟩ := h
                refine zw_ia hm_50 dX4_topOf_15 (zT_is hS s_92) (zT_h hS s_92) rfl hg ?_
                show ma_wp X ((d - 1) - 1) ((w - 20) - 21) 50 16 [(0, .inr (.inr (some 91))), (1, .inl (mI S 91 5))] [.inl (mI S 92 (mI S 91 5).toNatClampNeg)] S _
                refine zw_goto hm_50 dX4_topOf_16 (t := 20) rfl ?_
                refine zw_iret hm_50 dX4_topOf_20 ?_
                show ma_wp X (d - 1) (w - 20) 55 17 [(0, .inr (.inr (some 91)))] [.inl (mI S 92 (mI S 91 5).toNatClampNeg), .inl ((mI S 91 5) * (mI S 91 2))] S _
                refine zw_stk hm_55 dX4_topPlace_17 (st₉ := [.inl (((mI S 91 5) * (mI S 91 2)) + (mI S 92 (mI S 91 5).toNatClampNeg))]) rfl rfl ?_
                refine zw_iret hm_55 dX4_topPlace_18 ?_
                show ma_wp X d w 163 173 [(2, .inr (.inr (some 91))), (0, .inr (.inr (some 64))), (1, .inl wh)] [.inl (((mI S 91 5) * (mI S 91 2)) + (mI S 92 (mI S 91 5).toNatClampNeg))] S _
                exact zw_iret hm_163 dX11_count_173 h
          rw [if_neg hc9] at h
          by_cases hc10 : wh = (12 : Int32)
          · rw [if_pos hc10] at h
            refine zw_jmp hm_163 dX11_count_43 (t := 174) (st₉ := []) rfl rfl rfl (ma_jmp_tab (by rw [hc10]; decide +kernel)) ?_
            refine zw_push hm_163 dX11_count_174 (v := .inr (.inr (some 91))) rfl ?_
            refine zw_cv hm_163 dX11_count_175 v_11_268_4 hm_274 [] [] rfl (zT_rt hS s_91 rfl) ⟨by omega, by omega⟩ rfl ?_
            show ma_wp X (d - 1) (w - 20) 274 0 [(0, .inr (.inr (some 91)))] [] S _
            refine zw_push hm_274 dX1_isMarking_0 (v := .inl (0 : Int32)) rfl ?_
            refine zw_bret hm_274 dX1_isMarking_1 (by decide) ?_
            show ma_wp X d w 163 178 [(2, .inr (.inr (some 91))), (0, .inr (.inr (some 64))), (1, .inl wh)] [.inl (0 : Int32)] S _
            refine zw_if0 hm_163 dX11_count_178 (t := 185) rfl zc0_eq (fun _ => ?_) (fun hc => absurd (by decide) hc)
            refine zw_push hm_163 dX11_count_185 (v := .inl (0 : Int32)) rfl ?_
            exact zw_iret hm_163 dX11_count_186 h
          rw [if_neg hc10] at h
          refine zw_jmp hm_163 dX11_count_43 (t := 187) (st₉ := []) rfl rfl rfl (ma_jmp_def (m := 11) (by decide) (fun j hj => by
              have hj2 : j = 0 ∨ j = 1 ∨ j = 2 ∨ j = 3 ∨ j = 4 ∨ j = 5 ∨ j = 6 ∨ j = 7 ∨ j = 8 ∨ j = 9 ∨ j = 10 := by omega
              rcases hj2 with rfl | rfl | rfl | rfl | rfl | rfl | rfl | rfl | rfl | rfl | rfl
              · exact hc0
              · exact hc1
              · exact hc2
              · exact hc3
              · exact hc4
              · exact hc5
              · exact hc6
              · exact hc7
              · exact hc8
              · exact hc9
              · exact hc10
              ) rfl) ?_
          refine zw_push hm_163 dX11_count_187 (v := .inr (.inr (some 91))) rfl ?_
          refine zw_cv hm_163 dX11_count_188 v_11_272_4 hm_57 [] [] rfl (zT_rt hS s_91 rfl) ⟨by omega, by omega⟩ rfl (zw_mono h (zi_go ?_ ?_))
          · intro v4 S3 hv
            obtain ⟨hS3, h⟩ := hv
            exact zw_iret hm_163 dX11_count_191 h
          · intro x S9 hx
            exact hx.elim
        · intro hc
          rw [if_pos (Classical.not_not.mp hc)] at h
          refine zw_push hm_163 dX11_count_32 (v := .inr (.inr (some 64))) rfl ?_
          refine zw_gf hm_163 dX11_count_33 (v := .inl (mI S 64 7)) (zT_is hS s_64) (zT_t hS s_64) rfl f_11_82_11 rfl ?_
          exact zw_iret hm_163 dX11_count_36 h
      · intro hc
        rw [if_pos (Classical.not_not.mp hc)] at h
        refine zw_push hm_163 dX11_count_22 (v := .inr (.inr (some 64))) rfl ?_
        refine zw_gf hm_163 dX11_count_23 (v := .inl (mI S 64 1)) (zT_is hS s_64) (zT_t hS s_64) rfl f_11_68_11 rfl ?_
        exact zw_iret hm_163 dX11_count_26 h
    · intro hc
      rw [if_neg hc] at h
      exact zw_thr hm_163 dX11_count_10 dX11_count_13 dX11_count_14 dX11_count_17 x_11_79_81 n_11_79 (by omega) (by show 0 + 81 ≤ w; omega) h
theorem sp_163_64_sm_p91 {X : Nat × (Nat → Int32)} {d w : Nat} {f : Nat → Nat → Int32} {r : Nat → Nat → Option Nat} {C Z N : Nat} {Q : Option ma_V ⊕ Nat → ma_S → Prop} {ab : Nat→Nat→Int32} {fp91 : Nat→Int32} {fp92 : Nat→Int32} {S : ma_S} (wh : Int32) (hd : 7 ≤ d) (hw : 109 ≤ w) (hI : zB f r C Z N S) (hr : r 64 11 = some 91) (hpre0 : xB S (mR S 70)) (hpre1 : aS 88 S = ab) (hpre2 : (mI S 91) = fp91) (hpre3 : (mI S 92) = fp92) (K : ∀ v S₉, zB f r C Z N S₉ → (True) → (xB S₉ (mR S₉ 70)) → (aS 88 S₉ = ab) → ((mI S₉ 91) = fp91) → ((mI S₉ 92) = fp92) → Q (.inl (some (.inl v))) S₉) (KX : ∀ x S₉, (x = 2) → zB f r C Z N S₉ → (xB S₉ (mR S₉ 70)) → (aS 88 S₉ = ab) → ((mI S₉ 91) = fp91) → ((mI S₉ 92) = fp92) → Q (.inr x) (ma_bump S₉)) : ma_wp X d w 163 0 [(0, .inr (.inr (some 64))), (1, .inl wh)] [] S Q := by
  refine g_163_64_sm_p91_0 wh (by omega) (by omega) (zG_T hI) ?_
  have b1 := i_bd wh
  have li2 : (0 : Int32).toInt = 0 := rfl
  refine zd (fun h3 => ?_) (fun h3 => ?_)
  · skip
    have g4 := i_lt h3
    exact KX 2 _ (by decide) hI (show xB S (mR S 70) from by first | (exact xB_x (xC_o (W := 75) hpre0).2)) (show aS 88 S = ab from by first | (exact (xC_o (W := 88) hpre0).1.trans hpre1)) (show (mI S 91) = fp91 from by first | (exact hpre2)) (show (mI S 92) = fp92 from by first | (exact hpre3))
  · skip
    have g5 := i_nlt h3
    have li6 : (13 : Int32).toInt = 13 := rfl
    refine zd (fun h7 => ?_) (fun h7 => ?_)
    · skip
      have g8 := i_le h7
      refine zd (fun h9 => ?_) (fun h9 => ?_)
      · skip
        have g10 := i_eq h9
        have f11 := zG_s hI (0) (100) (c := 64) (k := 1) (by decide)
        exact K ((mI S 64 1)) _ hI trivial (show xB S (mR S 70) from by first | (exact xB_x (xC_o (W := 75) hpre0).2)) (show aS 88 S = ab from by first | (exact (xC_o (W := 88) hpre0).1.trans hpre1)) (show (mI S 91) = fp91 from by first | (exact hpre2)) (show (mI S 92) = fp92 from by first | (exact hpre3))
      · skip
        have g12 := i_ne h9
        have li13 : (1 : Int32).toInt = 1 := rfl
        refine zd (fun h14 => ?_) (fun h14 => ?_)
        · skip
          have g15 := i_eq h14
          have f16 := zG_s hI (0) (16) (c := 64) (k := 7) (by decide)
          exact K ((mI S 64 7)) _ hI trivial (show xB S (mR S 70) from by first | (exact xB_x (xC_o (W := 75) hpre0).2)) (show aS 88 S = ab from by first | (exact (xC_o (W := 88) hpre0).1.trans hpre1)) (show (mI S 91) = fp91 from by first | (exact hpre2)) (show (mI S 92) = fp92 from by first | (exact hpre3))
        · skip
          have g17 := i_ne h14
          refine ⟨((zG_r hI (by decide)).trans hr), ?_⟩
          refine ⟨((zG_r hI (by decide)).trans hr), ?_⟩
          have li18 : (2 : Int32).toInt = 2 := rfl
          refine zd (fun h19 => ?_) (fun h19 => ?_)
          · skip
            have g20 := i_eq h19
            have b21 := i_bd (mI S 69 7)
            exact K ((mI S 69 7)) _ hI trivial (show xB S (mR S 70) from by first | (exact xB_x (xC_o (W := 75) hpre0).2)) (show aS 88 S = ab from by first | (exact (xC_o (W := 88) hpre0).1.trans hpre1)) (show (mI S 91) = fp91 from by first | (exact hpre2)) (show (mI S 92) = fp92 from by first | (exact hpre3))
          · skip
            have g22 := i_ne h19
            have li23 : (3 : Int32).toInt = 3 := rfl
            refine zd (fun h24 => ?_) (fun h24 => ?_)
            · skip
              have g25 := i_eq h24
              have b26 := i_bd (mI S 69 8)
              exact K ((mI S 69 8)) _ hI trivial (show xB S (mR S 70) from by first | (exact xB_x (xC_o (W := 75) hpre0).2)) (show aS 88 S = ab from by first | (exact (xC_o (W := 88) hpre0).1.trans hpre1)) (show (mI S 91) = fp91 from by first | (exact hpre2)) (show (mI S 92) = fp92 from by first | (exact hpre3))
            · skip
              have g27 := i_ne h24
              have li28 : (4 : Int32).toInt = 4 := rfl
              refine zd (fun h29 => ?_) (fun h29 => ?_)
              · skip
                have g30 := i_eq h29
                have f31 := zG_s hI (0) (512) (c := 69) (k := 6) (by decide)
                exact K ((mI S 69 6)) _ hI trivial (show xB S (mR S 70) from by first | (exact xB_x (xC_o (W := 75) hpre0).2)) (show aS 88 S = ab from by first | (exact (xC_o (W := 88) hpre0).1.trans hpre1)) (show (mI S 91) = fp91 from by first | (exact hpre2)) (show (mI S 92) = fp92 from by first | (exact hpre3))
              · skip
                have g32 := i_ne h29
                have li33 : (5 : Int32).toInt = 5 := rfl
                refine zd (fun h34 => ?_) (fun h34 => ?_)
                · skip
                  have g35 := i_eq h34
                  have b36 := i_bd (mI S 69 9)
                  exact K ((mI S 69 9)) _ hI trivial (show xB S (mR S 70) from by first | (exact xB_x (xC_o (W := 75) hpre0).2)) (show aS 88 S = ab from by first | (exact (xC_o (W := 88) hpre0).1.trans hpre1)) (show (mI S 91) = fp91 from by first | (exact hpre2)) (show (mI S 92) = fp92 from by first | (exact hpre3))
                · skip
                  have g37 := i_ne h34
                  have li38 : (6 : Int32).toInt = 6 := rfl
                  refine zd (fun h39 => ?_) (fun h39 => ?_)
                  · skip
                    have g40 := i_eq h39
                    have b41 := i_bd (mI S 69 10)
                    exact K ((mI S 69 10)) _ hI trivial (show xB S (mR S 70) from by first | (exact xB_x (xC_o (W := 75) hpre0).2)) (show aS 88 S = ab from by first | (exact (xC_o (W := 88) hpre0).1.trans hpre1)) (show (mI S 91) = fp91 from by first | (exact hpre2)) (show (mI S 92) = fp92 from by first | (exact hpre3))
                  · skip
                    have g42 := i_ne h39
                    have li43 : (7 : Int32).toInt = 7 := rfl
                    refine zd (fun h44 => ?_) (fun h44 => ?_)
                    · skip
                      have g45 := i_eq h44
                      have b46 := i_bd (mI S 69 11)
                      exact K ((mI S 69 11)) _ hI trivial (show xB S (mR S 70) from by first | (exact xB_x (xC_o (W := 75) hpre0).2)) (show aS 88 S = ab from by first | (exact (xC_o (W := 88) hpre0).1.trans hpre1)) (show (mI S 91) = fp91 from by first | (exact hpre2)) (show (mI S 92) = fp92 from by first | (exact hpre3))
                    · skip
                      have g47 := i_ne h44
                      have li48 : (8 : Int32).toInt = 8 := rfl
                      refine zd (fun h49 => ?_) (fun h49 => ?_)
                      · skip
                        have g50 := i_eq h49
                        have b51 := i_bd (mI S 69 12)
                        exact K ((mI S 69 12)) _ hI trivial (show xB S (mR S 70) from by first | (exact xB_x (xC_o (W := 75) hpre0).2)) (show aS 88 S = ab from by first | (exact (xC_o (W := 88) hpre0).1.trans hpre1)) (show (mI S 91) = fp91 from by first | (exact hpre2)) (show (mI S 92) = fp92 from by first | (exact hpre3))
                      · skip
                        have g52 := i_ne h49
                        have li53 : (9 : Int32).toInt = 9 := rfl
                        refine zd (fun h54 => ?_) (fun h54 => ?_)
                        · skip
                          have g55 := i_eq h54
                          have f56 := zG_s hI (0) (512) (c := 69) (k := 5) (by decide)
                          exact K ((mI S 69 5)) _ hI trivial (show xB S (mR S 70) from by first | (exact xB_x (xC_o (W := 75) hpre0).2)) (show aS 88 S = ab from by first | (exact (xC_o (W := 88) hpre0).1.trans hpre1)) (show (mI S 91) = fp91 from by first | (exact hpre2)) (show (mI S 92) = fp92 from by first | (exact hpre3))
                        · skip
                          have g57 := i_ne h54
                          have li58 : (10 : Int32).toInt = 10 := rfl
                          refine zd (fun h59 => ?_) (fun h59 => ?_)
                          · skip
                            have g60 := i_eq h59
                            refine sp_42_91_s  (by omega) (by omega) (zB_dn_zL91 hI)  (fun v2 S1 eS_S1 hp_v2 => zi_n ⟨(by rw [eS_S1]; exact zG_T hI), ?_⟩)
                            replace eS_S1 := eS_S1.symm; subst eS_S1
                            have b61 := i_bd v2
                            exact K (v2) _ hI trivial (show xB S (mR S 70) from by first | (exact xB_x (xC_o (W := 75) hpre0).2)) (show aS 88 S = ab from by first | (exact (xC_o (W := 88) hpre0).1.trans hpre1)) (show (mI S 91) = fp91 from by first | (exact hpre2)) (show (mI S 92) = fp92 from by first | (exact hpre3))
                          · skip
                            have g62 := i_ne h59
                            have li63 : (11 : Int32).toInt = 11 := rfl
                            refine zd (fun h64 => ?_) (fun h64 => ?_)
                            · skip
                              have g65 := i_eq h64
                              have f66 := zG_s hI (0) (92) (c := 91) (k := 5) (by decide)
                              refine zd (fun h67 => ?_) (fun h67 => ?_)
                              · skip
                                have g68 := i_lt h67
                                have f69 := zG_s hI (0) (1500) (c := 91) (k := 2) (by decide)
                                first | have f70 := i_muln (x := (mI S 91 5)) (y := (mI S 91 2)) (by omega) (by omega) (by omega) (by omega) | have b71 := i_bd ((mI S 91 5) * (mI S 91 2))
                                first | have e72 : (((mI S 91 5) * (mI S 91 2)) + (0 : Int32)).toInt = ((mI S 91 5) * (mI S 91 2)).toInt + (0) := i_addk rfl (by omega) (by omega) | have b73 := i_bd (((mI S 91 5) * (mI S 91 2)) + (0 : Int32))
                                exact K ((((mI S 91 5) * (mI S 91 2)) + (0 : Int32))) _ hI trivial (show xB S (mR S 70) from by first | (exact xB_x (xC_o (W := 75) hpre0).2)) (show aS 88 S = ab from by first | (exact (xC_o (W := 88) hpre0).1.trans hpre1)) (show (mI S 91) = fp91 from by first | (exact hpre2)) (show (mI S 92) = fp92 from by first | (exact hpre3))
                              · skip
                                have g74 := i_nlt h67
                                have li75 : (93 : Int32).toInt = 93 := rfl
                                refine zd (fun h76 => ?_) (fun h76 => ?_)
                                · skip
                                  have g77 := i_le h76
                                  have f78 := zG_s hI (0) (1500) (c := 91) (k := 2) (by decide)
                                  first | have f79 := i_muln (x := (mI S 91 5)) (y := (mI S 91 2)) (by omega) (by omega) (by omega) (by omega) | have b80 := i_bd ((mI S 91 5) * (mI S 91 2))
                                  first | have e81 : (((mI S 91 5) * (mI S 91 2)) + (0 : Int32)).toInt = ((mI S 91 5) * (mI S 91 2)).toInt + (0) := i_addk rfl (by omega) (by omega) | have b82 := i_bd (((mI S 91 5) * (mI S 91 2)) + (0 : Int32))
                                  exact K ((((mI S 91 5) * (mI S 91 2)) + (0 : Int32))) _ hI trivial (show xB S (mR S 70) from by first | (exact xB_x (xC_o (W := 75) hpre0).2)) (show aS 88 S = ab from by first | (exact (xC_o (W := 88) hpre0).1.trans hpre1)) (show (mI S 91) = fp91 from by first | (exact hpre2)) (show (mI S 92) = fp92 from by first | (exact hpre3))
                                · skip
                                  have g83 := i_nle h76
                                  refine ⟨i_ix (by omega) (by omega), ?_⟩
                                  have f84 := zG_s hI (0) (1500) (c := 91) (k := 2) (by decide)
                                  first | have f85 := i_muln (x := (mI S 91 5)) (y := (mI S 91 2)) (by omega) (by omega) (by omega) (by omega) | have b86 := i_bd ((mI S 91 5) * (mI S 91 2))
                                  first | have f87 := zG_a hI 93 (0) (3000) (c := 92) (k := (mI S 91 5).toNatClampNeg) (by decide) (i_ix (n := 93) (by omega) (by omega)).2 | have b88 := i_bd (mI S 92 (mI S 91 5).toNatClampNeg)
                                  first | have e89 : (((mI S 91 5) * (mI S 91 2)) + (mI S 92 (mI S 91 5).toNatClampNeg)).toInt = ((mI S 91 5) * (mI S 91 2)).toInt + (mI S 92 (mI S 91 5).toNatClampNeg).toInt := i_add (by omega) (by omega) | have b90 := i_bd (((mI S 91 5) * (mI S 91 2)) + (mI S 92 (mI S 91 5).toNatClampNeg))
                                  exact K ((((mI S 91 5) * (mI S 91 2)) + (mI S 92 (mI S 91 5).toNatClampNeg))) _ hI trivial (show xB S (mR S 70) from by first | (exact xB_x (xC_o (W := 75) hpre0).2)) (show aS 88 S = ab from by first | (exact (xC_o (W := 88) hpre0).1.trans hpre1)) (show (mI S 91) = fp91 from by first | (exact hpre2)) (show (mI S 92) = fp92 from by first | (exact hpre3))
                            · skip
                              have g91 := i_ne h64
                              have li92 : (12 : Int32).toInt = 12 := rfl
                              refine zd (fun h93 => ?_) (fun h93 => ?_)
                              · skip
                                have g94 := i_eq h93
                                exact K ((0 : Int32)) _ hI trivial (show xB S (mR S 70) from by first | (exact xB_x (xC_o (W := 75) hpre0).2)) (show aS 88 S = ab from by first | (exact (xC_o (W := 88) hpre0).1.trans hpre1)) (show (mI S 91) = fp91 from by first | (exact hpre2)) (show (mI S 92) = fp92 from by first | (exact hpre3))
                              · skip
                                have g95 := i_ne h93
                                refine sp_57_91_s  (by omega) (by omega) (zB_dn_zL91 hI)  (fun v4 S3 eS_S3 hp_v4 => zi_n ⟨(by rw [eS_S3]; exact zG_T hI), ?_⟩)
                                replace eS_S3 := eS_S3.symm; subst eS_S3
                                have b96 := i_bd v4
                                exact K (v4) _ hI trivial (show xB S (mR S 70) from by first | (exact xB_x (xC_o (W := 75) hpre0).2)) (show aS 88 S = ab from by first | (exact (xC_o (W := 88) hpre0).1.trans hpre1)) (show (mI S 91) = fp91 from by first | (exact hpre2)) (show (mI S 92) = fp92 from by first | (exact hpre3))
    · skip
      have g97 := i_nle h7
      exact KX 2 _ (by decide) hI (show xB S (mR S 70) from by first | (exact xB_x (xC_o (W := 75) hpre0).2)) (show aS 88 S = ab from by first | (exact (xC_o (W := 88) hpre0).1.trans hpre1)) (show (mI S 91) = fp91 from by first | (exact hpre2)) (show (mI S 92) = fp92 from by first | (exact hpre3))

/-! from 95.r00 -/
/-! the reference where it moves (written by wip/tools/gen15r.py) -/
/-! SLIDE: the reference -/
def qSl (us nr kr kd ws at₉ ho wd wi ow rt wk wl : Nat → Int32) (wm nu ro fo le ra pi : Int32) (aa : Nat → Nat → Int32) (lim p e : Int) : Prop := ∃ b, qRB us nr kr kd ws at₉ ho wd wi ow rt wk wl wm nu ro fo le ra pi b ∧ qJs b p e ∧ zSd b lim p e = zSd aa lim 0 0
def lFt (a : Nat → Nat → Int32) (z v : Int32) : Nat → Nat → Int32 := if v.toInt < 0 then lRs a z.toInt else ma_u (lRs a z.toInt) 87 2 (v + z)
section F5
variable {a b d aa : Nat → Nat → Int32} {us nr kr kd ws at₉ at2 ho wd wi ow ow2 rt wk wl : Nat → Int32} {wm nu ro fo le ra pi to s x x2 y y2 v z w pl kk i : Int32} {lim p e : Int} {n k : Nat} {L : Int64}
theorem RB_mv2 (hR : qRB us nr kr kd ws at₉ ho wd wi ow rt wk wl wm nu ro fo le ra pi a) (hI : qI a) (hs : s.toNatClampNeg < 3100) (hs0 : 0 ≤ s.toInt) (hu : us s.toNatClampNeg ≠ 0) (h0 : 0 ≤ to.toInt) (h1 : to.toInt + (a 128 (nr s.toNatClampNeg).toNatClampNeg).toInt ≤ (a 87 0).toInt) (F : qFr a (nr s.toNatClampNeg).toNatClampNeg to) (hm : zmov s to at₉ ow at2 ow2) : qRB us nr kr kd ws at2 ho wd wi ow2 rt wk wl wm nu ro fo le ra pi (aMo a (nr s.toNatClampNeg).toNatClampNeg to) := by
  rcases hm with ⟨e1, e2, e3⟩ | ⟨e1, e2, e3⟩
  · have q := (hR.1.1 _ hs hu).2.2.2.1
    have e4 : to = a 130 (nr s.toNatClampNeg).toNatClampNeg := by
      rw [q]
      exact Int32.toInt_inj.mp e3.symm
    rw [e4, Mo_id, e1, e2]
    exact hR
  · refine RB_mo hR hI hs hu h0 h1 F e1 (e2.trans (ofN_tn hs0).symm) (fun p h1 h2 => ?_)
    rcases e3 p h1 with w | w
    · exact w
    · refine absurd ?_ h2
      have := tn_cast (x := at₉ s.toNatClampNeg) (by omega)
      omega
theorem Sl_0 (hR : qRB us nr kr kd ws at₉ ho wd wi ow rt wk wl wm nu ro fo le ra pi aa) (hI : qI aa) : qSl us nr kr kd ws at₉ ho wd wi ow rt wk wl wm nu ro fo le ra pi aa lim 0 0 := ⟨aa, hR, Js_0 hI, rfl⟩
theorem Sl_p (h : qSl us nr kr kd ws at₉ ho wd wi ow rt wk wl wm nu ro fo le ra pi aa lim p e) : 0 ≤ e ∧ e ≤ p := by
  obtain ⟨b, _, hJ, _⟩ := h
  exact ⟨hJ.2.1.1, hJ.2.1.2.1⟩
theorem Sl_fr (h : qSl us nr kr kd ws at₉ ho wd wi ow rt wk wl wm nu ro fo le ra pi aa lim x.toInt e) (h0 : 0 ≤ x.toInt) (hl : x.toInt < lim) (h5 : lim ≤ 4500) (hn : (ow x.toNatClampNeg).toInt < 0) (hx : x2.toInt = x.toInt + 1) : qSl us nr kr kd ws at₉ ho wd wi ow rt wk wl wm nu ro fo le ra pi aa lim x2.toInt e := by
  obtain ⟨b, hR, hJ, hT⟩ := h
  have o := OB_n hJ.1 hR.1 hR.2.2.2.2.2.2.1 hJ.2.2.1 h0 (by omega) hn
  rw [hx]
  exact ⟨b, hR, Js_fr hJ o (by omega), (Sd_fr (S1_I hJ.1) hl o).symm.trans hT⟩
theorem Sl_ob (hR : qRB us nr kr kd ws at₉ ho wd wi ow rt wk wl wm nu ro fo le ra pi b) (hI : qI b) (hO : zOw us at₉ ow) (h0 : 0 ≤ x.toInt) (h5 : x.toInt < 4500) (hs : s = ow x.toNatClampNeg) (hs0 : 0 ≤ s.toInt) (hs3 : s.toInt ≤ 3099) : zOb b x.toInt = nr s.toNatClampNeg ∧ (b 128 (nr s.toNatClampNeg).toNatClampNeg).toInt = (ws s.toNatClampNeg).toInt + 1 ∧ 0 ≤ (zOb b x.toInt).toInt ∧ us s.toNatClampNeg ≠ 0 ∧ (at₉ s.toNatClampNeg).toInt = x.toInt ∧ b 133 (nr s.toNatClampNeg).toNatClampNeg = ho s.toNatClampNeg := by
  have hs₉ : ow x.toInt.toNat = s := hs.symm
  have o := OB_y hI hR.1 hO h0 h5 (by rw [hs₉]; exact hs0) (by rw [hs₉]; omega)
  rw [hs₉] at o
  have c := tn_cast h0
  have q := hO x.toNatClampNeg (by omega) (by rw [← hs]; exact hs0)
  rw [← hs] at q
  have r := hR.1.1 _ (tn_lt hs0 (by omega)) q.1
  refine ⟨o.1, ?_, o.2.2, q.1, by omega, r.2.2.2.2.1⟩
  rw [← o.1, o.2.1]
  exact i_addk rfl (by have := r.2.2.2.2.2.1; omega) (by have := r.2.2.2.2.2.1; omega)
theorem Sl_mv (h : qSl us nr kr kd ws at₉ ho wd wi ow rt wk wl wm nu ro fo 0 ra pi aa lim x.toInt y.toInt) (hO : zOw us at₉ ow) (h0 : 0 ≤ x.toInt) (hl : x.toInt < lim) (h5 : lim ≤ 4500) (hs : s = ow x.toNatClampNeg) (hs0 : 0 ≤ s.toInt) (hs3 : s.toInt ≤ 3099) (hh : ho s.toNatClampNeg = 0) (hm : zmov s y at₉ ow at2 ow2) (hx : x2.toInt = x.toInt + ((ws s.toNatClampNeg).toInt + 1)) (hy : y2.toInt = y.toInt + ((ws s.toNatClampNeg).toInt + 1)) : qSl us nr kr kd ws at2 ho wd wi ow2 rt wk wl wm nu ro fo 0 ra pi aa lim x2.toInt y2.toInt := by
  obtain ⟨b, hR, hJ, hT⟩ := h
  have o := Sl_ob hR hJ.1 hO h0 (by omega) hs hs0 hs3
  have f := Js_fq hJ o.2.2.1 (to := y) rfl
  have z := Sd_mv (e := y.toInt) (lim := lim) (S1_I hJ.1) hl o.2.2.1 (by rw [o.1, o.2.2.2.2.2]; exact hh)
  have j := Js_mv hJ o.2.2.1 (to := y) rfl (by rw [hR.2.2.2.2.2.2.2.2.2.2.1]; rfl)
  rw [o.1] at f j z
  rw [o.2.1] at j z
  rw [Int32.ofInt_toInt] at z
  rw [hx, hy]
  exact ⟨_, RB_mv2 hR hJ.1 (tn_lt hs0 (by omega)) hs0 o.2.2.2.1 hJ.2.1.1 f.2.2 f.1 hm, j, z.symm.trans hT⟩
theorem Sl_ho (h : qSl us nr kr kd ws at₉ ho wd wi ow rt wk wl wm nu ro fo le ra pi aa lim x.toInt e) (hO : zOw us at₉ ow) (h0 : 0 ≤ x.toInt) (hl : x.toInt < lim) (h5 : lim ≤ 4500) (hs : s = ow x.toNatClampNeg) (hs0 : 0 ≤ s.toInt) (hs3 : s.toInt ≤ 3099) (hh : ho s.toNatClampNeg ≠ 0) (hx : x2.toInt = x.toInt + ((ws s.toNatClampNeg).toInt + 1)) (hy : y2.toInt = (at₉ s.toNatClampNeg).toInt + ((ws s.toNatClampNeg).toInt + 1)) : qSl us nr kr kd ws at₉ ho wd wi ow rt wk wl wm nu ro fo le ra pi aa lim x2.toInt y2.toInt := by
  obtain ⟨b, hR, hJ, hT⟩ := h
  have o := Sl_ob hR hJ.1 hO h0 (by omega) hs hs0 hs3
  have z := Sd_ho (e := e) (lim := lim) (S1_I hJ.1) hl o.2.2.1 (by rw [o.1, o.2.2.2.2.2]; exact hh)
  have j := Js_ho hJ o.2.2.1
  rw [o.1, o.2.1] at j z
  rw [hx, hy, o.2.2.2.2.1]
  exact ⟨b, hR, j, z.symm.trans hT⟩
theorem Sl_end (h : qSl us nr kr kd ws at₉ ho wd wi ow rt wk wl wm nu ro fo le ra pi aa lim p e) (hl : ¬ p < lim) : qRB us nr kr kd ws at₉ ho wd wi ow rt wk wl wm nu ro fo le ra pi (zSd aa lim 0 0).1 ∧ qEq e (zSd aa lim 0 0).2 ∧ ∃ p, lim ≤ p ∧ qJs (zSd aa lim 0 0).1 p e := by
  obtain ⟨b, hR, hJ, hT⟩ := h
  rw [← hT, Sd_n hl]
  exact ⟨hR, rfl, p, by omega, hJ⟩
theorem RB_872 (h : qRB us nr kr kd ws at₉ ho wd wi ow rt wk wl wm nu ro fo le ra pi a) : qRB us nr kr kd ws at₉ ho wd wi ow rt wk wl wm nu ro fo x ra pi (ma_u a 87 2 x) := by
  have e : ∀ c, c ≠ 87 → ma_u a 87 2 x c = a c := fun c hc => ma_u_ne _ _ _ hc
  have e2 : ∀ k, k ≠ 2 → ma_u a 87 2 x 87 k = a 87 k := fun k hk => xu_o (fun z => hk z.2)
  have rf : ∀ n i, aRef (ma_u a 87 2 x) n i = aRef a n i := fun n i => rf_cg (e _ (by omega)) (e _ (by decide)) (e _ (by decide))
  obtain ⟨h1, h2, h3, h4, h5, h6, h7, h8⟩ := h
  refine ⟨?_, fun s hs hu i hi => ?_, ?_, ?_, ?_, ?_, h7, ?_⟩
  · unfold qR1 at h1 ⊢
    rw [e 126 (by decide), e 128 (by decide), e 130 (by decide), e 133 (by decide)]
    exact h1
  · rw [rf, e (1000 + (nr s).toNatClampNeg) (by omega)]
    exact h2 s hs hu i hi
  · unfold qR3 at h3 ⊢
    rw [e 72 (by decide)]
    exact h3
  · unfold qR3 at h4 ⊢
    rw [e 73 (by decide)]
    exact h4
  · unfold qR5 at h5 ⊢
    rw [e 69 (by decide), e 74 (by decide)]
    exact h5
  · unfold qR6 at h6 ⊢
    rw [e 134 (by decide)]
    exact h6
  · unfold qR8 at h8 ⊢
    rw [e 69 (by decide), e2 0 (by decide), e2 1 (by decide), e2 6 (by decide), e2 7 (by decide), xu_s]
    exact ⟨h8.1, h8.2.1, h8.2.2.1, rfl, h8.2.2.2.2⟩
/-- behind a sliding -/
theorem Cl_J (h : ∃ p, (b 87 0).toInt ≤ p ∧ qJs b p x.toInt) : qI (ma_u b 87 2 x) ∧ qTp (ma_u b 87 2 x) := by
  obtain ⟨p, hp, hJ⟩ := h
  have en : ∀ n, xAl b n → (b 130 n).toInt + (b 128 n).toInt ≤ x.toInt := fun n hn => by
    have q := hJ.1.1 n hn
    exact hJ.2.2.2 n hn (by omega)
  refine ⟨I_872 hJ.1 hJ.2.1.1 hJ.2.1.2.2 (fun n hn z => by have := en n hn; omega), fun n hn => ?_⟩
  have e : ∀ c, c ≠ 87 → ma_u b 87 2 x c = b c := fun c hc => ma_u_ne _ _ _ hc
  unfold xAl at hn
  rw [e 126 (by decide)] at hn
  rw [e 130 (by decide), e 128 (by decide), xu_s]
  exact en n hn
theorem lCl_e (h0 : aSw a 87 0 = ro) (hv : qEq v.toInt (zSd (ma_u (aSw a) 87 2 0) ro.toInt 0 0).2) : lCl a = ma_u (zSd (ma_u (aSw a) 87 2 0) ro.toInt 0 0).1 87 2 v := by
  unfold lCl lSd
  rw [h0, ← qE hv, Int32.ofInt_toInt]
theorem lFt_n (h : v.toInt < 0) : lFt a z v = lRs a z.toInt := if_pos h
theorem lFt_y (h : 0 ≤ v.toInt) : lFt a z v = ma_u (lRs a z.toInt) 87 2 (v + z) := if_neg (by omega)
theorem Ft_I (hI : qI (lRs a z.toInt)) (hT : qTp (lRs a z.toInt)) (h : qEq v.toInt (lRp a z.toInt)) (h0 : 0 ≤ v.toInt) (hz : 1 ≤ z.toInt) (hz6 : z.toInt ≤ 61) : qI (ma_u (lRs a z.toInt) 87 2 (v + z)) ∧ (lRs a z.toInt 87 2).toInt = v.toInt ∧ v.toInt + z.toInt ≤ (lRs a z.toInt 87 0).toInt := by
  have q := qE h
  unfold lRp at q
  generalize lRs a z.toInt = B at *
  have i4 := hI.2.2.2.1.2.2.1
  have i5 := hI.2.2.2.1.2.2.2.1
  by_cases w : (B 87 0).toInt < (B 87 2).toInt + z.toInt
  · rw [if_pos w] at q
    omega
  · rw [if_neg w] at q
    have e : (v + z).toInt = v.toInt + z.toInt := i_add (by omega) (by omega)
    refine ⟨I_872 hI (by omega) (by omega) (fun n hn w2 => ?_), q.symm, by omega⟩
    have := hT n hn
    omega
theorem Ft_87 (h : k ≠ 2) : lFt a z v 87 k = a 87 k := by
  unfold lFt
  split
  · exact Rs_87 h
  · rw [xu_o (fun w => h w.2)]
    exact Rs_87 h
theorem Ne_l (hI : qI (lFt aa (w + 1) pl)) (hT : qTp (lRs aa (w + 1).toInt)) (hI2 : qI (lRs aa (w + 1).toInt)) (hR : qEq pl.toInt (lRp aa (w + 1).toInt)) (h0 : 0 ≤ pl.toInt) (hw : 0 ≤ w.toInt) (hw6 : w.toInt ≤ 60) (hy : lFt aa (w + 1) pl 69 6 = y) (hy5 : y.toInt < 512) : qNe (lFt aa (w + 1) pl) y w pl := by
  have e1 := i_p1 (i := w) (by omega)
  have f := Ft_I hI2 hT hR h0 (by omega) (by omega)
  refine ⟨hI, hy.symm, hy5, ⟨hw, hw6⟩, ?_⟩
  rw [lFt_y h0]
  have e : ∀ c, c ≠ 87 → ma_u (lRs aa (w + 1).toInt) 87 2 (pl + (w + 1)) c = lRs aa (w + 1).toInt c := fun c hc => ma_u_ne _ _ _ hc
  refine ⟨h0, ?_, fun x hx => ?_⟩
  · rw [xu_o (by decide)]
    omega
  · unfold xAl at hx
    rw [e 126 (by decide)] at hx
    rw [e 130 (by decide), e 128 (by decide)]
    have t := hT x hx
    exact Or.inl (by omega)
theorem Ad_872 {c : Nat → Nat → Int32} {F : Nat → Int32} (h : c 87 8 = 0) : aMd (aAd (ma_u c 87 2 x) y F L) y = aMd (aAd c y F L) y := by
  have e : aAd (ma_u c 87 2 x) y F L = ma_u (aAd c y F L) 87 2 x := by
    have h69 : ∀ k, ma_u c 87 2 x 69 k = c 69 k := fun k => xu_o (by omega)
    funext c₉ k₉
    by_cases w : c₉ = 87
    · rw [w, ad_87]
      show (if (87 : Nat) = 87 ∧ k₉ = 2 then x else c 87 k₉) = (if (87 : Nat) = 87 ∧ k₉ = 2 then x else aAd c y F L 87 k₉)
      rw [ad_87]
    · rw [xu_o (fun z => w z.1)]
      exact o7_ad (a := ma_u c 87 2 x) (b := c) (fun c2 k2 h2 => xu_o (fun z => h2 z.1)) c₉ k₉ w
  have g : aAd c y F L 87 8 = 0 := ad_87.trans h
  rw [e, aMd_n (by rw [xu_o (by decide)]; exact g), aMd_n g]
  funext c₉ k₉
  show (if c₉ = 87 ∧ k₉ = 2 then ma_u (aAd c y F L) 87 2 x 130 _ + ma_u (aAd c y F L) 87 2 x 128 _ else (if c₉ = 87 ∧ k₉ = 2 then x else aAd c y F L c₉ k₉)) = (if c₉ = 87 ∧ k₉ = 2 then _ else aAd c y F L c₉ k₉)
  rw [xu_o (by omega), xu_o (by omega)]
  split
  · rfl
  · rfl
theorem lMk_2b {kd wd rt : Int32} (h : (a 69 6).toInt < 512) (h1 : pl.toInt = lRp a (wd + 1).toInt) (h2 : 0 ≤ pl.toInt) (hy : y = lFt a (wd + 1) pl 69 6) (h8 : lFt a (wd + 1) pl 87 8 = 0) : lMk a kd wd L rt = aRt (aMd (aAd (lFt a (wd + 1) pl) y (zFn y kd (wd + 1) pl) L) y) rt y ∧ lMn a wd = y := by
  rw [lFt_y h2] at hy h8 ⊢
  rw [xu_o (by decide)] at h8 hy
  rw [Ad_872 h8]
  exact lMk_2 h rfl h1 (by omega) hy
/-! the top, behind what a call makes -/
theorem Tp_cg (h : qTp a) (e1 : b 126 = a 126) (e2 : b 128 = a 128) (e3 : b 130 = a 130) (e4 : b 87 2 = a 87 2) : qTp b := fun n hn => by
  unfold xAl at hn
  rw [e1] at hn
  rw [e2, e3, e4]
  exact h n hn
theorem Tp_ad (h : qNe b y w pl) (hA : qAd b d y kk w pl L) (hT : ∀ n, xAl b n → (b 130 n).toInt + (b 128 n).toInt ≤ pl.toInt) (h2 : (d 87 2).toInt = pl.toInt + w.toInt + 1) : qTp d := fun n hn => by
  have q := Ne_b h
  rcases (Al_ad h hA).mp hn with z | z
  · have o := ne_al h z
    rw [hA.2.1 130 n (by decide) (by decide) o, hA.2.1 128 n (by decide) (by decide) o]
    have := hT n z
    have := q.2.2.2.1
    have := h.2.2.2.1
    omega
  · rw [z, hA.1.2.2.1, hA.1.2.1, q.2.2.2.2.2.1]
    omega
theorem rt_r {c : Nat} (h1 : c ≠ 72) (h2 : c ≠ 75) (h3 : c ≠ 76) (h4 : c ≠ 77) : aRt d i y c = d c := funext (fun k => by
  unfold aRt
  rw [← NC_of c k h2 h3 h4, xu_o (fun z => h1 z.1)])
theorem Tp_rt (h : qTp d) : qTp (aRt d i y) := Tp_cg h (rt_r (by decide) (by decide) (by decide) (by decide)) (rt_r (by decide) (by decide) (by decide) (by decide)) (rt_r (by decide) (by decide) (by decide) (by decide)) (congrFun (rt_r (by decide) (by decide) (by decide) (by decide)) 2)
theorem Tp_new (h : qNe (lFt aa (w + 1) pl) y w pl) (hA : qAd (lFt aa (w + 1) pl) d y kk w pl L) (hT : qTp (lRs aa (w + 1).toInt)) (hI2 : qI (lRs aa (w + 1).toInt)) (hR : qEq pl.toInt (lRp aa (w + 1).toInt)) (h0 : 0 ≤ pl.toInt) : qTp (aRt d i x) := by
  have q := Ne_b h
  have f := Ft_I hI2 hT hR h0 (by have := h.2.2.2.1; omega) (by have := h.2.2.2.1; omega)
  refine Tp_rt (Tp_ad h hA (fun n hn => ?_) (by rw [hA.2.2.2.2.2.2.2]; exact q.2.2.2.2.2.2))
  rw [lFt_y h0] at hn ⊢
  have e : ∀ c, c ≠ 87 → ma_u (lRs aa (w + 1).toInt) 87 2 (pl + (w + 1)) c = lRs aa (w + 1).toInt c := fun c hc => ma_u_ne _ _ _ hc
  unfold xAl at hn
  rw [e 126 (by decide)] at hn
  rw [e 130 (by decide), e 128 (by decide)]
  have := hT n hn
  omega
end F5
theorem lp_191rm_29 {X : Nat × (Nat → Int32)} {P : Option ma_V → (Nat → Nat → Int32) → Prop} {aa : Nat→Nat→Int32} {ro : Int32} {fo : Int32} {le : Int32} {ra : Int32} {pi : Int32} {QQ : Nat→Prop} {DD : Nat→Prop} {m0 : Nat → Nat → Int32} (h0 : zV m0) (K : ∀ m₉, zF wr_191 m0 m₉ → zV m₉ → ((m₉ 94 73).toInt = 0) → (zle (m0 110) (m₉ 110)) → (qKA (m₉ 110) (m₉ 99) (m₉ 100) (m₉ 98) (m₉ 101) (m₉ 102) (m₉ 108) (m₉ 118) (m₉ 94 73) QQ DD 3100 0) → P none m₉) {n0 : Nat} (OUT0 : ∀ (m₉ : Nat → Nat → Int32) , ((zMu (m₉ 110) (m₉ 94 73) : Int)).toNat < n0 → zF wr_191 m0 m₉ → zV m₉ → (zKS (m₉ 110) (m₉ 94 73)) → (zW (m₉ 94 7) (m₉ 98) (m₉ 101) (m₉ 102) (m₉ 108)) → (qRB (m₉ 99) (m₉ 100) (m₉ 98) (m₉ 101) (m₉ 102) (m₉ 103) (m₉ 107) (m₉ 108) (m₉ 109) (m₉ 111) (m₉ 112) (m₉ 113) (m₉ 114) (m₉ 94 55) (m₉ 94 46) ro fo le ra pi aa) → (qQC (m₉ 99) (m₉ 100) (m₉ 98) (m₉ 101) (m₉ 102) (m₉ 108) QQ DD) → (zle (m0 110) (m₉ 110)) → (qKA (m₉ 110) (m₉ 99) (m₉ 100) (m₉ 98) (m₉ 101) (m₉ 102) (m₉ 108) (m₉ 118) (m₉ 94 73) QQ DD 3100 0) → zm X 2 44 191 0 [(0, .inr (.inr (some 94)))] m₉ P) : ∀ (n : Nat) (m : Nat → Nat → Int32) (l1 : Int32) (l2 : Int32), (61 - l2.toInt).toNat = n → zF wr_191 m0 m → zV m → (0 ≤ l1.toInt) → (l1.toInt ≤ 3099) → (0 ≤ l2.toInt) → (zKS (m 110) (m 94 73)) → (zW (m 94 7) (m 98) (m 101) (m 102) (m 108)) → (qRB (m 99) (m 100) (m 98) (m 101) (m 102) (m 103) (m 107) (m 108) (m 109) (m 111) (m 112) (m 113) (m 114) (m 94 55) (m 94 46) ro fo le ra pi aa) → (qQC (m 99) (m 100) (m 98) (m 101) (m 102) (m 108) QQ DD) → (zle (m0 110) (m 110)) → (qKA (m 110) (m 99) (m 100) (m 98) (m 101) (m 102) (m 108) (m 118) (m 94 73) QQ DD l1.toNatClampNeg l2.toNatClampNeg) → (zMu (m 110) (m 94 73) < n0) → zm X 2 44 191 29 [(0, .inr (.inr (some 94))), (1, .inl l1), (2, .inl l2)] m P := by
  intro n
  induction n using Nat.strongRecOn with
  | _ n IH =>
    intro m l1 l2 hmu hF hV hi0 hi1 hi2 r_KS r_W r_RB r_QC r_KM r_KA r_MU
    refine g_191_29 l1 l2 ?_
    have b1 := i_bd l1
    have hg2 : (0 ≤ l1 ∧ l1.toNatClampNeg < 3100) := i_ix (by omega) (by omega)
    refine ⟨hg2, ?_⟩
    first | have f3 : 0 ≤ (m 102 l1.toNatClampNeg).toInt ∧ (m 102 l1.toNatClampNeg).toInt ≤ 60 := ra_102 (m := m) hV (k := l1.toNatClampNeg) (i_ix (n := 3100) (by omega) (by omega)).2 | have b4 := i_bd (m 102 l1.toNatClampNeg)
    have b5 := i_bd l2
    refine zd (fun (h6 : (m 102 l1.toNatClampNeg) ≤ l2) => ?_) (fun (h6 : ¬ (m 102 l1.toNatClampNeg) ≤ l2) => ?_)
    · skip
      have g7 := i_le h6
      exact OUT0 _  (show ((zMu (m 110) (m 94 73) : Int)).toNat < n0 from by omega) hF hV r_KS r_W r_RB r_QC r_KM (show qKA (m 110) (m 99) (m 100) (m 98) (m 101) (m 102) (m 108) (m 118) (m 94 73) QQ DD 3100 0 from by first | (exact KA_done r_KA (by rw [tn_cast (x := l2) (by omega)]; omega)) | (exfalso; omega; done) | (exfalso; contradiction; done))
    · skip
      have g8 := i_nle h6
      refine sp_192 (l1) (l2) hV (by omega) (by omega) (by omega) (show l2.toInt < (m 102 l1.toNatClampNeg).toInt from by omega) (fun v2 m1 hV_m1 p0_m1 => zmi_n ?_)
      have p0_m1 : v2 = zrf (m 98) (m 101) (m 108) l1.toNatClampNeg l2.toNatClampNeg := p0_m1
      try have := W_ref r_W (by omega) (by omega) (by omega) (by omega) p0_m1
      have b9 := i_bd v2
      have li10 : (0 : Int32).toInt = 0 := rfl
      refine zd (fun (h11 : v2 < (0 : Int32)) => ?_) (fun (h11 : ¬ v2 < (0 : Int32)) => ?_)
      · skip
        have g12 := i_lt h11
        first | have e13 : (l2 + (1 : Int32)).toInt = l2.toInt + (1) := i_addk rfl (by omega) (by omega) | have b14 := i_bd (l2 + (1 : Int32))
        exact IH (61 - (l2 + (1 : Int32)).toInt).toNat (by omega) _ (l1) ((l2 + (1 : Int32))) rfl (zF_zov hF ws_192_191) hV_m1 (by omega) (by omega) (by omega) r_KS r_W r_RB r_QC r_KM (show qKA (m 110) (m 99) (m 100) (m 98) (m 101) (m 102) (m 108) (m 118) (m 94 73) QQ DD l1.toNatClampNeg (l2 + (1 : Int32)).toNatClampNeg from by first | (exact KA_adv r_KA (Or.inl (by rw [← p0_m1]; omega)) (tn_succ (by omega) (by omega))) | (exact KA_adv r_KA (Or.inr (by rw [← p0_m1]; assumption)) (tn_succ (by omega) (by omega))) | (exfalso; omega; done) | (exfalso; contradiction; done)) r_MU
      · skip
        have g15 := i_nlt h11
        have hg16 : (0 ≤ v2 ∧ v2.toNatClampNeg < 3100) := i_ix (by omega) (by omega)
        refine ⟨hg16, ?_⟩
        first | have f17 : 0 ≤ (m 110 v2.toNatClampNeg).toInt ∧ (m 110 v2.toNatClampNeg).toInt ≤ 1 := ra_110 (m := m) hV (k := v2.toNatClampNeg) (i_ix (n := 3100) (by omega) (by omega)).2 | have b18 := i_bd (m 110 v2.toNatClampNeg)
        refine zd (fun (h19 : (m 110 v2.toNatClampNeg) = (0 : Int32)) => ?_) (fun (h19 : ¬ (m 110 v2.toNatClampNeg) = (0 : Int32)) => ?_)
        · skip
          have g20 := i_eq h19
          have hg21 : (0 ≤ v2 ∧ v2.toNatClampNeg < 3100) := i_ix (by omega) (by omega)
          refine ⟨hg21, ?_⟩
          have f22 : 0 ≤ (m 94 73).toInt ∧ (m 94 73).toInt ≤ 3100 := rs_94_73 (m := m) hV
          try have gk := KS_room r_KS (by assumption) (by omega)
          have hg23 : (0 ≤ (m 94 73) ∧ (m 94 73).toNatClampNeg < 3100) := i_ix (by omega) (by omega)
          refine ⟨hg23, ?_⟩
          have li25 : (1 : Int32).toInt = 1 := rfl
          have hV24 : zV (ma_u (zov wr_192 m m1) 110 v2.toNatClampNeg (1 : Int32)) := ua_110 hV_m1 (by omega) (by omega)
          have hV26 : zV (ma_u (ma_u (zov wr_192 m m1) 110 v2.toNatClampNeg (1 : Int32)) 118 (m 94 73).toNatClampNeg v2) := ua_118 hV24 (by omega) (by omega)
          first | have e28 : ((m 94 73) + (1 : Int32)).toInt = (m 94 73).toInt + (1) := i_addk rfl (by omega) (by omega) | have b29 := i_bd ((m 94 73) + (1 : Int32))
          have hV27 : zV (ma_u (ma_u (ma_u (zov wr_192 m m1) 110 v2.toNatClampNeg (1 : Int32)) 118 (m 94 73).toNatClampNeg v2) 94 73 ((m 94 73) + (1 : Int32))) := us_94_73 hV26 (by omega) (by omega)
          first | have e30 : (l2 + (1 : Int32)).toInt = l2.toInt + (1) := i_addk rfl (by omega) (by omega) | have b31 := i_bd (l2 + (1 : Int32))
          exact IH (61 - (l2 + (1 : Int32)).toInt).toNat (by omega) _ (l1) ((l2 + (1 : Int32))) rfl (zF_u (zF_u (zF_u (zF_zov hF ws_192_191) rfl) rfl) rfl) hV27 (by omega) (by omega) (by omega) (show zKS ((ma_u m 110 v2.toNatClampNeg (1 : Int32)) 110) ((m 94 73) + (1 : Int32)) from by first | (exact KS_push r_KS (by assumption) (by omega) (by decide) (by assumption)) | (exact KS_push (KS_0 (r := m 110) (y := m 94 73) (by omega)) (by assumption) (by omega) (by decide) (by assumption)) | (exfalso; omega; done) | (exfalso; contradiction; done)) r_W r_RB r_QC (show zle (m0 110) ((ma_u m 110 v2.toNatClampNeg (1 : Int32)) 110) from by first | (exact zle_push r_KM (by decide)) | (exact zle_rfl) | (exfalso; omega; done) | (exfalso; contradiction; done)) (show qKA ((ma_u m 110 v2.toNatClampNeg (1 : Int32)) 110) (m 99) (m 100) (m 98) (m 101) (m 102) (m 108) ((ma_u m 118 (m 94 73).toNatClampNeg v2) 118) ((m 94 73) + (1 : Int32)) QQ DD l1.toNatClampNeg (l2 + (1 : Int32)).toNatClampNeg from by first | (exact KA_adv (KA_push r_KA (by omega) (by omega) (KA_ref r_KA r_QC r_RB.2.1 (by omega) (by rw [tn_cast (x := l2) (by omega)]; omega) p0_m1 (by omega)).1 (KA_ref r_KA r_QC r_RB.2.1 (by omega) (by rw [tn_cast (x := l2) (by omega)]; omega) p0_m1 (by omega)).2 (by assumption) (by omega) (by omega) (by decide)) (Or.inr (by rw [← p0_m1, mu_self]; decide)) (tn_succ (by omega) (by omega))) | (exfalso; omega; done) | (exfalso; contradiction; done)) (show zMu ((ma_u m 110 v2.toNatClampNeg (1 : Int32)) 110) ((m 94 73) + (1 : Int32)) < n0 from by first | (have zq := Mu_push (m := m) (c := 110) (z := m 94 73) (y := (m 94 73) + (1 : Int32)) (x := 1) (by omega) (by assumption) (by omega) (by decide) (by assumption); omega; done) | (exfalso; omega; done) | (exfalso; contradiction; done))
        · skip
          have g32 := i_ne h19
          first | have e33 : (l2 + (1 : Int32)).toInt = l2.toInt + (1) := i_addk rfl (by omega) (by omega) | have b34 := i_bd (l2 + (1 : Int32))
          exact IH (61 - (l2 + (1 : Int32)).toInt).toNat (by omega) _ (l1) ((l2 + (1 : Int32))) rfl (zF_zov hF ws_192_191) hV_m1 (by omega) (by omega) (by omega) r_KS r_W r_RB r_QC r_KM (show qKA (m 110) (m 99) (m 100) (m 98) (m 101) (m 102) (m 108) (m 118) (m 94 73) QQ DD l1.toNatClampNeg (l2 + (1 : Int32)).toNatClampNeg from by first | (exact KA_adv r_KA (Or.inl (by rw [← p0_m1]; omega)) (tn_succ (by omega) (by omega))) | (exact KA_adv r_KA (Or.inr (by rw [← p0_m1]; assumption)) (tn_succ (by omega) (by omega))) | (exfalso; omega; done) | (exfalso; contradiction; done)) r_MU
theorem lp_191rm_0 {X : Nat × (Nat → Int32)} {P : Option ma_V → (Nat → Nat → Int32) → Prop} {aa : Nat→Nat→Int32} {ro : Int32} {fo : Int32} {le : Int32} {ra : Int32} {pi : Int32} {QQ : Nat→Prop} {DD : Nat→Prop} {m0 : Nat → Nat → Int32} (h0 : zV m0) (K : ∀ m₉, zF wr_191 m0 m₉ → zV m₉ → ((m₉ 94 73).toInt = 0) → (zle (m0 110) (m₉ 110)) → (qKA (m₉ 110) (m₉ 99) (m₉ 100) (m₉ 98) (m₉ 101) (m₉ 102) (m₉ 108) (m₉ 118) (m₉ 94 73) QQ DD 3100 0) → P none m₉) : ∀ (n : Nat) (m : Nat → Nat → Int32) , ((zMu (m 110) (m 94 73) : Int)).toNat = n → zF wr_191 m0 m → zV m → (zKS (m 110) (m 94 73)) → (zW (m 94 7) (m 98) (m 101) (m 102) (m 108)) → (qRB (m 99) (m 100) (m 98) (m 101) (m 102) (m 103) (m 107) (m 108) (m 109) (m 111) (m 112) (m 113) (m 114) (m 94 55) (m 94 46) ro fo le ra pi aa) → (qQC (m 99) (m 100) (m 98) (m 101) (m 102) (m 108) QQ DD) → (zle (m0 110) (m 110)) → (qKA (m 110) (m 99) (m 100) (m 98) (m 101) (m 102) (m 108) (m 118) (m 94 73) QQ DD 3100 0) → zm X 2 44 191 0 [(0, .inr (.inr (some 94)))] m P := by
  intro n
  induction n using Nat.strongRecOn with
  | _ n IH =>
    intro m  hmu hF hV r_KS r_W r_RB r_QC r_KM r_KA
    refine g_191_0  ?_
    have f1 : 0 ≤ (m 94 73).toInt ∧ (m 94 73).toInt ≤ 3100 := rs_94_73 (m := m) hV
    have li2 : (0 : Int32).toInt = 0 := rfl
    refine zd (fun (h3 : (m 94 73) ≤ (0 : Int32)) => ?_) (fun (h3 : ¬ (m 94 73) ≤ (0 : Int32)) => ?_)
    · skip
      have g4 := i_le h3
      exact K _ hF hV (show (m 94 73).toInt = 0 from by omega) r_KM r_KA
    · skip
      have g5 := i_nle h3
      first | have e6 : ((m 94 73) - (1 : Int32)).toInt = (m 94 73).toInt - (1) := i_subk rfl (by omega) (by omega) | have b7 := i_bd ((m 94 73) - (1 : Int32))
      try have gk := KS_room r_KS (by assumption) (by omega)
      have hg8 : (0 ≤ ((m 94 73) - (1 : Int32)) ∧ ((m 94 73) - (1 : Int32)).toNatClampNeg < 3100) := i_ix (by omega) (by omega)
      refine ⟨hg8, ?_⟩
      have hV9 : zV (ma_u m 94 73 ((m 94 73) - (1 : Int32))) := us_94_73 hV (by omega) (by omega)
      first | have f10 : 0 ≤ (m 118 ((m 94 73) - (1 : Int32)).toNatClampNeg).toInt ∧ (m 118 ((m 94 73) - (1 : Int32)).toNatClampNeg).toInt ≤ 3099 := ra_118 (m := m) hV (k := ((m 94 73) - (1 : Int32)).toNatClampNeg) (i_ix (n := 3100) (by omega) (by omega)).2 | have b11 := i_bd (m 118 ((m 94 73) - (1 : Int32)).toNatClampNeg)
      exact lp_191rm_29 h0 K (fun _  z1 z2 z3 y0 y1 y2 y3 y4 y5 => IH _ z1 _  rfl z2 z3 y0 y1 y2 y3 y4 y5) _ _ ((m 118 ((m 94 73) - (1 : Int32)).toNatClampNeg)) ((0 : Int32)) rfl (zF_u hF rfl) hV9 (by omega) (by omega) (by omega) (show zKS (m 110) ((m 94 73) - (1 : Int32)) from by first | (exact KS_0 (by omega)) | (exact KS_dec r_KS (by omega)) | (exfalso; omega; done) | (exfalso; contradiction; done)) r_W r_RB r_QC r_KM (show qKA (m 110) (m 99) (m 100) (m 98) (m 101) (m 102) (m 108) (m 118) ((m 94 73) - (1 : Int32)) QQ DD (m 118 ((m 94 73) - (1 : Int32)).toNatClampNeg).toNatClampNeg (0 : Int32).toNatClampNeg from by first | (exact KA_pop r_KA (by omega) (by omega) rfl) | (exfalso; omega; done) | (exfalso; contradiction; done)) (show zMu (m 110) ((m 94 73) - (1 : Int32)) < n from by first | (have zq := Mu_pop (r := m 110) (z := m 94 73) (y := (m 94 73) - (1 : Int32)) (by omega) (by omega); omega; done) | (exfalso; omega; done) | (exfalso; contradiction; done))
theorem sp_191rm {X : Nat × (Nat → Int32)} {P : Option ma_V → (Nat → Nat → Int32) → Prop} {aa : Nat→Nat→Int32} {ro : Int32} {fo : Int32} {le : Int32} {ra : Int32} {pi : Int32} {QQ : Nat→Prop} {DD : Nat→Prop} {m : Nat → Nat → Int32}  (hV : zV m) (r_KS : zKS (m 110) (m 94 73)) (r_W : zW (m 94 7) (m 98) (m 101) (m 102) (m 108)) (r_RB : qRB (m 99) (m 100) (m 98) (m 101) (m 102) (m 103) (m 107) (m 108) (m 109) (m 111) (m 112) (m 113) (m 114) (m 94 55) (m 94 46) ro fo le ra pi aa) (r_QC : qQC (m 99) (m 100) (m 98) (m 101) (m 102) (m 108) QQ DD) (r_KA : qKA (m 110) (m 99) (m 100) (m 98) (m 101) (m 102) (m 108) (m 118) (m 94 73) QQ DD 3100 0) (KZ : ∀ m₉, zV (zov wr_191 m m₉) → ((m₉ 94 73).toInt = 0) → (zle (m 110) (m₉ 110)) → (qKA (m₉ 110) (m 99) (m 100) (m 98) (m 101) (m 102) (m 108) (m₉ 118) (m₉ 94 73) QQ DD 3100 0) → P none (zov wr_191 m m₉)) : zm X 2 44 191 0 [(0, .inr (.inr (some 94)))] m P := by
  have K : ∀ m₉, zF wr_191 m m₉ → zV m₉ → ((m₉ 94 73).toInt = 0) → (zle (m 110) (m₉ 110)) → (qKA (m₉ 110) (m₉ 99) (m₉ 100) (m₉ 98) (m₉ 101) (m₉ 102) (m₉ 108) (m₉ 118) (m₉ 94 73) QQ DD 3100 0) → P none m₉ := by
    intro m₉ hf z q0 q1 q2
    have e := zov_eq hf
    rw [e] at z ⊢
    try rw [e] at q0
    try rw [e] at q1
    try rw [e] at q2
    exact KZ m₉ z q0 q1 q2
  exact lp_191rm_0 hV K _ _  rfl zF_rfl hV r_KS r_W r_RB r_QC (show zle (m 110) (m 110) from by first | (exact zle_rfl) | (exfalso; omega; done) | (exfalso; contradiction; done)) r_KA

/-! from 95.r01 -/
/-! the reference where it moves (written by wip/tools/gen15r.py) -/
theorem lp_188rm_61 {X : Nat × (Nat → Int32)} {P : Option ma_V → (Nat → Nat → Int32) → Prop} {aa : Nat→Nat→Int32} {ro : Int32} {fo : Int32} {le : Int32} {ra : Int32} {pi : Int32} {m0 : Nat → Nat → Int32} (h0 : zV m0) (K : ∀ m₉, zF wr_188 m0 m₉ → zV m₉ → ((m₉ 94 73).toInt = 0) → (∀ s, s < 3100 → (m₉ 99) s ≠ 0 → ((m₉ 110) s ≠ 0 ↔ zRch aa ((m₉ 100) s).toNatClampNeg)) → (∀ s, s < 3100 → (m₉ 110) s ≠ 0 → (m₉ 99) s ≠ 0) → P none m₉) : ∀ (n : Nat) (m : Nat → Nat → Int32) (l1 : Int32), (3100 - l1.toInt).toNat = n → zF wr_188 m0 m → zV m → (l1.toInt ≤ 3100) → (0 ≤ l1.toInt) → (zKS (m 110) (m 94 73)) → (zW (m 94 7) (m 98) (m 101) (m 102) (m 108)) → (qRB (m 99) (m 100) (m 98) (m 101) (m 102) (m 103) (m 107) (m 108) (m 109) (m 111) (m 112) (m 113) (m 114) (m 94 55) (m 94 46) ro fo le ra pi aa) → (qI aa) → (qKA (m 110) (m 99) (m 100) (m 98) (m 101) (m 102) (m 108) (m 118) (m 94 73) (zRch aa) (fun _ => False) 3100 0) → (zcov (m 110) (m 112) 16) → (zcov (m 110) (m 114) (m 94 55).toInt) → (∀ s : Nat, (s : Int) < l1.toInt → (m 99) s ≠ 0 → 0 < ((m 107) s).toInt → (m 110) s ≠ 0) → zm X 3 66 188 61 [(0, .inr (.inr (some 94))), (1, .inl l1)] m P := by
  intro n
  induction n using Nat.strongRecOn with
  | _ n IH =>
    intro m l1 hmu hF hV hi0 hi1 r_KS r_W r_RB r_QI r_KA r_CVR r_CVW r_CVH
    refine g_188_61 l1 ?_
    have li1 : (3100 : Int32).toInt = 3100 := rfl
    have b2 := i_bd l1
    refine zd (fun (h3 : (3100 : Int32) ≤ l1) => ?_) (fun (h3 : ¬ (3100 : Int32) ≤ l1) => ?_)
    · skip
      have g4 := i_le h3
      refine sp_191rm (aa := aa) (QQ := (zRch aa)) (DD := (fun _ => False))  hV r_KS r_W r_RB (show qQC (m 99) (m 100) (m 98) (m 101) (m 102) (m 108) (zRch aa) (fun _ => False) from by first | (exact QC_M r_RB) | (exfalso; omega; done) | (exfalso; contradiction; done)) r_KA (fun m1 hV_m1 p0_m1 p1_m1 p2_m1 => zmv_n ?_)
      have p0_m1 : (m1 94 73).toInt = 0 := p0_m1
      have p1_m1 : zle (m 110) (m1 110) := p1_m1
      have p2_m1 : qKA (m1 110) (m 99) (m 100) (m 98) (m 101) (m 102) (m 108) (m1 118) (m1 94 73) (zRch aa) (fun _ => False) 3100 0 := p2_m1
      have f5 : 0 ≤ (m1 94 73).toInt ∧ (m1 94 73).toInt ≤ 3100 := rs_94_73 (m := (zov wr_191 m m1)) hV_m1
      exact K _ (zF_zov hF ws_191_188) hV_m1 (show (m1 94 73).toInt = 0 from by omega) (show ∀ s, s < 3100 → (m 99) s ≠ 0 → ((m1 110) s ≠ 0 ↔ zRch aa ((m 100) s).toNatClampNeg) from by first | (exact fun s hs hu => KR_end r_RB p2_m1 (by omega) (cov_le r_CVR p1_m1 (fun k hk => (ra_112 hV (by omega)).2)) (cov_le r_CVW p1_m1 (fun k hk => (ra_114 hV (by have := rs_94_55 hV; omega)).2)) (fun s hs => cvh_le r_CVH p1_m1 (by omega) s (by omega)) hs hu) | (exfalso; omega; done) | (exfalso; contradiction; done)) (show ∀ s, s < 3100 → (m1 110) s ≠ 0 → (m 99) s ≠ 0 from by first | (exact fun s hs hk => (p2_m1.1 s hs hk).1) | (exfalso; omega; done) | (exfalso; contradiction; done))
    · skip
      have g6 := i_nle h3
      have hg7 : (0 ≤ l1 ∧ l1.toNatClampNeg < 3100) := i_ix (by omega) (by omega)
      refine ⟨hg7, ?_⟩
      first | have f8 : 0 ≤ (m 99 l1.toNatClampNeg).toInt ∧ (m 99 l1.toNatClampNeg).toInt ≤ 1 := ra_99 (m := m) hV (k := l1.toNatClampNeg) (i_ix (n := 3100) (by omega) (by omega)).2 | have b9 := i_bd (m 99 l1.toNatClampNeg)
      have li10 : (0 : Int32).toInt = 0 := rfl
      refine zd (fun (h11 : (m 99 l1.toNatClampNeg) = (0 : Int32)) => ?_) (fun (h11 : ¬ (m 99 l1.toNatClampNeg) = (0 : Int32)) => ?_)
      · skip
        have g12 := i_eq h11
        first | have e13 : (l1 + (1 : Int32)).toInt = l1.toInt + (1) := i_addk rfl (by omega) (by omega) | have b14 := i_bd (l1 + (1 : Int32))
        exact IH (3100 - (l1 + (1 : Int32)).toInt).toNat (by omega) _ ((l1 + (1 : Int32))) rfl hF hV (by omega) (by omega) r_KS r_W r_RB r_QI r_KA r_CVR r_CVW (show ∀ s : Nat, (s : Int) < (l1 + (1 : Int32)).toInt → (m 99) s ≠ 0 → 0 < ((m 107) s).toInt → (m 110) s ≠ 0 from by first | (intro s hs; omega; done) | (exact cvh_s r_CVH (by omega) (by omega) (Or.inl (by assumption))) | (exact cvh_s r_CVH (by omega) (by omega) (Or.inr (Or.inl (by omega)))) | (exact cvh_s r_CVH (by omega) (by omega) (Or.inr (Or.inr (by assumption)))) | (exfalso; omega; done) | (exfalso; contradiction; done))
      · skip
        have g15 := i_ne h11
        have hg16 : (0 ≤ l1 ∧ l1.toNatClampNeg < 3100) := i_ix (by omega) (by omega)
        refine ⟨hg16, ?_⟩
        have b17 := i_bd (m 107 l1.toNatClampNeg)
        refine zd (fun (h18 : (m 107 l1.toNatClampNeg) ≤ (0 : Int32)) => ?_) (fun (h18 : ¬ (m 107 l1.toNatClampNeg) ≤ (0 : Int32)) => ?_)
        · skip
          have g19 := i_le h18
          first | have e20 : (l1 + (1 : Int32)).toInt = l1.toInt + (1) := i_addk rfl (by omega) (by omega) | have b21 := i_bd (l1 + (1 : Int32))
          exact IH (3100 - (l1 + (1 : Int32)).toInt).toNat (by omega) _ ((l1 + (1 : Int32))) rfl hF hV (by omega) (by omega) r_KS r_W r_RB r_QI r_KA r_CVR r_CVW (show ∀ s : Nat, (s : Int) < (l1 + (1 : Int32)).toInt → (m 99) s ≠ 0 → 0 < ((m 107) s).toInt → (m 110) s ≠ 0 from by first | (intro s hs; omega; done) | (exact cvh_s r_CVH (by omega) (by omega) (Or.inl (by assumption))) | (exact cvh_s r_CVH (by omega) (by omega) (Or.inr (Or.inl (by omega)))) | (exact cvh_s r_CVH (by omega) (by omega) (Or.inr (Or.inr (by assumption)))) | (exfalso; omega; done) | (exfalso; contradiction; done))
        · skip
          have g22 := i_nle h18
          refine zd (fun (h23 : l1 < (0 : Int32)) => ?_) (fun (h23 : ¬ l1 < (0 : Int32)) => ?_)
          · skip
            have g24 := i_lt h23
            first | have e25 : (l1 + (1 : Int32)).toInt = l1.toInt + (1) := i_addk rfl (by omega) (by omega) | have b26 := i_bd (l1 + (1 : Int32))
            exact IH (3100 - (l1 + (1 : Int32)).toInt).toNat (by omega) _ ((l1 + (1 : Int32))) rfl hF hV (by omega) (by omega) r_KS r_W r_RB r_QI r_KA r_CVR r_CVW (show ∀ s : Nat, (s : Int) < (l1 + (1 : Int32)).toInt → (m 99) s ≠ 0 → 0 < ((m 107) s).toInt → (m 110) s ≠ 0 from by first | (intro s hs; omega; done) | (exact cvh_s r_CVH (by omega) (by omega) (Or.inl (by assumption))) | (exact cvh_s r_CVH (by omega) (by omega) (Or.inr (Or.inl (by omega)))) | (exact cvh_s r_CVH (by omega) (by omega) (Or.inr (Or.inr (by assumption)))) | (exfalso; omega; done) | (exfalso; contradiction; done))
          · skip
            have g27 := i_nlt h23
            have hg28 : (0 ≤ l1 ∧ l1.toNatClampNeg < 3100) := i_ix (by omega) (by omega)
            refine ⟨hg28, ?_⟩
            first | have f29 : 0 ≤ (m 110 l1.toNatClampNeg).toInt ∧ (m 110 l1.toNatClampNeg).toInt ≤ 1 := ra_110 (m := m) hV (k := l1.toNatClampNeg) (i_ix (n := 3100) (by omega) (by omega)).2 | have b30 := i_bd (m 110 l1.toNatClampNeg)
            refine zd (fun (h31 : (m 110 l1.toNatClampNeg) = (0 : Int32)) => ?_) (fun (h31 : ¬ (m 110 l1.toNatClampNeg) = (0 : Int32)) => ?_)
            · skip
              have g32 := i_eq h31
              have hg33 : (0 ≤ l1 ∧ l1.toNatClampNeg < 3100) := i_ix (by omega) (by omega)
              refine ⟨hg33, ?_⟩
              have f34 : 0 ≤ (m 94 73).toInt ∧ (m 94 73).toInt ≤ 3100 := rs_94_73 (m := m) hV
              try have gk := KS_room r_KS (by assumption) (by omega)
              have hg35 : (0 ≤ (m 94 73) ∧ (m 94 73).toNatClampNeg < 3100) := i_ix (by omega) (by omega)
              refine ⟨hg35, ?_⟩
              have li37 : (1 : Int32).toInt = 1 := rfl
              have hV36 : zV (ma_u m 110 l1.toNatClampNeg (1 : Int32)) := ua_110 hV (by omega) (by omega)
              have hV38 : zV (ma_u (ma_u m 110 l1.toNatClampNeg (1 : Int32)) 118 (m 94 73).toNatClampNeg l1) := ua_118 hV36 (by omega) (by omega)
              first | have e40 : ((m 94 73) + (1 : Int32)).toInt = (m 94 73).toInt + (1) := i_addk rfl (by omega) (by omega) | have b41 := i_bd ((m 94 73) + (1 : Int32))
              have hV39 : zV (ma_u (ma_u (ma_u m 110 l1.toNatClampNeg (1 : Int32)) 118 (m 94 73).toNatClampNeg l1) 94 73 ((m 94 73) + (1 : Int32))) := us_94_73 hV38 (by omega) (by omega)
              first | have e42 : (l1 + (1 : Int32)).toInt = l1.toInt + (1) := i_addk rfl (by omega) (by omega) | have b43 := i_bd (l1 + (1 : Int32))
              exact IH (3100 - (l1 + (1 : Int32)).toInt).toNat (by omega) _ ((l1 + (1 : Int32))) rfl (zF_u (zF_u (zF_u hF rfl) rfl) rfl) hV39 (by omega) (by omega) (show zKS ((ma_u m 110 l1.toNatClampNeg (1 : Int32)) 110) ((m 94 73) + (1 : Int32)) from by first | (exact KS_push r_KS (by assumption) (by omega) (by decide) (by assumption)) | (exact KS_push (KS_0 (r := m 110) (y := m 94 73) (by omega)) (by assumption) (by omega) (by decide) (by assumption)) | (exfalso; omega; done) | (exfalso; contradiction; done)) r_W r_RB r_QI (show qKA ((ma_u m 110 l1.toNatClampNeg (1 : Int32)) 110) (m 99) (m 100) (m 98) (m 101) (m 102) (m 108) ((ma_u m 118 (m 94 73).toNatClampNeg l1) 118) ((m 94 73) + (1 : Int32)) (zRch aa) (fun _ => False) 3100 0 from by first | (exact KA_push r_KA (by omega) (by omega) (by assumption) (Rc_ho r_RB r_QI (by omega) (by assumption) (by omega)) (by assumption) (by omega) (by omega) (by decide)) | (exfalso; omega; done) | (exfalso; contradiction; done)) (show zcov ((ma_u m 110 l1.toNatClampNeg (1 : Int32)) 110) (m 112) 16 from by first | (exact cov_one (cov_push r_CVR (by decide)) rfl (by omega) (by omega) (Or.inr (by rw [mu_self]; decide))) | (exact cov_push r_CVR (by decide)) | (exfalso; omega; done) | (exfalso; contradiction; done)) (show zcov ((ma_u m 110 l1.toNatClampNeg (1 : Int32)) 110) (m 114) (m 94 55).toInt from by first | (exact cov_one (cov_push r_CVW (by decide)) rfl (by omega) (by omega) (Or.inr (by rw [mu_self]; decide))) | (exact cov_push r_CVW (by decide)) | (exfalso; omega; done) | (exfalso; contradiction; done)) (show ∀ s : Nat, (s : Int) < (l1 + (1 : Int32)).toInt → (m 99) s ≠ 0 → 0 < ((m 107) s).toInt → ((ma_u m 110 l1.toNatClampNeg (1 : Int32)) 110) s ≠ 0 from by first | (exact cvh_s (cvh_p r_CVH (by decide)) (by omega) (by omega) (Or.inr (Or.inr (by rw [mu_self]; decide)))) | (exfalso; omega; done) | (exfalso; contradiction; done))
            · skip
              have g44 := i_ne h31
              first | have e45 : (l1 + (1 : Int32)).toInt = l1.toInt + (1) := i_addk rfl (by omega) (by omega) | have b46 := i_bd (l1 + (1 : Int32))
              exact IH (3100 - (l1 + (1 : Int32)).toInt).toNat (by omega) _ ((l1 + (1 : Int32))) rfl hF hV (by omega) (by omega) r_KS r_W r_RB r_QI r_KA r_CVR r_CVW (show ∀ s : Nat, (s : Int) < (l1 + (1 : Int32)).toInt → (m 99) s ≠ 0 → 0 < ((m 107) s).toInt → (m 110) s ≠ 0 from by first | (intro s hs; omega; done) | (exact cvh_s r_CVH (by omega) (by omega) (Or.inl (by assumption))) | (exact cvh_s r_CVH (by omega) (by omega) (Or.inr (Or.inl (by omega)))) | (exact cvh_s r_CVH (by omega) (by omega) (Or.inr (Or.inr (by assumption)))) | (exfalso; omega; done) | (exfalso; contradiction; done))
theorem lp_188rm_35 {X : Nat × (Nat → Int32)} {P : Option ma_V → (Nat → Nat → Int32) → Prop} {aa : Nat→Nat→Int32} {ro : Int32} {fo : Int32} {le : Int32} {ra : Int32} {pi : Int32} {m0 : Nat → Nat → Int32} (h0 : zV m0) (K : ∀ m₉, zF wr_188 m0 m₉ → zV m₉ → ((m₉ 94 73).toInt = 0) → (∀ s, s < 3100 → (m₉ 99) s ≠ 0 → ((m₉ 110) s ≠ 0 ↔ zRch aa ((m₉ 100) s).toNatClampNeg)) → (∀ s, s < 3100 → (m₉ 110) s ≠ 0 → (m₉ 99) s ≠ 0) → P none m₉) : ∀ (n : Nat) (m : Nat → Nat → Int32) (l1 : Int32), (3100 - l1.toInt).toNat = n → zF wr_188 m0 m → zV m → (0 ≤ l1.toInt) → (zKS (m 110) (m 94 73)) → (zW (m 94 7) (m 98) (m 101) (m 102) (m 108)) → (qRB (m 99) (m 100) (m 98) (m 101) (m 102) (m 103) (m 107) (m 108) (m 109) (m 111) (m 112) (m 113) (m 114) (m 94 55) (m 94 46) ro fo le ra pi aa) → (qI aa) → (qKA (m 110) (m 99) (m 100) (m 98) (m 101) (m 102) (m 108) (m 118) (m 94 73) (zRch aa) (fun _ => False) 3100 0) → (zcov (m 110) (m 112) 16) → (zcov (m 110) (m 114) l1.toInt) → zm X 3 66 188 35 [(0, .inr (.inr (some 94))), (1, .inl l1)] m P := by
  intro n
  induction n using Nat.strongRecOn with
  | _ n IH =>
    intro m l1 hmu hF hV hi0 r_KS r_W r_RB r_QI r_KA r_CVR r_CVW
    refine g_188_35 l1 ?_
    have f1 : 0 ≤ (m 94 55).toInt ∧ (m 94 55).toInt ≤ 3100 := rs_94_55 (m := m) hV
    have b2 := i_bd l1
    refine zd (fun (h3 : (m 94 55) ≤ l1) => ?_) (fun (h3 : ¬ (m 94 55) ≤ l1) => ?_)
    · skip
      have g4 := i_le h3
      have li5 : (0 : Int32).toInt = 0 := rfl
      exact lp_188rm_61 h0 K _ _ ((0 : Int32)) rfl hF hV (by omega) (by omega) r_KS r_W r_RB r_QI r_KA r_CVR (show zcov (m 110) (m 114) (m 94 55).toInt from by first | (exact cov_0 (by decide)) | (exact cov_one r_CVW rfl (by omega) (by omega) (Or.inl (by omega))) | (exact cov_one r_CVW rfl (by omega) (by omega) (Or.inr (by assumption))) | (exact cov_cut r_CVW (by omega)) | (exfalso; omega; done) | (exfalso; contradiction; done)) (show ∀ s : Nat, (s : Int) < (0 : Int32).toInt → (m 99) s ≠ 0 → 0 < ((m 107) s).toInt → (m 110) s ≠ 0 from by first | (intro s hs; omega; done) | (exfalso; omega; done) | (exfalso; contradiction; done))
    · skip
      have g6 := i_nle h3
      have hg7 : (0 ≤ l1 ∧ l1.toNatClampNeg < 3100) := i_ix (by omega) (by omega)
      refine ⟨hg7, ?_⟩
      first | have f8 : 0 ≤ (m 114 l1.toNatClampNeg).toInt ∧ (m 114 l1.toNatClampNeg).toInt ≤ 3099 := ra_114 (m := m) hV (k := l1.toNatClampNeg) (i_ix (n := 3100) (by omega) (by omega)).2 | have b9 := i_bd (m 114 l1.toNatClampNeg)
      have li10 : (0 : Int32).toInt = 0 := rfl
      refine zd (fun (h11 : (m 114 l1.toNatClampNeg) < (0 : Int32)) => ?_) (fun (h11 : ¬ (m 114 l1.toNatClampNeg) < (0 : Int32)) => ?_)
      · skip
        have g12 := i_lt h11
        first | have e13 : (l1 + (1 : Int32)).toInt = l1.toInt + (1) := i_addk rfl (by omega) (by omega) | have b14 := i_bd (l1 + (1 : Int32))
        exact IH (3100 - (l1 + (1 : Int32)).toInt).toNat (by omega) _ ((l1 + (1 : Int32))) rfl hF hV (by omega) r_KS r_W r_RB r_QI r_KA r_CVR (show zcov (m 110) (m 114) (l1 + (1 : Int32)).toInt from by first | (exact cov_0 (by decide)) | (exact cov_one r_CVW rfl (by omega) (by omega) (Or.inl (by omega))) | (exact cov_one r_CVW rfl (by omega) (by omega) (Or.inr (by assumption))) | (exact cov_cut r_CVW (by omega)) | (exfalso; omega; done) | (exfalso; contradiction; done))
      · skip
        have g15 := i_nlt h11
        have hg16 : (0 ≤ (m 114 l1.toNatClampNeg) ∧ (m 114 l1.toNatClampNeg).toNatClampNeg < 3100) := i_ix (by omega) (by omega)
        refine ⟨hg16, ?_⟩
        first | have f17 : 0 ≤ (m 110 (m 114 l1.toNatClampNeg).toNatClampNeg).toInt ∧ (m 110 (m 114 l1.toNatClampNeg).toNatClampNeg).toInt ≤ 1 := ra_110 (m := m) hV (k := (m 114 l1.toNatClampNeg).toNatClampNeg) (i_ix (n := 3100) (by omega) (by omega)).2 | have b18 := i_bd (m 110 (m 114 l1.toNatClampNeg).toNatClampNeg)
        refine zd (fun (h19 : (m 110 (m 114 l1.toNatClampNeg).toNatClampNeg) = (0 : Int32)) => ?_) (fun (h19 : ¬ (m 110 (m 114 l1.toNatClampNeg).toNatClampNeg) = (0 : Int32)) => ?_)
        · skip
          have g20 := i_eq h19
          have hg21 : (0 ≤ (m 114 l1.toNatClampNeg) ∧ (m 114 l1.toNatClampNeg).toNatClampNeg < 3100) := i_ix (by omega) (by omega)
          refine ⟨hg21, ?_⟩
          have f22 : 0 ≤ (m 94 73).toInt ∧ (m 94 73).toInt ≤ 3100 := rs_94_73 (m := m) hV
          try have gk := KS_room r_KS (by assumption) (by omega)
          have hg23 : (0 ≤ (m 94 73) ∧ (m 94 73).toNatClampNeg < 3100) := i_ix (by omega) (by omega)
          refine ⟨hg23, ?_⟩
          have li25 : (1 : Int32).toInt = 1 := rfl
          have hV24 : zV (ma_u m 110 (m 114 l1.toNatClampNeg).toNatClampNeg (1 : Int32)) := ua_110 hV (by omega) (by omega)
          have hV26 : zV (ma_u (ma_u m 110 (m 114 l1.toNatClampNeg).toNatClampNeg (1 : Int32)) 118 (m 94 73).toNatClampNeg (m 114 l1.toNatClampNeg)) := ua_118 hV24 (by omega) (by omega)
          first | have e28 : ((m 94 73) + (1 : Int32)).toInt = (m 94 73).toInt + (1) := i_addk rfl (by omega) (by omega) | have b29 := i_bd ((m 94 73) + (1 : Int32))
          have hV27 : zV (ma_u (ma_u (ma_u m 110 (m 114 l1.toNatClampNeg).toNatClampNeg (1 : Int32)) 118 (m 94 73).toNatClampNeg (m 114 l1.toNatClampNeg)) 94 73 ((m 94 73) + (1 : Int32))) := us_94_73 hV26 (by omega) (by omega)
          first | have e30 : (l1 + (1 : Int32)).toInt = l1.toInt + (1) := i_addk rfl (by omega) (by omega) | have b31 := i_bd (l1 + (1 : Int32))
          exact IH (3100 - (l1 + (1 : Int32)).toInt).toNat (by omega) _ ((l1 + (1 : Int32))) rfl (zF_u (zF_u (zF_u hF rfl) rfl) rfl) hV27 (by omega) (show zKS ((ma_u m 110 (m 114 l1.toNatClampNeg).toNatClampNeg (1 : Int32)) 110) ((m 94 73) + (1 : Int32)) from by first | (exact KS_push r_KS (by assumption) (by omega) (by decide) (by assumption)) | (exact KS_push (KS_0 (r := m 110) (y := m 94 73) (by omega)) (by assumption) (by omega) (by decide) (by assumption)) | (exfalso; omega; done) | (exfalso; contradiction; done)) r_W r_RB r_QI (show qKA ((ma_u m 110 (m 114 l1.toNatClampNeg).toNatClampNeg (1 : Int32)) 110) (m 99) (m 100) (m 98) (m 101) (m 102) (m 108) ((ma_u m 118 (m 94 73).toNatClampNeg (m 114 l1.toNatClampNeg)) 118) ((m 94 73) + (1 : Int32)) (zRch aa) (fun _ => False) 3100 0 from by first | (exact KA_push r_KA (by omega) (by omega) (Rc_wl r_RB (j := l1) (by omega) (by omega) rfl).1 (Rc_wl r_RB (j := l1) (by omega) (by omega) rfl).2 (by assumption) (by omega) (by omega) (by decide)) | (exfalso; omega; done) | (exfalso; contradiction; done)) (show zcov ((ma_u m 110 (m 114 l1.toNatClampNeg).toNatClampNeg (1 : Int32)) 110) (m 112) 16 from by first | (exact cov_one (cov_push r_CVR (by decide)) rfl (by omega) (by omega) (Or.inr (by rw [mu_self]; decide))) | (exact cov_push r_CVR (by decide)) | (exfalso; omega; done) | (exfalso; contradiction; done)) (show zcov ((ma_u m 110 (m 114 l1.toNatClampNeg).toNatClampNeg (1 : Int32)) 110) (m 114) (l1 + (1 : Int32)).toInt from by first | (exact cov_one (cov_push r_CVW (by decide)) rfl (by omega) (by omega) (Or.inr (by rw [mu_self]; decide))) | (exact cov_push r_CVW (by decide)) | (exfalso; omega; done) | (exfalso; contradiction; done))
        · skip
          have g32 := i_ne h19
          first | have e33 : (l1 + (1 : Int32)).toInt = l1.toInt + (1) := i_addk rfl (by omega) (by omega) | have b34 := i_bd (l1 + (1 : Int32))
          exact IH (3100 - (l1 + (1 : Int32)).toInt).toNat (by omega) _ ((l1 + (1 : Int32))) rfl hF hV (by omega) r_KS r_W r_RB r_QI r_KA r_CVR (show zcov (m 110) (m 114) (l1 + (1 : Int32)).toInt from by first | (exact cov_0 (by decide)) | (exact cov_one r_CVW rfl (by omega) (by omega) (Or.inl (by omega))) | (exact cov_one r_CVW rfl (by omega) (by omega) (Or.inr (by assumption))) | (exact cov_cut r_CVW (by omega)) | (exfalso; omega; done) | (exfalso; contradiction; done))
theorem lp_188rm_11 {X : Nat × (Nat → Int32)} {P : Option ma_V → (Nat → Nat → Int32) → Prop} {aa : Nat→Nat→Int32} {ro : Int32} {fo : Int32} {le : Int32} {ra : Int32} {pi : Int32} {m0 : Nat → Nat → Int32} (h0 : zV m0) (K : ∀ m₉, zF wr_188 m0 m₉ → zV m₉ → ((m₉ 94 73).toInt = 0) → (∀ s, s < 3100 → (m₉ 99) s ≠ 0 → ((m₉ 110) s ≠ 0 ↔ zRch aa ((m₉ 100) s).toNatClampNeg)) → (∀ s, s < 3100 → (m₉ 110) s ≠ 0 → (m₉ 99) s ≠ 0) → P none m₉) : ∀ (n : Nat) (m : Nat → Nat → Int32) (l1 : Int32), (16 - l1.toInt).toNat = n → zF wr_188 m0 m → zV m → (0 ≤ l1.toInt) → (zKS (m 110) (m 94 73)) → (zW (m 94 7) (m 98) (m 101) (m 102) (m 108)) → (qRB (m 99) (m 100) (m 98) (m 101) (m 102) (m 103) (m 107) (m 108) (m 109) (m 111) (m 112) (m 113) (m 114) (m 94 55) (m 94 46) ro fo le ra pi aa) → (qI aa) → (qKA (m 110) (m 99) (m 100) (m 98) (m 101) (m 102) (m 108) (m 118) (m 94 73) (zRch aa) (fun _ => False) 3100 0) → (zcov (m 110) (m 112) l1.toInt) → zm X 3 66 188 11 [(0, .inr (.inr (some 94))), (1, .inl l1)] m P := by
  intro n
  induction n using Nat.strongRecOn with
  | _ n IH =>
    intro m l1 hmu hF hV hi0 r_KS r_W r_RB r_QI r_KA r_CVR
    refine g_188_11 l1 ?_
    have li1 : (16 : Int32).toInt = 16 := rfl
    have b2 := i_bd l1
    refine zd (fun (h3 : (16 : Int32) ≤ l1) => ?_) (fun (h3 : ¬ (16 : Int32) ≤ l1) => ?_)
    · skip
      have g4 := i_le h3
      have li5 : (0 : Int32).toInt = 0 := rfl
      exact lp_188rm_35 h0 K _ _ ((0 : Int32)) rfl hF hV (by omega) r_KS r_W r_RB r_QI r_KA (show zcov (m 110) (m 112) 16 from by first | (exact cov_0 (by decide)) | (exact cov_one r_CVR rfl (by omega) (by omega) (Or.inl (by omega))) | (exact cov_one r_CVR rfl (by omega) (by omega) (Or.inr (by assumption))) | (exact cov_cut r_CVR (by omega)) | (exfalso; omega; done) | (exfalso; contradiction; done)) (show zcov (m 110) (m 114) (0 : Int32).toInt from by first | (exact cov_0 (by decide)) | (exfalso; omega; done) | (exfalso; contradiction; done))
    · skip
      have g6 := i_nle h3
      have hg7 : (0 ≤ l1 ∧ l1.toNatClampNeg < 16) := i_ix (by omega) (by omega)
      refine ⟨hg7, ?_⟩
      first | have f8 : -1 ≤ (m 112 l1.toNatClampNeg).toInt ∧ (m 112 l1.toNatClampNeg).toInt ≤ 3099 := ra_112 (m := m) hV (k := l1.toNatClampNeg) (i_ix (n := 16) (by omega) (by omega)).2 | have b9 := i_bd (m 112 l1.toNatClampNeg)
      have li10 : (0 : Int32).toInt = 0 := rfl
      refine zd (fun (h11 : (m 112 l1.toNatClampNeg) < (0 : Int32)) => ?_) (fun (h11 : ¬ (m 112 l1.toNatClampNeg) < (0 : Int32)) => ?_)
      · skip
        have g12 := i_lt h11
        first | have e13 : (l1 + (1 : Int32)).toInt = l1.toInt + (1) := i_addk rfl (by omega) (by omega) | have b14 := i_bd (l1 + (1 : Int32))
        exact IH (16 - (l1 + (1 : Int32)).toInt).toNat (by omega) _ ((l1 + (1 : Int32))) rfl hF hV (by omega) r_KS r_W r_RB r_QI r_KA (show zcov (m 110) (m 112) (l1 + (1 : Int32)).toInt from by first | (exact cov_0 (by decide)) | (exact cov_one r_CVR rfl (by omega) (by omega) (Or.inl (by omega))) | (exact cov_one r_CVR rfl (by omega) (by omega) (Or.inr (by assumption))) | (exact cov_cut r_CVR (by omega)) | (exfalso; omega; done) | (exfalso; contradiction; done))
      · skip
        have g15 := i_nlt h11
        have hg16 : (0 ≤ (m 112 l1.toNatClampNeg) ∧ (m 112 l1.toNatClampNeg).toNatClampNeg < 3100) := i_ix (by omega) (by omega)
        refine ⟨hg16, ?_⟩
        first | have f17 : 0 ≤ (m 110 (m 112 l1.toNatClampNeg).toNatClampNeg).toInt ∧ (m 110 (m 112 l1.toNatClampNeg).toNatClampNeg).toInt ≤ 1 := ra_110 (m := m) hV (k := (m 112 l1.toNatClampNeg).toNatClampNeg) (i_ix (n := 3100) (by omega) (by omega)).2 | have b18 := i_bd (m 110 (m 112 l1.toNatClampNeg).toNatClampNeg)
        refine zd (fun (h19 : (m 110 (m 112 l1.toNatClampNeg).toNatClampNeg) = (0 : Int32)) => ?_) (fun (h19 : ¬ (m 110 (m 112 l1.toNatClampNeg).toNatClampNeg) = (0 : Int32)) => ?_)
        · skip
          have g20 := i_eq h19
          have hg21 : (0 ≤ (m 112 l1.toNatClampNeg) ∧ (m 112 l1.toNatClampNeg).toNatClampNeg < 3100) := i_ix (by omega) (by omega)
          refine ⟨hg21, ?_⟩
          have f22 : 0 ≤ (m 94 73).toInt ∧ (m 94 73).toInt ≤ 3100 := rs_94_73 (m := m) hV
          try have gk := KS_room r_KS (by assumption) (by omega)
          have hg23 : (0 ≤ (m 94 73) ∧ (m 94 73).toNatClampNeg < 3100) := i_ix (by omega) (by omega)
          refine ⟨hg23, ?_⟩
          have li25 : (1 : Int32).toInt = 1 := rfl
          have hV24 : zV (ma_u m 110 (m 112 l1.toNatClampNeg).toNatClampNeg (1 : Int32)) := ua_110 hV (by omega) (by omega)
          have hV26 : zV (ma_u (ma_u m 110 (m 112 l1.toNatClampNeg).toNatClampNeg (1 : Int32)) 118 (m 94 73).toNatClampNeg (m 112 l1.toNatClampNeg)) := ua_118 hV24 (by omega) (by omega)
          first | have e28 : ((m 94 73) + (1 : Int32)).toInt = (m 94 73).toInt + (1) := i_addk rfl (by omega) (by omega) | have b29 := i_bd ((m 94 73) + (1 : Int32))
          have hV27 : zV (ma_u (ma_u (ma_u m 110 (m 112 l1.toNatClampNeg).toNatClampNeg (1 : Int32)) 118 (m 94 73).toNatClampNeg (m 112 l1.toNatClampNeg)) 94 73 ((m 94 73) + (1 : Int32))) := us_94_73 hV26 (by omega) (by omega)
          first | have e30 : (l1 + (1 : Int32)).toInt = l1.toInt + (1) := i_addk rfl (by omega) (by omega) | have b31 := i_bd (l1 + (1 : Int32))
          exact IH (16 - (l1 + (1 : Int32)).toInt).toNat (by omega) _ ((l1 + (1 : Int32))) rfl (zF_u (zF_u (zF_u hF rfl) rfl) rfl) hV27 (by omega) (show zKS ((ma_u m 110 (m 112 l1.toNatClampNeg).toNatClampNeg (1 : Int32)) 110) ((m 94 73) + (1 : Int32)) from by first | (exact KS_push r_KS (by assumption) (by omega) (by decide) (by assumption)) | (exact KS_push (KS_0 (r := m 110) (y := m 94 73) (by omega)) (by assumption) (by omega) (by decide) (by assumption)) | (exfalso; omega; done) | (exfalso; contradiction; done)) r_W r_RB r_QI (show qKA ((ma_u m 110 (m 112 l1.toNatClampNeg).toNatClampNeg (1 : Int32)) 110) (m 99) (m 100) (m 98) (m 101) (m 102) (m 108) ((ma_u m 118 (m 94 73).toNatClampNeg (m 112 l1.toNatClampNeg)) 118) ((m 94 73) + (1 : Int32)) (zRch aa) (fun _ => False) 3100 0 from by first | (exact KA_push r_KA (by omega) (by omega) (Rc_rt r_RB (j := l1) (by omega) (by omega) rfl (by omega)).1 (Rc_rt r_RB (j := l1) (by omega) (by omega) rfl (by omega)).2 (by assumption) (by omega) (by omega) (by decide)) | (exfalso; omega; done) | (exfalso; contradiction; done)) (show zcov ((ma_u m 110 (m 112 l1.toNatClampNeg).toNatClampNeg (1 : Int32)) 110) (m 112) (l1 + (1 : Int32)).toInt from by first | (exact cov_one (cov_push r_CVR (by decide)) rfl (by omega) (by omega) (Or.inr (by rw [mu_self]; decide))) | (exact cov_push r_CVR (by decide)) | (exfalso; omega; done) | (exfalso; contradiction; done))
        · skip
          have g32 := i_ne h19
          first | have e33 : (l1 + (1 : Int32)).toInt = l1.toInt + (1) := i_addk rfl (by omega) (by omega) | have b34 := i_bd (l1 + (1 : Int32))
          exact IH (16 - (l1 + (1 : Int32)).toInt).toNat (by omega) _ ((l1 + (1 : Int32))) rfl hF hV (by omega) r_KS r_W r_RB r_QI r_KA (show zcov (m 110) (m 112) (l1 + (1 : Int32)).toInt from by first | (exact cov_0 (by decide)) | (exact cov_one r_CVR rfl (by omega) (by omega) (Or.inl (by omega))) | (exact cov_one r_CVR rfl (by omega) (by omega) (Or.inr (by assumption))) | (exact cov_cut r_CVR (by omega)) | (exfalso; omega; done) | (exfalso; contradiction; done))
theorem sp_188rm {X : Nat × (Nat → Int32)} {P : Option ma_V → (Nat → Nat → Int32) → Prop} {aa : Nat→Nat→Int32} {ro : Int32} {fo : Int32} {le : Int32} {ra : Int32} {pi : Int32} {m : Nat → Nat → Int32}  (hV : zV m) (r_W : zW (m 94 7) (m 98) (m 101) (m 102) (m 108)) (r_RB : qRB (m 99) (m 100) (m 98) (m 101) (m 102) (m 103) (m 107) (m 108) (m 109) (m 111) (m 112) (m 113) (m 114) (m 94 55) (m 94 46) ro fo le ra pi aa) (r_QI : qI aa) (KZ : ∀ m₉, zV (zov wr_188 m m₉) → ((m₉ 94 73).toInt = 0) → (∀ s, s < 3100 → (m 99) s ≠ 0 → ((m₉ 110) s ≠ 0 ↔ zRch aa ((m 100) s).toNatClampNeg)) → (∀ s, s < 3100 → (m₉ 110) s ≠ 0 → (m 99) s ≠ 0) → P none (zov wr_188 m m₉)) : zm X 3 66 188 0 [(0, .inr (.inr (some 94)))] m P := by
  have K : ∀ m₉, zF wr_188 m m₉ → zV m₉ → ((m₉ 94 73).toInt = 0) → (∀ s, s < 3100 → (m₉ 99) s ≠ 0 → ((m₉ 110) s ≠ 0 ↔ zRch aa ((m₉ 100) s).toNatClampNeg)) → (∀ s, s < 3100 → (m₉ 110) s ≠ 0 → (m₉ 99) s ≠ 0) → P none m₉ := by
    intro m₉ hf z q0 q1 q2
    have e := zov_eq hf
    rw [e] at z ⊢
    try rw [e] at q0
    try rw [e] at q1
    try rw [e] at q2
    exact KZ m₉ z q0 q1 q2
  refine g_188_0  ?_
  refine sp_189  hV  (fun m1 hV_m1 p0_m1 => zmv_n ?_)
  have p0_m1 : ∀ s : Nat, s < 3100 → (m1 110) s = 0 := p0_m1
  have li2 : (0 : Int32).toInt = 0 := rfl
  have hV1 : zV (ma_u (zov wr_189 m m1) 94 73 (0 : Int32)) := us_94_73 hV_m1 (by omega) (by omega)
  exact lp_188rm_11 hV K _ _ ((0 : Int32)) rfl (zF_u (zF_zov zF_rfl ws_189_188) rfl) hV1 (by omega) (show zKS (m1 110) (0 : Int32) from by first | (exact KS_0 (by omega)) | (exfalso; omega; done) | (exfalso; contradiction; done)) r_W r_RB r_QI (show qKA (m1 110) (m 99) (m 100) (m 98) (m 101) (m 102) (m 108) (m 118) (0 : Int32) (zRch aa) (fun _ => False) 3100 0 from by first | (exact KA_none p0_m1 (by omega) (fun _ z => z)) | (exfalso; omega; done) | (exfalso; contradiction; done)) (show zcov (m1 110) (m 112) (0 : Int32).toInt from by first | (exact cov_0 (by decide)) | (exfalso; omega; done) | (exfalso; contradiction; done))
theorem sp_245rm {X : Nat × (Nat → Int32)} {P : Option ma_V → (Nat → Nat → Int32) → Prop} {aa : Nat→Nat→Int32} {ro : Int32} {fo : Int32} {le : Int32} {ra : Int32} {pi : Int32} {m : Nat → Nat → Int32} (ob : Int32) (hV : zV m) (r_W : zW (m 94 7) (m 98) (m 101) (m 102) (m 108)) (r_RB : qRB (m 99) (m 100) (m 98) (m 101) (m 102) (m 103) (m 107) (m 108) (m 109) (m 111) (m 112) (m 113) (m 114) (m 94 55) (m 94 46) ro fo le ra pi aa) (r_QI : qI aa) (KZ : ∀ v m₉, zV (zov wr_245 m m₉) → (-1 ≤ v.toInt ∧ v.toInt ≤ 3099) → (v.toInt < 0 ∨ (m 99) v.toNatClampNeg ≠ 0) → (qRe (m 99) (m 100) aa ob v) → P (some (.inl v)) (zov wr_245 m m₉)) : zm X 4 87 245 0 [(0, .inr (.inr (some 94))), (1, .inl ob)] m P := by
  have K : ∀ v m₉, zF wr_245 m m₉ → zV m₉ → (-1 ≤ v.toInt ∧ v.toInt ≤ 3099) → (v.toInt < 0 ∨ (m₉ 99) v.toNatClampNeg ≠ 0) → (qRe (m₉ 99) (m₉ 100) aa ob v) → P (some (.inl v)) m₉ := by
    intro v m₉ hf z q0 q1 q2
    have e := zov_eq hf
    rw [e] at z ⊢
    try rw [e] at q0
    try rw [e] at q1
    try rw [e] at q2
    exact KZ v m₉ z q0 q1 q2
  refine g_245_0 ob ?_
  have b1 := i_bd ob
  refine sp_246r (ob) hV  (fun v2 m1 hV_m1 p0_m1 p1_m1 => zmi_n ?_)
  have p0_m1 : -1 ≤ v2.toInt ∧ v2.toInt ≤ 3099 := p0_m1
  have p1_m1 : qPl (m 99) (m 100) ob v2 := p1_m1
  have li2 : (0 : Int32).toInt = 0 := rfl
  have b3 := i_bd v2
  refine zd (fun (h4 : (0 : Int32) ≤ v2) => ?_) (fun (h4 : ¬ (0 : Int32) ≤ v2) => ?_)
  · skip
    have g5 := i_le h4
    refine sp_188rm (aa := aa)  hV_m1 r_W r_RB r_QI (fun m3 hV_m3 p0_m3 p1_m3 p2_m3 => zmv_n ?_)
    have p0_m3 : (m3 94 73).toInt = 0 := p0_m3
    have p1_m3 : ∀ s, s < 3100 → (m 99) s ≠ 0 → ((m3 110) s ≠ 0 ↔ zRch aa ((m 100) s).toNatClampNeg) := p1_m3
    have p2_m3 : ∀ s, s < 3100 → (m3 110) s ≠ 0 → (m 99) s ≠ 0 := p2_m3
    have f6 : 0 ≤ (m3 94 73).toInt ∧ (m3 94 73).toInt ≤ 3100 := rs_94_73 (m := (zov wr_188 (zov wr_246 m m1) m3)) hV_m3
    have hg7 : (0 ≤ v2 ∧ v2.toNatClampNeg < 3100) := i_ix (by omega) (by omega)
    refine ⟨hg7, ?_⟩
    first | have f8 : 0 ≤ (m3 110 v2.toNatClampNeg).toInt ∧ (m3 110 v2.toNatClampNeg).toInt ≤ 1 := ra_110 (m := (zov wr_188 (zov wr_246 m m1) m3)) hV_m3 (k := v2.toNatClampNeg) (i_ix (n := 3100) (by omega) (by omega)).2 | have b9 := i_bd (m3 110 v2.toNatClampNeg)
    refine zd (fun (h10 : (m3 110 v2.toNatClampNeg) = (0 : Int32)) => ?_) (fun (h10 : ¬ (m3 110 v2.toNatClampNeg) = (0 : Int32)) => ?_)
    · skip
      have g11 := i_eq h10
      have li12 : (-1 : Int32).toInt = -1 := rfl
      exact K ((-1 : Int32)) _ (zF_zov (zF_zov zF_rfl ws_246_245) ws_188_245) hV_m3 (show -1 ≤ (-1 : Int32).toInt ∧ (-1 : Int32).toInt ≤ 3099 from by omega) (show (-1 : Int32).toInt < 0 ∨ (m 99) (-1 : Int32).toNatClampNeg ≠ 0 from by first | (exact Or.inl (by decide)) | (exact p1_m1.elim (fun z => absurd z.1 (i_ne2 (by omega))) (fun z => Or.inr z.2.2.1)) | (exact p1_m1.elim (fun z => Or.inl (by rw [z.1]; decide)) (fun z => Or.inr z.2.2.1)) | (exact Or.inl (by decide)) | (exact Or.inr (by assumption)) | (exact Or.inl (by omega)) | (exfalso; omega; done) | (exfalso; contradiction; done)) (show qRe (m 99) (m 100) aa ob (-1 : Int32) from by first | (exact Re_0 r_RB p1_m1 (by omega)) | (exact Re_1 r_RB r_QI p1_m1 (by omega) p1_m3 (by assumption)) | (exact Re_2 r_RB r_QI p1_m1 (by omega) p1_m3 (by assumption)) | (exfalso; omega; done) | (exfalso; contradiction; done))
    · skip
      have g13 := i_ne h10
      exact K (v2) _ (zF_zov (zF_zov zF_rfl ws_246_245) ws_188_245) hV_m3 (show -1 ≤ v2.toInt ∧ v2.toInt ≤ 3099 from by omega) (show v2.toInt < 0 ∨ (m 99) v2.toNatClampNeg ≠ 0 from by first | (exact Or.inl (by decide)) | (exact p1_m1.elim (fun z => absurd z.1 (i_ne2 (by omega))) (fun z => Or.inr z.2.2.1)) | (exact p1_m1.elim (fun z => Or.inl (by rw [z.1]; decide)) (fun z => Or.inr z.2.2.1)) | (exact Or.inl (by decide)) | (exact Or.inr (by assumption)) | (exact Or.inl (by omega)) | (exfalso; omega; done) | (exfalso; contradiction; done)) (show qRe (m 99) (m 100) aa ob v2 from by first | (exact Re_0 r_RB p1_m1 (by omega)) | (exact Re_1 r_RB r_QI p1_m1 (by omega) p1_m3 (by assumption)) | (exact Re_2 r_RB r_QI p1_m1 (by omega) p1_m3 (by assumption)) | (exfalso; omega; done) | (exfalso; contradiction; done))
  · skip
    have g14 := i_nle h4
    have li15 : (-1 : Int32).toInt = -1 := rfl
    exact K ((-1 : Int32)) _ (zF_zov zF_rfl ws_246_245) hV_m1 (show -1 ≤ (-1 : Int32).toInt ∧ (-1 : Int32).toInt ≤ 3099 from by omega) (show (-1 : Int32).toInt < 0 ∨ (m 99) (-1 : Int32).toNatClampNeg ≠ 0 from by first | (exact Or.inl (by decide)) | (exact p1_m1.elim (fun z => absurd z.1 (i_ne2 (by omega))) (fun z => Or.inr z.2.2.1)) | (exact p1_m1.elim (fun z => Or.inl (by rw [z.1]; decide)) (fun z => Or.inr z.2.2.1)) | (exact Or.inl (by decide)) | (exact Or.inr (by assumption)) | (exact Or.inl (by omega)) | (exfalso; omega; done) | (exfalso; contradiction; done)) (show qRe (m 99) (m 100) aa ob (-1 : Int32) from by first | (exact Re_0 r_RB p1_m1 (by omega)) | (exfalso; omega; done) | (exfalso; contradiction; done))
theorem sp_197rm {X : Nat × (Nat → Int32)} {P : Option ma_V → (Nat → Nat → Int32) → Prop} {T : Nat} {aa : Nat→Nat→Int32} {ro : Int32} {fo : Int32} {le : Int32} {ra : Int32} {pi : Int32} {m : Nat → Nat → Int32} (s : Int32) (hV : zV m) (hpre0 : 0 ≤ s.toInt) (hpre1 : s.toInt ≤ 3099) (hpre2 : T ≤ 512) (hpre3 : (m 94 10).toInt ≠ 4) (r_WI : (m 109) s.toNatClampNeg ≠ 0) (r_USs : (m 99) s.toNatClampNeg ≠ 0) (r_GW : zGW T (m 94 55) (m 109)) (r_RB : qRB (m 99) (m 100) (m 98) (m 101) (m 102) (m 103) (m 107) (m 108) (m 109) (m 111) (m 112) (m 113) (m 114) (m 94 55) (m 94 46) ro fo le ra pi aa) (r_QI : qI aa) (KZ : ∀ m₉, zV (zov wr_197 m m₉) → (zGW T (m₉ 94 55) (m₉ 109)) → (zuw (m 113) (m₉ 113)) → (zwx (m 114) (m₉ 114) (m 94 55) s) → ((m₉ 94 55).toInt = (m 94 55).toInt + 1) → (qRB (m 99) (m 100) (m 98) (m 101) (m 102) (m 103) (m 107) (m 108) (m₉ 109) (m 111) (m 112) (m₉ 113) (m₉ 114) (m₉ 94 55) (m 94 46) ro fo le ra pi (aGr aa ((m 100) s.toNatClampNeg))) → (qI (aGr aa ((m 100) s.toNatClampNeg))) → P none (zov wr_197 m m₉)) : zm X 1 22 197 0 [(0, .inr (.inr (some 94))), (1, .inl s)] m P := by
  have K : ∀ m₉, zF wr_197 m m₉ → zV m₉ → (zGW T (m₉ 94 55) (m₉ 109)) → (zuw (m 113) (m₉ 113)) → (zwx (m 114) (m₉ 114) (m 94 55) s) → ((m₉ 94 55).toInt = (m 94 55).toInt + 1) → (qRB (m₉ 99) (m₉ 100) (m₉ 98) (m₉ 101) (m₉ 102) (m₉ 103) (m₉ 107) (m₉ 108) (m₉ 109) (m₉ 111) (m₉ 112) (m₉ 113) (m₉ 114) (m₉ 94 55) (m₉ 94 46) ro fo le ra pi (aGr aa ((m₉ 100) s.toNatClampNeg))) → (qI (aGr aa ((m₉ 100) s.toNatClampNeg))) → P none m₉ := by
    intro m₉ hf z q0 q1 q2 q3 q4 q5
    have e := zov_eq hf
    rw [e] at z ⊢
    try rw [e] at q0
    try rw [e] at q1
    try rw [e] at q2
    try rw [e] at q3
    try rw [e] at q4
    try rw [e] at q5
    exact KZ m₉ z q0 q1 q2 q3 q4 q5
  refine g_197_0 s ?_
  have f1 : 0 ≤ (m 94 10).toInt ∧ (m 94 10).toInt ≤ 6 := rs_94_10 (m := m) hV
  have b2 := i_bd s
  try have gwr := GW_512 r_GW r_WI (by omega) (by omega) (by omega)
  refine sp_198r (s) hV  (fun m1 hV_m1 p0_m1 p1_m1 => zmv_n ?_)
  have p0_m1 : zuw (m 113) (m1 113) := p0_m1
  have p1_m1 : qUn (m 113) (m1 113) s 16 := p1_m1
  try have gw := GW_room r_GW
  try have gwr := GW_512 r_GW r_WI (by omega) (by omega) (by omega)
  have hg3 : (0 ≤ s ∧ s.toNatClampNeg < 3100) := i_ix (by omega) (by omega)
  refine ⟨hg3, ?_⟩
  have f4 : 0 ≤ (m 94 55).toInt ∧ (m 94 55).toInt ≤ 3100 := rs_94_55 (m := m) hV
  try have gw := GW_room r_GW
  try have gwr := GW_512 r_GW r_WI (by omega) (by omega) (by omega)
  have hg5 : (0 ≤ (m 94 55) ∧ (m 94 55).toNatClampNeg < 3100) := i_ix (by omega) (by omega)
  refine ⟨hg5, ?_⟩
  have li6 : (4 : Int32).toInt = 4 := rfl
  refine zd (fun (h7 : (m 94 10) = (4 : Int32)) => ?_) (fun (h7 : ¬ (m 94 10) = (4 : Int32)) => ?_)
  · skip
    have g8 := i_eq h7
    have hg9 : (0 ≤ s ∧ s.toNatClampNeg < 3100) := i_ix (by omega) (by omega)
    refine ⟨hg9, ?_⟩
    have hg10 : (0 ≤ s ∧ s.toNatClampNeg < 3100) := i_ix (by omega) (by omega)
    refine ⟨hg10, ?_⟩
    try have gwr := GW_512 r_GW r_WI (by omega) (by omega) (by omega)
    have li12 : (0 : Int32).toInt = 0 := rfl
    have hV11 : zV (ma_u (zov wr_198 m m1) 109 s.toNatClampNeg (0 : Int32)) := ua_109 hV_m1 (by omega) (by omega)
    have hV13 : zV (ma_u (ma_u (zov wr_198 m m1) 109 s.toNatClampNeg (0 : Int32)) 114 (m 94 55).toNatClampNeg s) := ua_114 hV11 (by omega) (by omega)
    first | have e15 : ((m 94 55) + (1 : Int32)).toInt = (m 94 55).toInt + (1) := i_addk rfl (by omega) (by omega) | have b16 := i_bd ((m 94 55) + (1 : Int32))
    have hV14 : zV (ma_u (ma_u (ma_u (zov wr_198 m m1) 109 s.toNatClampNeg (0 : Int32)) 114 (m 94 55).toNatClampNeg s) 94 55 ((m 94 55) + (1 : Int32))) := us_94_55 hV13 (by omega) (by omega)
    have hV17 : zV (ma_u (ma_u (ma_u (ma_u (zov wr_198 m m1) 109 s.toNatClampNeg (0 : Int32)) 114 (m 94 55).toNatClampNeg s) 94 55 ((m 94 55) + (1 : Int32))) 105 s.toNatClampNeg ((m 105 s.toNatClampNeg) + (1 : Int32))) := ua_105 hV14
    exact K _ (zF_u (zF_u (zF_u (zF_u (zF_zov zF_rfl ws_198_197) rfl) rfl) rfl) rfl) hV17 (show zGW T ((m 94 55) + (1 : Int32)) ((ma_u m 109 s.toNatClampNeg (0 : Int32)) 109) from by first | (exact GW_take r_GW r_WI (by omega) (by omega)) | (exfalso; omega; done) | (exfalso; contradiction; done)) p0_m1 (show zwx (m 114) ((ma_u m 114 (m 94 55).toNatClampNeg s) 114) (m 94 55) s from by first | (exact ⟨fun k hk => mu_ne (by rw [tn_eq]; omega), mu_self⟩) | (exfalso; omega; done) | (exfalso; contradiction; done)) (show ((m 94 55) + (1 : Int32)).toInt = (m 94 55).toInt + 1 from by omega) (show qRB (m 99) (m 100) (m 98) (m 101) (m 102) (m 103) (m 107) (m 108) ((ma_u m 109 s.toNatClampNeg (0 : Int32)) 109) (m 111) (m 112) (m1 113) ((ma_u m 114 (m 94 55).toNatClampNeg s) 114) ((m 94 55) + (1 : Int32)) (m 94 46) ro fo le ra pi (aGr aa ((m 100) s.toNatClampNeg)) from by first | (exact RB_gr r_RB (by omega) (by omega) r_USs p1_m1 (by omega) (by omega)) | (exfalso; omega; done) | (exfalso; contradiction; done)) (show qI (aGr aa ((m 100) s.toNatClampNeg)) from by first | (exact I_gr r_QI (by rw [r_RB.2.2.2.2.1.1]; omega)) | (exfalso; omega; done) | (exfalso; contradiction; done))
  · skip
    have g18 := i_ne h7
    try have gwr := GW_512 r_GW r_WI (by omega) (by omega) (by omega)
    have li20 : (0 : Int32).toInt = 0 := rfl
    have hV19 : zV (ma_u (zov wr_198 m m1) 109 s.toNatClampNeg (0 : Int32)) := ua_109 hV_m1 (by omega) (by omega)
    have hV21 : zV (ma_u (ma_u (zov wr_198 m m1) 109 s.toNatClampNeg (0 : Int32)) 114 (m 94 55).toNatClampNeg s) := ua_114 hV19 (by omega) (by omega)
    first | have e23 : ((m 94 55) + (1 : Int32)).toInt = (m 94 55).toInt + (1) := i_addk rfl (by omega) (by omega) | have b24 := i_bd ((m 94 55) + (1 : Int32))
    have hV22 : zV (ma_u (ma_u (ma_u (zov wr_198 m m1) 109 s.toNatClampNeg (0 : Int32)) 114 (m 94 55).toNatClampNeg s) 94 55 ((m 94 55) + (1 : Int32))) := us_94_55 hV21 (by omega) (by omega)
    exact K _ (zF_u (zF_u (zF_u (zF_zov zF_rfl ws_198_197) rfl) rfl) rfl) hV22 (show zGW T ((m 94 55) + (1 : Int32)) ((ma_u m 109 s.toNatClampNeg (0 : Int32)) 109) from by first | (exact GW_take r_GW r_WI (by omega) (by omega)) | (exfalso; omega; done) | (exfalso; contradiction; done)) p0_m1 (show zwx (m 114) ((ma_u m 114 (m 94 55).toNatClampNeg s) 114) (m 94 55) s from by first | (exact ⟨fun k hk => mu_ne (by rw [tn_eq]; omega), mu_self⟩) | (exfalso; omega; done) | (exfalso; contradiction; done)) (show ((m 94 55) + (1 : Int32)).toInt = (m 94 55).toInt + 1 from by omega) (show qRB (m 99) (m 100) (m 98) (m 101) (m 102) (m 103) (m 107) (m 108) ((ma_u m 109 s.toNatClampNeg (0 : Int32)) 109) (m 111) (m 112) (m1 113) ((ma_u m 114 (m 94 55).toNatClampNeg s) 114) ((m 94 55) + (1 : Int32)) (m 94 46) ro fo le ra pi (aGr aa ((m 100) s.toNatClampNeg)) from by first | (exact RB_gr r_RB (by omega) (by omega) r_USs p1_m1 (by omega) (by omega)) | (exfalso; omega; done) | (exfalso; contradiction; done)) (show qI (aGr aa ((m 100) s.toNatClampNeg)) from by first | (exact I_gr r_QI (by rw [r_RB.2.2.2.2.1.1]; omega)) | (exfalso; omega; done) | (exfalso; contradiction; done))

/-! from 95.r02 -/
/-! the reference where it moves (written by wip/tools/gen15r.py) -/
set_option maxHeartbeats 8000000 in
theorem lp_194rm_9 {X : Nat × (Nat → Int32)} {P : Option ma_V → (Nat → Nat → Int32) → Prop} {T : Nat} {aa : Nat→Nat→Int32} {ro : Int32} {fo : Int32} {le : Int32} {ra : Int32} {pi : Int32} {m0 : Nat → Nat → Int32} (h0 : zV m0) (K : ∀ m₉, zF wr_194 m0 m₉ → zV m₉ → ((m₉ 94 73).toInt = 0) → (zGW T (m₉ 94 55) (m₉ 109)) → (zuw (m0 113) (m₉ 113)) → (qRB (m₉ 99) (m₉ 100) (m₉ 98) (m₉ 101) (m₉ 102) (m₉ 103) (m₉ 107) (m₉ 108) (m₉ 109) (m₉ 111) (m₉ 112) (m₉ 113) (m₉ 114) (m₉ 94 55) (m₉ 94 46) ro fo le ra pi (aGw aa 0)) → (qI (aGw aa 0)) → (qKB (m₉ 110) (m₉ 99) (m₉ 100) (aGw aa 0)) → (qE0 (aGw aa 0)) → (qCl (aGw aa 0)) → P none m₉) : ∀ (n : Nat) (m : Nat → Nat → Int32) (l2 : Int32), ((zmg (m 100) l2 : Int)).toNat = n → zF wr_194 m0 m → zV m → (T ≤ 512) → ((m 94 10).toInt ≠ 4) → ((m 94 73).toInt = 0) → (zWS (m 100) (m 99) (m 110) (m 109) (-1 : Int32) l2) → (zW (m 94 7) (m 98) (m 101) (m 102) (m 108)) → (zGW T (m 94 55) (m 109)) → (zuw (m0 113) (m 113)) → (qGL (m 99) (m 100) (m 98) (m 101) (m 102) (m 103) (m 107) (m 108) (m 109) (m 111) (m 112) (m 113) (m 114) (m 94 55) (m 94 46) ro fo le ra pi (m 110) l2 (aGw aa 0)) → zm X 3 66 194 9 [(0, .inr (.inr (some 94))), (2, .inl l2)] m P := by
  intro n
  induction n using Nat.strongRecOn with
  | _ n IH =>
    intro m l2 hmu hF hV hi0 hi1 hi2 r_WS r_W r_GW r_UW r_GL
    refine g_194_9 l2 ?_
    have f1 : 0 ≤ (m 94 10).toInt ∧ (m 94 10).toInt ≤ 6 := rs_94_10 (m := m) hV
    have f2 : 0 ≤ (m 94 73).toInt ∧ (m 94 73).toInt ≤ 3100 := rs_94_73 (m := m) hV
    obtain ⟨b, lst, gRB, gKB, gE0, gQI, gCL, gl, gMn, gT⟩ := r_GL
    have gb6 := gQI.2.2.2.1.1
    have b3 := i_bd l2
    have li4 : (0 : Int32).toInt = 0 := rfl
    refine zd (fun (h5 : l2 < (0 : Int32)) => ?_) (fun (h5 : ¬ l2 < (0 : Int32)) => ?_)
    · skip
      have g6 := i_lt h5
      try have gw := GW_room r_GW
      try have ws0 := WS_ge r_WS (by omega)
      exact K _ hF hV (show (m 94 73).toInt = 0 from by omega) r_GW r_UW (show qRB (m 99) (m 100) (m 98) (m 101) (m 102) (m 103) (m 107) (m 108) (m 109) (m 111) (m 112) (m 113) (m 114) (m 94 55) (m 94 46) ro fo le ra pi (aGw aa 0) from by first | (have e0 := GL_end gRB gQI gKB gl.1 gl.2 gMn (by omega) gT; rw [← e0]; exact gRB; done) | (exfalso; omega; done) | (exfalso; contradiction; done)) (show qI (aGw aa 0) from by first | (have e0 := GL_end gRB gQI gKB gl.1 gl.2 gMn (by omega) gT; rw [← e0]; exact gQI; done) | (exfalso; omega; done) | (exfalso; contradiction; done)) (show qKB (m 110) (m 99) (m 100) (aGw aa 0) from by first | (have e0 := GL_end gRB gQI gKB gl.1 gl.2 gMn (by omega) gT; rw [← e0]; exact gKB; done) | (exfalso; omega; done) | (exfalso; contradiction; done)) (show qE0 (aGw aa 0) from by first | (have e0 := GL_end gRB gQI gKB gl.1 gl.2 gMn (by omega) gT; rw [← e0]; exact gE0; done) | (exfalso; omega; done) | (exfalso; contradiction; done)) (show qCl (aGw aa 0) from by first | (have e0 := GL_end gRB gQI gKB gl.1 gl.2 gMn (by omega) gT; rw [← e0]; exact gCL; done) | (exfalso; omega; done) | (exfalso; contradiction; done))
    · skip
      have g7 := i_nlt h5
      try obtain ⟨ws1, ws2, ws3, ws4, ws5, ws6⟩ := WS_ge r_WS (by omega)
      have hg8 : (0 ≤ l2 ∧ l2.toNatClampNeg < 3100) := i_ix (by omega) (by omega)
      refine ⟨hg8, ?_⟩
      try have ws0 := WS_ge r_WS (by omega)
      refine sp_197rm (aa := b) (l2) hV (by omega) (by omega) (by omega) (show (m 94 10).toInt ≠ 4 from by omega) (show (m 109) l2.toNatClampNeg ≠ 0 from by first | (exact ws5) | (exact ws0.2.2.2.2.1) | (assumption; done) | (exfalso; omega; done) | (exfalso; contradiction; done)) (show (m 99) l2.toNatClampNeg ≠ 0 from by first | (exact ws3) | (exact ws0.2.2.1) | (assumption; done) | (exact ws3) | (exfalso; omega; done) | (exfalso; contradiction; done)) r_GW gRB gQI (fun m1 hV_m1 p0_m1 p1_m1 p2_m1 p3_m1 p4_m1 p5_m1 => zmv_n ?_)
      have p0_m1 : zGW T (m1 94 55) (m1 109) := p0_m1
      have p1_m1 : zuw (m 113) (m1 113) := p1_m1
      have p2_m1 : zwx (m 114) (m1 114) (m 94 55) l2 := p2_m1
      have p3_m1 : (m1 94 55).toInt = (m 94 55).toInt + 1 := p3_m1
      have p4_m1 : qRB (m 99) (m 100) (m 98) (m 101) (m 102) (m 103) (m 107) (m 108) (m1 109) (m 111) (m 112) (m1 113) (m1 114) (m1 94 55) (m 94 46) ro fo le ra pi (aGr b ((m 100) l2.toNatClampNeg)) := p4_m1
      have p5_m1 : qI (aGr b ((m 100) l2.toNatClampNeg)) := p5_m1
      have f9 : 0 ≤ (m1 94 55).toInt ∧ (m1 94 55).toInt ≤ 3100 := rs_94_55 (m := (zov wr_197 m m1)) hV_m1
      have f10 : 0 ≤ (m 94 55).toInt ∧ (m 94 55).toInt ≤ 3100 := rs_94_55 (m := m) hV
      refine zd (fun (h11 : l2 < (0 : Int32)) => ?_) (fun (h11 : ¬ l2 < (0 : Int32)) => ?_)
      · skip
        have g12 := i_lt h11
        try have ws0 := WS_ge r_WS (by omega)
        refine sp_191rm (aa := (aGr b (m 100 l2.toNatClampNeg))) (QQ := (qQ (aGr b (m 100 l2.toNatClampNeg)) (m 100 l2.toNatClampNeg))) (DD := (zNn (aGr b (m 100 l2.toNatClampNeg))))  hV_m1 (show zKS (m 110) (m 94 73) from by first | (exact KS_0 (by omega)) | (exfalso; omega; done) | (exfalso; contradiction; done)) r_W (show qRB (m 99) (m 100) (m 98) (m 101) (m 102) (m 103) (m 107) (m 108) (m1 109) (m 111) (m 112) (m1 113) (m1 114) (m1 94 55) (m 94 46) ro fo le ra pi (aGr b (m 100 l2.toNatClampNeg)) from by first | (exact p4_m1) | (exfalso; omega; done) | (exfalso; contradiction; done)) (show qQC (m 99) (m 100) (m 98) (m 101) (m 102) (m 108) (qQ (aGr b (m 100 l2.toNatClampNeg)) (m 100 l2.toNatClampNeg)) (zNn (aGr b (m 100 l2.toNatClampNeg))) from by first | (exact QC_M p4_m1) | (exfalso; omega; done) | (exfalso; contradiction; done)) (show qKA (m 110) (m 99) (m 100) (m 98) (m 101) (m 102) (m 108) (m 118) (m 94 73) (qQ (aGr b (m 100 l2.toNatClampNeg)) (m 100 l2.toNatClampNeg)) (zNn (aGr b (m 100 l2.toNatClampNeg))) 3100 0 from by first | (exact absurd ws0.2.2.2.1 (by assumption)) | (exact KA_push (KA_b (KB_gr gKB) (by omega)) (by omega) (by omega) ws0.2.2.1 (zM_in (Or.inr rfl)) (by assumption) (by omega) (by omega) (by decide)) | (exfalso; omega; done) | (exfalso; contradiction; done)) (fun m3 hV_m3 p0_m3 p1_m3 p2_m3 => zmv_n ?_)
        have p0_m3 : (m3 94 73).toInt = 0 := p0_m3
        have p1_m3 : zle (m 110) (m3 110) := p1_m3
        have p2_m3 : qKA (m3 110) (m 99) (m 100) (m 98) (m 101) (m 102) (m 108) (m3 118) (m3 94 73) (qQ (aGr b (m 100 l2.toNatClampNeg)) (m 100 l2.toNatClampNeg)) (zNn (aGr b (m 100 l2.toNatClampNeg))) 3100 0 := p2_m3
        have f13 : 0 ≤ (m3 94 73).toInt ∧ (m3 94 73).toInt ≤ 3100 := rs_94_73 (m := (zov wr_191 (zov wr_197 m m1) m3)) hV_m3
        first | have f14 : 0 ≤ (m 100 l2.toNatClampNeg).toInt ∧ (m 100 l2.toNatClampNeg).toInt ≤ 100000 := ra_100 (m := m) hV (k := l2.toNatClampNeg) (i_ix (n := 3100) (by omega) (by omega)).2 | have b15 := i_bd (m 100 l2.toNatClampNeg)
        try have ws0 := WS_ge r_WS (by omega)
        refine sp_195r ((m 100 l2.toNatClampNeg)) ((0 : Int32)) hV_m3 (by omega) (fun v6 m5 hV_m5 p0_m5 p1_m5 => zmi_n ?_)
        have p0_m5 : zWS (m 100) (m 99) (m3 110) (m1 109) (m 100 l2.toNatClampNeg) v6 := p0_m5
        have p1_m5 : qMin (qCw (m 99) (m3 110) (m1 109) (m 100) (m 100 l2.toNatClampNeg)) (m 100) v6 3100 := p1_m5
        try have gw := GW_room p0_m1
        try have ws0 := WS_ge r_WS (by omega)
        have b16 := i_bd v6
        exact IH ((zmg (m 100) v6 : Int)).toNat (by have zq := zmg_lt (s := l2) (by omega) p0_m5 rfl (by omega) (by omega); omega) _ (v6) rfl (zF_zov (zF_zov (zF_zov hF ws_197_194) ws_191_194) ws_195_194) hV_m5 (by omega) (show (m 94 10).toInt ≠ 4 from by omega) (show (m3 94 73).toInt = 0 from by omega) (show zWS (m 100) (m 99) (m3 110) (m1 109) (-1 : Int32) v6 from by first | (exact WS_weak p0_m5 (by omega)) | (exact p0_m5) | (exact Or.inl (by decide)) | (exact Or.inr ⟨by omega, by omega, by assumption, by assumption, by assumption, by omega⟩) | (exfalso; omega; done) | (exfalso; contradiction; done)) r_W p0_m1 (show zuw (m0 113) (m1 113) from by first | (exact zuw_tr r_UW p1_m1) | (exact zuw_rfl) | (exfalso; omega; done) | (exfalso; contradiction; done)) (show qGL (m 99) (m 100) (m 98) (m 101) (m 102) (m 103) (m 107) (m 108) (m1 109) (m 111) (m 112) (m1 113) (m1 114) (m1 94 55) (m 94 46) ro fo le ra pi (m3 110) v6 (aGw aa 0) from by first | (exact absurd ws0.2.2.2.1 (by assumption)) | (have nx := GL_nx gRB gQI gE0 gKB gl.1 gl.2 gMn (by omega) gT; have b5 : (b 69 5).toInt < 512 := (by rw [gRB.2.2.2.2.1.1]; exact GW_512 r_GW ws0.2.2.2.2.1 (by omega) (by omega) (by omega)); exact ⟨(aSp 512 (aCm (aGr b (m 100 l2.toNatClampNeg)) (m 100 l2.toNatClampNeg))), (m 100 l2.toNatClampNeg), RB_of p4_m1 (Of_tr (gr_cm (y := (m 100 l2.toNatClampNeg)) (E0_gr (y := (m 100 l2.toNatClampNeg)) gE0).1).2.1 (E0_sp (gr_cm (y := (m 100 l2.toNatClampNeg)) (E0_gr (y := (m 100 l2.toNatClampNeg)) gE0).1).1).2), KB_nx p4_m1 (KB_gr gKB) (E0_gr gE0) (by omega) (by omega) ws0.2.2.1 p2_m3 (by omega) p1_m3 (by decide), (E0_sp (gr_cm (y := (m 100 l2.toNatClampNeg)) (E0_gr (y := (m 100 l2.toNatClampNeg)) gE0).1).1).1, qI_of p5_m1 (Of_tr (gr_cm (y := (m 100 l2.toNatClampNeg)) (E0_gr (y := (m 100 l2.toNatClampNeg)) gE0).1).2.1 (E0_sp (gr_cm (y := (m 100 l2.toNatClampNeg)) (E0_gr (y := (m 100 l2.toNatClampNeg)) gE0).1).1).2), Cl_nx gCL gE0 b5 gQI.2.2.2.1.2.1.1 (R1_al gRB.1 (by omega) ws0.2.2.1) (by omega), ⟨nx.2.2, by rw [sp_6]; exact nx.2.1⟩, p1_m5, nx.1⟩; done) | (exfalso; omega; done) | (exfalso; contradiction; done))
      · skip
        have g17 := i_nlt h11
        have hg18 : (0 ≤ l2 ∧ l2.toNatClampNeg < 3100) := i_ix (by omega) (by omega)
        refine ⟨hg18, ?_⟩
        first | have f19 : 0 ≤ (m 110 l2.toNatClampNeg).toInt ∧ (m 110 l2.toNatClampNeg).toInt ≤ 1 := ra_110 (m := m) hV (k := l2.toNatClampNeg) (i_ix (n := 3100) (by omega) (by omega)).2 | have b20 := i_bd (m 110 l2.toNatClampNeg)
        refine zd (fun (h21 : (m 110 l2.toNatClampNeg) = (0 : Int32)) => ?_) (fun (h21 : ¬ (m 110 l2.toNatClampNeg) = (0 : Int32)) => ?_)
        · skip
          have g22 := i_eq h21
          have hg23 : (0 ≤ l2 ∧ l2.toNatClampNeg < 3100) := i_ix (by omega) (by omega)
          refine ⟨hg23, ?_⟩
          have hg24 : (0 ≤ (m 94 73) ∧ (m 94 73).toNatClampNeg < 3100) := i_ix (by omega) (by omega)
          refine ⟨hg24, ?_⟩
          have li26 : (1 : Int32).toInt = 1 := rfl
          have hV25 : zV (ma_u (zov wr_197 m m1) 110 l2.toNatClampNeg (1 : Int32)) := ua_110 hV_m1 (by omega) (by omega)
          have hV27 : zV (ma_u (ma_u (zov wr_197 m m1) 110 l2.toNatClampNeg (1 : Int32)) 118 (m 94 73).toNatClampNeg l2) := ua_118 hV25 (by omega) (by omega)
          first | have e29 : ((m 94 73) + (1 : Int32)).toInt = (m 94 73).toInt + (1) := i_addk rfl (by omega) (by omega) | have b30 := i_bd ((m 94 73) + (1 : Int32))
          have hV28 : zV (ma_u (ma_u (ma_u (zov wr_197 m m1) 110 l2.toNatClampNeg (1 : Int32)) 118 (m 94 73).toNatClampNeg l2) 94 73 ((m 94 73) + (1 : Int32))) := us_94_73 hV27 (by omega) (by omega)
          try have ws0 := WS_ge r_WS (by omega)
          refine sp_191rm (aa := (aGr b (m 100 l2.toNatClampNeg))) (QQ := (qQ (aGr b (m 100 l2.toNatClampNeg)) (m 100 l2.toNatClampNeg))) (DD := (zNn (aGr b (m 100 l2.toNatClampNeg))))  hV28 (show zKS ((ma_u m 110 l2.toNatClampNeg (1 : Int32)) 110) ((m 94 73) + (1 : Int32)) from by first | (exact KS_push (KS_0 (r := m 110) (y := m 94 73) (by omega)) (by assumption) (by omega) (by decide) (by assumption)) | (exfalso; omega; done) | (exfalso; contradiction; done)) r_W (show qRB (m 99) (m 100) (m 98) (m 101) (m 102) (m 103) (m 107) (m 108) (m1 109) (m 111) (m 112) (m1 113) (m1 114) (m1 94 55) (m 94 46) ro fo le ra pi (aGr b (m 100 l2.toNatClampNeg)) from by first | (exact p4_m1) | (exfalso; omega; done) | (exfalso; contradiction; done)) (show qQC (m 99) (m 100) (m 98) (m 101) (m 102) (m 108) (qQ (aGr b (m 100 l2.toNatClampNeg)) (m 100 l2.toNatClampNeg)) (zNn (aGr b (m 100 l2.toNatClampNeg))) from by first | (exact QC_M p4_m1) | (exfalso; omega; done) | (exfalso; contradiction; done)) (show qKA ((ma_u m 110 l2.toNatClampNeg (1 : Int32)) 110) (m 99) (m 100) (m 98) (m 101) (m 102) (m 108) ((ma_u m 118 (m 94 73).toNatClampNeg l2) 118) ((m 94 73) + (1 : Int32)) (qQ (aGr b (m 100 l2.toNatClampNeg)) (m 100 l2.toNatClampNeg)) (zNn (aGr b (m 100 l2.toNatClampNeg))) 3100 0 from by first | (exact absurd ws0.2.2.2.1 (by assumption)) | (exact KA_push (KA_b (KB_gr gKB) (by omega)) (by omega) (by omega) ws0.2.2.1 (zM_in (Or.inr rfl)) (by assumption) (by omega) (by omega) (by decide)) | (exfalso; omega; done) | (exfalso; contradiction; done)) (fun m7 hV_m7 p0_m7 p1_m7 p2_m7 => zmv_n ?_)
          have p0_m7 : (m7 94 73).toInt = 0 := p0_m7
          have p1_m7 : zle ((ma_u m 110 l2.toNatClampNeg (1 : Int32)) 110) (m7 110) := p1_m7
          have p2_m7 : qKA (m7 110) (m 99) (m 100) (m 98) (m 101) (m 102) (m 108) (m7 118) (m7 94 73) (qQ (aGr b (m 100 l2.toNatClampNeg)) (m 100 l2.toNatClampNeg)) (zNn (aGr b (m 100 l2.toNatClampNeg))) 3100 0 := p2_m7
          have f31 : 0 ≤ (m7 94 73).toInt ∧ (m7 94 73).toInt ≤ 3100 := rs_94_73 (m := (zov wr_191 (ma_u (ma_u (ma_u (zov wr_197 m m1) 110 l2.toNatClampNeg (1 : Int32)) 118 (m 94 73).toNatClampNeg l2) 94 73 ((m 94 73) + (1 : Int32))) m7)) hV_m7
          first | have f32 : 0 ≤ (m 100 l2.toNatClampNeg).toInt ∧ (m 100 l2.toNatClampNeg).toInt ≤ 100000 := ra_100 (m := m) hV (k := l2.toNatClampNeg) (i_ix (n := 3100) (by omega) (by omega)).2 | have b33 := i_bd (m 100 l2.toNatClampNeg)
          try have ws0 := WS_ge r_WS (by omega)
          refine sp_195r ((m 100 l2.toNatClampNeg)) ((0 : Int32)) hV_m7 (by omega) (fun v10 m9 hV_m9 p0_m9 p1_m9 => zmi_n ?_)
          have p0_m9 : zWS (m 100) (m 99) (m7 110) (m1 109) (m 100 l2.toNatClampNeg) v10 := p0_m9
          have p1_m9 : qMin (qCw (m 99) (m7 110) (m1 109) (m 100) (m 100 l2.toNatClampNeg)) (m 100) v10 3100 := p1_m9
          try have gw := GW_room p0_m1
          try have ws0 := WS_ge r_WS (by omega)
          have b34 := i_bd v10
          exact IH ((zmg (m 100) v10 : Int)).toNat (by have zq := zmg_lt (s := l2) (by omega) p0_m9 rfl (by omega) (by omega); omega) _ (v10) rfl (zF_zov (zF_zov (zF_u (zF_u (zF_u (zF_zov hF ws_197_194) rfl) rfl) rfl) ws_191_194) ws_195_194) hV_m9 (by omega) (show (m 94 10).toInt ≠ 4 from by omega) (show (m7 94 73).toInt = 0 from by omega) (show zWS (m 100) (m 99) (m7 110) (m1 109) (-1 : Int32) v10 from by first | (exact WS_weak p0_m9 (by omega)) | (exact p0_m9) | (exact Or.inl (by decide)) | (exact Or.inr ⟨by omega, by omega, by assumption, by assumption, by assumption, by omega⟩) | (exfalso; omega; done) | (exfalso; contradiction; done)) r_W p0_m1 (show zuw (m0 113) (m1 113) from by first | (exact zuw_tr r_UW p1_m1) | (exact zuw_rfl) | (exfalso; omega; done) | (exfalso; contradiction; done)) (show qGL (m 99) (m 100) (m 98) (m 101) (m 102) (m 103) (m 107) (m 108) (m1 109) (m 111) (m 112) (m1 113) (m1 114) (m1 94 55) (m 94 46) ro fo le ra pi (m7 110) v10 (aGw aa 0) from by first | (exact absurd ws0.2.2.2.1 (by assumption)) | (have nx := GL_nx gRB gQI gE0 gKB gl.1 gl.2 gMn (by omega) gT; have b5 : (b 69 5).toInt < 512 := (by rw [gRB.2.2.2.2.1.1]; exact GW_512 r_GW ws0.2.2.2.2.1 (by omega) (by omega) (by omega)); exact ⟨(aSp 512 (aCm (aGr b (m 100 l2.toNatClampNeg)) (m 100 l2.toNatClampNeg))), (m 100 l2.toNatClampNeg), RB_of p4_m1 (Of_tr (gr_cm (y := (m 100 l2.toNatClampNeg)) (E0_gr (y := (m 100 l2.toNatClampNeg)) gE0).1).2.1 (E0_sp (gr_cm (y := (m 100 l2.toNatClampNeg)) (E0_gr (y := (m 100 l2.toNatClampNeg)) gE0).1).1).2), KB_nx p4_m1 (KB_gr gKB) (E0_gr gE0) (by omega) (by omega) ws0.2.2.1 p2_m7 (by omega) p1_m7 (by decide), (E0_sp (gr_cm (y := (m 100 l2.toNatClampNeg)) (E0_gr (y := (m 100 l2.toNatClampNeg)) gE0).1).1).1, qI_of p5_m1 (Of_tr (gr_cm (y := (m 100 l2.toNatClampNeg)) (E0_gr (y := (m 100 l2.toNatClampNeg)) gE0).1).2.1 (E0_sp (gr_cm (y := (m 100 l2.toNatClampNeg)) (E0_gr (y := (m 100 l2.toNatClampNeg)) gE0).1).1).2), Cl_nx gCL gE0 b5 gQI.2.2.2.1.2.1.1 (R1_al gRB.1 (by omega) ws0.2.2.1) (by omega), ⟨nx.2.2, by rw [sp_6]; exact nx.2.1⟩, p1_m9, nx.1⟩; done) | (exfalso; omega; done) | (exfalso; contradiction; done))
        · skip
          have g35 := i_ne h21
          try have ws0 := WS_ge r_WS (by omega)
          refine sp_191rm (aa := (aGr b (m 100 l2.toNatClampNeg))) (QQ := (qQ (aGr b (m 100 l2.toNatClampNeg)) (m 100 l2.toNatClampNeg))) (DD := (zNn (aGr b (m 100 l2.toNatClampNeg))))  hV_m1 (show zKS (m 110) (m 94 73) from by first | (exact KS_0 (by omega)) | (exfalso; omega; done) | (exfalso; contradiction; done)) r_W (show qRB (m 99) (m 100) (m 98) (m 101) (m 102) (m 103) (m 107) (m 108) (m1 109) (m 111) (m 112) (m1 113) (m1 114) (m1 94 55) (m 94 46) ro fo le ra pi (aGr b (m 100 l2.toNatClampNeg)) from by first | (exact p4_m1) | (exfalso; omega; done) | (exfalso; contradiction; done)) (show qQC (m 99) (m 100) (m 98) (m 101) (m 102) (m 108) (qQ (aGr b (m 100 l2.toNatClampNeg)) (m 100 l2.toNatClampNeg)) (zNn (aGr b (m 100 l2.toNatClampNeg))) from by first | (exact QC_M p4_m1) | (exfalso; omega; done) | (exfalso; contradiction; done)) (show qKA (m 110) (m 99) (m 100) (m 98) (m 101) (m 102) (m 108) (m 118) (m 94 73) (qQ (aGr b (m 100 l2.toNatClampNeg)) (m 100 l2.toNatClampNeg)) (zNn (aGr b (m 100 l2.toNatClampNeg))) 3100 0 from by first | (exact absurd ws0.2.2.2.1 (by assumption)) | (exact KA_push (KA_b (KB_gr gKB) (by omega)) (by omega) (by omega) ws0.2.2.1 (zM_in (Or.inr rfl)) (by assumption) (by omega) (by omega) (by decide)) | (exfalso; omega; done) | (exfalso; contradiction; done)) (fun m11 hV_m11 p0_m11 p1_m11 p2_m11 => zmv_n ?_)
          have p0_m11 : (m11 94 73).toInt = 0 := p0_m11
          have p1_m11 : zle (m 110) (m11 110) := p1_m11
          have p2_m11 : qKA (m11 110) (m 99) (m 100) (m 98) (m 101) (m 102) (m 108) (m11 118) (m11 94 73) (qQ (aGr b (m 100 l2.toNatClampNeg)) (m 100 l2.toNatClampNeg)) (zNn (aGr b (m 100 l2.toNatClampNeg))) 3100 0 := p2_m11
          have f36 : 0 ≤ (m11 94 73).toInt ∧ (m11 94 73).toInt ≤ 3100 := rs_94_73 (m := (zov wr_191 (zov wr_197 m m1) m11)) hV_m11
          first | have f37 : 0 ≤ (m 100 l2.toNatClampNeg).toInt ∧ (m 100 l2.toNatClampNeg).toInt ≤ 100000 := ra_100 (m := m) hV (k := l2.toNatClampNeg) (i_ix (n := 3100) (by omega) (by omega)).2 | have b38 := i_bd (m 100 l2.toNatClampNeg)
          try have ws0 := WS_ge r_WS (by omega)
          refine sp_195r ((m 100 l2.toNatClampNeg)) ((0 : Int32)) hV_m11 (by omega) (fun v14 m13 hV_m13 p0_m13 p1_m13 => zmi_n ?_)
          have p0_m13 : zWS (m 100) (m 99) (m11 110) (m1 109) (m 100 l2.toNatClampNeg) v14 := p0_m13
          have p1_m13 : qMin (qCw (m 99) (m11 110) (m1 109) (m 100) (m 100 l2.toNatClampNeg)) (m 100) v14 3100 := p1_m13
          try have gw := GW_room p0_m1
          try have ws0 := WS_ge r_WS (by omega)
          have b39 := i_bd v14
          exact IH ((zmg (m 100) v14 : Int)).toNat (by have zq := zmg_lt (s := l2) (by omega) p0_m13 rfl (by omega) (by omega); omega) _ (v14) rfl (zF_zov (zF_zov (zF_zov hF ws_197_194) ws_191_194) ws_195_194) hV_m13 (by omega) (show (m 94 10).toInt ≠ 4 from by omega) (show (m11 94 73).toInt = 0 from by omega) (show zWS (m 100) (m 99) (m11 110) (m1 109) (-1 : Int32) v14 from by first | (exact WS_weak p0_m13 (by omega)) | (exact p0_m13) | (exact Or.inl (by decide)) | (exact Or.inr ⟨by omega, by omega, by assumption, by assumption, by assumption, by omega⟩) | (exfalso; omega; done) | (exfalso; contradiction; done)) r_W p0_m1 (show zuw (m0 113) (m1 113) from by first | (exact zuw_tr r_UW p1_m1) | (exact zuw_rfl) | (exfalso; omega; done) | (exfalso; contradiction; done)) (show qGL (m 99) (m 100) (m 98) (m 101) (m 102) (m 103) (m 107) (m 108) (m1 109) (m 111) (m 112) (m1 113) (m1 114) (m1 94 55) (m 94 46) ro fo le ra pi (m11 110) v14 (aGw aa 0) from by first | (exact absurd ws0.2.2.2.1 (by assumption)) | (have nx := GL_nx gRB gQI gE0 gKB gl.1 gl.2 gMn (by omega) gT; have b5 : (b 69 5).toInt < 512 := (by rw [gRB.2.2.2.2.1.1]; exact GW_512 r_GW ws0.2.2.2.2.1 (by omega) (by omega) (by omega)); exact ⟨(aSp 512 (aCm (aGr b (m 100 l2.toNatClampNeg)) (m 100 l2.toNatClampNeg))), (m 100 l2.toNatClampNeg), RB_of p4_m1 (Of_tr (gr_cm (y := (m 100 l2.toNatClampNeg)) (E0_gr (y := (m 100 l2.toNatClampNeg)) gE0).1).2.1 (E0_sp (gr_cm (y := (m 100 l2.toNatClampNeg)) (E0_gr (y := (m 100 l2.toNatClampNeg)) gE0).1).1).2), KB_nx p4_m1 (KB_gr gKB) (E0_gr gE0) (by omega) (by omega) ws0.2.2.1 p2_m11 (by omega) p1_m11 (by decide), (E0_sp (gr_cm (y := (m 100 l2.toNatClampNeg)) (E0_gr (y := (m 100 l2.toNatClampNeg)) gE0).1).1).1, qI_of p5_m1 (Of_tr (gr_cm (y := (m 100 l2.toNatClampNeg)) (E0_gr (y := (m 100 l2.toNatClampNeg)) gE0).1).2.1 (E0_sp (gr_cm (y := (m 100 l2.toNatClampNeg)) (E0_gr (y := (m 100 l2.toNatClampNeg)) gE0).1).1).2), Cl_nx gCL gE0 b5 gQI.2.2.2.1.2.1.1 (R1_al gRB.1 (by omega) ws0.2.2.1) (by omega), ⟨nx.2.2, by rw [sp_6]; exact nx.2.1⟩, p1_m13, nx.1⟩; done) | (exfalso; omega; done) | (exfalso; contradiction; done))
set_option maxHeartbeats 8000000 in
theorem sp_194rm {X : Nat × (Nat → Int32)} {P : Option ma_V → (Nat → Nat → Int32) → Prop} {T : Nat} {aa : Nat→Nat→Int32} {ro : Int32} {fo : Int32} {le : Int32} {ra : Int32} {pi : Int32} {m : Nat → Nat → Int32}  (hV : zV m) (hpre0 : T ≤ 512) (hpre1 : (m 94 10).toInt ≠ 4) (hpre2 : (m 94 73).toInt = 0) (r_W : zW (m 94 7) (m 98) (m 101) (m 102) (m 108)) (r_GW : zGW T (m 94 55) (m 109)) (r_RB : qRB (m 99) (m 100) (m 98) (m 101) (m 102) (m 103) (m 107) (m 108) (m 109) (m 111) (m 112) (m 113) (m 114) (m 94 55) (m 94 46) ro fo le ra pi aa) (r_QI : qI aa) (r_KB : qKB (m 110) (m 99) (m 100) aa) (r_E0 : qE0 aa) (r_CLr : qCl aa) (KZ : ∀ m₉, zV (zov wr_194 m m₉) → ((m₉ 94 73).toInt = 0) → (zGW T (m₉ 94 55) (m₉ 109)) → (zuw (m 113) (m₉ 113)) → (qRB (m 99) (m 100) (m 98) (m 101) (m 102) (m 103) (m 107) (m 108) (m₉ 109) (m 111) (m 112) (m₉ 113) (m₉ 114) (m₉ 94 55) (m 94 46) ro fo le ra pi (aGw aa 0)) → (qI (aGw aa 0)) → (qKB (m₉ 110) (m 99) (m 100) (aGw aa 0)) → (qE0 (aGw aa 0)) → (qCl (aGw aa 0)) → P none (zov wr_194 m m₉)) : zm X 3 66 194 0 [(0, .inr (.inr (some 94)))] m P := by
  have K : ∀ m₉, zF wr_194 m m₉ → zV m₉ → ((m₉ 94 73).toInt = 0) → (zGW T (m₉ 94 55) (m₉ 109)) → (zuw (m 113) (m₉ 113)) → (qRB (m₉ 99) (m₉ 100) (m₉ 98) (m₉ 101) (m₉ 102) (m₉ 103) (m₉ 107) (m₉ 108) (m₉ 109) (m₉ 111) (m₉ 112) (m₉ 113) (m₉ 114) (m₉ 94 55) (m₉ 94 46) ro fo le ra pi (aGw aa 0)) → (qI (aGw aa 0)) → (qKB (m₉ 110) (m₉ 99) (m₉ 100) (aGw aa 0)) → (qE0 (aGw aa 0)) → (qCl (aGw aa 0)) → P none m₉ := by
    intro m₉ hf z q0 q1 q2 q3 q4 q5 q6 q7
    have e := zov_eq hf
    rw [e] at z ⊢
    try rw [e] at q0
    try rw [e] at q1
    try rw [e] at q2
    try rw [e] at q3
    try rw [e] at q4
    try rw [e] at q5
    try rw [e] at q6
    try rw [e] at q7
    exact KZ m₉ z q0 q1 q2 q3 q4 q5 q6 q7
  refine g_194_0  ?_
  have f1 : 0 ≤ (m 94 10).toInt ∧ (m 94 10).toInt ≤ 6 := rs_94_10 (m := m) hV
  have f2 : 0 ≤ (m 94 73).toInt ∧ (m 94 73).toInt ≤ 3100 := rs_94_73 (m := m) hV
  have li3 : (-1 : Int32).toInt = -1 := rfl
  have li4 : (0 : Int32).toInt = 0 := rfl
  try have ws0 := WS_ge r_WS (by omega)
  refine sp_195r ((-1 : Int32)) ((0 : Int32)) hV (by omega) (fun v2 m1 hV_m1 p0_m1 p1_m1 => zmi_n ?_)
  have p0_m1 : zWS (m 100) (m 99) (m 110) (m 109) (-1 : Int32) v2 := p0_m1
  have p1_m1 : qMin (qCw (m 99) (m 110) (m 109) (m 100) (-1 : Int32)) (m 100) v2 3100 := p1_m1
  try have gw := GW_room r_GW
  try have ws0 := WS_ge r_WS (by omega)
  have b5 := i_bd v2
  exact lp_194rm_9 hV K _ _ (v2) rfl (zF_zov zF_rfl ws_195_194) hV_m1 (by omega) (show (m 94 10).toInt ≠ 4 from by omega) (show (m 94 73).toInt = 0 from by omega) p0_m1 r_W r_GW (show zuw (m 113) (m 113) from by first | (exact zuw_rfl) | (exact zuw_rfl) | (exfalso; omega; done) | (exfalso; contradiction; done)) (show qGL (m 99) (m 100) (m 98) (m 101) (m 102) (m 103) (m 107) (m 108) (m 109) (m 111) (m 112) (m 113) (m 114) (m 94 55) (m 94 46) ro fo le ra pi (m 110) v2 (aGw aa 0) from by first | (exact ⟨aa, -1, r_RB, r_KB, r_E0, r_QI, r_CLr, ⟨by decide, by have := r_QI.2.2.2.1.1.1; have e1 : (-1 : Int32).toInt = -1 := rfl; omega⟩, p1_m1, rfl⟩) | (exfalso; omega; done) | (exfalso; contradiction; done))
theorem sp_187rm {X : Nat × (Nat → Int32)} {P : Option ma_V → (Nat → Nat → Int32) → Prop} {T : Nat} {aa : Nat→Nat→Int32} {ro : Int32} {fo : Int32} {le : Int32} {ra : Int32} {pi : Int32} {m : Nat → Nat → Int32}  (hV : zV m) (hpre0 : T ≤ 512) (r_W : zW (m 94 7) (m 98) (m 101) (m 102) (m 108)) (r_GW : zGW T (m 94 55) (m 109)) (r_GU : zGU T (m 94 46) (m 99)) (r_OW : zOw (m 99) (m 103) (m 111)) (hpre5 : (m 94 10).toInt ≠ 4) (r_RB : qRB (m 99) (m 100) (m 98) (m 101) (m 102) (m 103) (m 107) (m 108) (m 109) (m 111) (m 112) (m 113) (m 114) (m 94 55) (m 94 46) ro fo le ra pi aa) (r_QI : qI aa) (r_WTS : (m 94 45).toInt = sm (zbU (m 99)) (m 102) 3100) (KZ : ∀ v m₉, zV (zov wr_187 m m₉) → (zGW T (m₉ 94 55) (m₉ 109)) → (zGU T (m 94 46) (m₉ 99)) → (zOw (m₉ 99) (m 103) (m₉ 111)) → (qRB (m₉ 99) (m 100) (m 98) (m 101) (m 102) (m 103) (m 107) (m 108) (m₉ 109) (m₉ 111) (m 112) (m₉ 113) (m₉ 114) (m₉ 94 55) (m 94 46) ro fo le ra pi (aSw aa)) → (qI (aSw aa)) → ((m₉ 94 45).toInt = sm (zbU (m₉ 99)) (m 102) 3100) → P (some (.inl v)) (zov wr_187 m m₉)) : zm X 4 88 187 0 [(0, .inr (.inr (some 94)))] m P := by
  have K : ∀ v m₉, zF wr_187 m m₉ → zV m₉ → (zGW T (m₉ 94 55) (m₉ 109)) → (zGU T (m₉ 94 46) (m₉ 99)) → (zOw (m₉ 99) (m₉ 103) (m₉ 111)) → (qRB (m₉ 99) (m₉ 100) (m₉ 98) (m₉ 101) (m₉ 102) (m₉ 103) (m₉ 107) (m₉ 108) (m₉ 109) (m₉ 111) (m₉ 112) (m₉ 113) (m₉ 114) (m₉ 94 55) (m₉ 94 46) ro fo le ra pi (aSw aa)) → (qI (aSw aa)) → ((m₉ 94 45).toInt = sm (zbU (m₉ 99)) (m₉ 102) 3100) → P (some (.inl v)) m₉ := by
    intro v m₉ hf z q0 q1 q2 q3 q4 q5
    have e := zov_eq hf
    rw [e] at z ⊢
    try rw [e] at q0
    try rw [e] at q1
    try rw [e] at q2
    try rw [e] at q3
    try rw [e] at q4
    try rw [e] at q5
    exact KZ v m₉ z q0 q1 q2 q3 q4 q5
  refine g_187_0  ?_
  have f1 : 0 ≤ (m 94 10).toInt ∧ (m 94 10).toInt ≤ 6 := rs_94_10 (m := m) hV
  have hV2 : zV (ma_u m 94 47 ((m 94 47) + (1 : Int32))) := uf_94_47 hV
  refine sp_188rm (aa := aa)  hV2 r_W r_RB r_QI (fun m1 hV_m1 p0_m1 p1_m1 p2_m1 => zmv_n ?_)
  have p0_m1 : (m1 94 73).toInt = 0 := p0_m1
  have p1_m1 : ∀ s, s < 3100 → (m 99) s ≠ 0 → ((m1 110) s ≠ 0 ↔ zRch aa ((m 100) s).toNatClampNeg) := p1_m1
  have p2_m1 : ∀ s, s < 3100 → (m1 110) s ≠ 0 → (m 99) s ≠ 0 := p2_m1
  have f3 : 0 ≤ (m1 94 73).toInt ∧ (m1 94 73).toInt ≤ 3100 := rs_94_73 (m := (zov wr_188 (ma_u m 94 47 ((m 94 47) + (1 : Int32))) m1)) hV_m1
  refine sp_194rm (aa := (aRA aa))  hV_m1 (by omega) (show (m 94 10).toInt ≠ 4 from by omega) (show (m1 94 73).toInt = 0 from by omega) r_W r_GW (show qRB (m 99) (m 100) (m 98) (m 101) (m 102) (m 103) (m 107) (m 108) (m 109) (m 111) (m 112) (m 113) (m 114) (m 94 55) (m 94 46) ro fo le ra pi (aRA aa) from by first | (exact RB_of r_RB RA_zo) | (exfalso; omega; done) | (exfalso; contradiction; done)) (show qI (aRA aa) from by first | (exact qI_of r_QI RA_zo) | (exfalso; omega; done) | (exfalso; contradiction; done)) (show qKB (m1 110) (m 99) (m 100) (aRA aa) from by first | (exact KB_ra r_QI p2_m1 p1_m1) | (exfalso; omega; done) | (exfalso; contradiction; done)) (show qE0 (aRA aa) from by first | (exact E0_ra r_QI) | (exfalso; omega; done) | (exfalso; contradiction; done)) (show qCl (aRA aa) from by first | (exact Cl_ra r_QI) | (exfalso; omega; done) | (exfalso; contradiction; done)) (fun m3 hV_m3 p0_m3 p1_m3 p2_m3 p3_m3 p4_m3 p5_m3 p6_m3 p7_m3 => zmv_n ?_)
  have p0_m3 : (m3 94 73).toInt = 0 := p0_m3
  have p1_m3 : zGW T (m3 94 55) (m3 109) := p1_m3
  have p2_m3 : zuw (m 113) (m3 113) := p2_m3
  have p3_m3 : qRB (m 99) (m 100) (m 98) (m 101) (m 102) (m 103) (m 107) (m 108) (m3 109) (m 111) (m 112) (m3 113) (m3 114) (m3 94 55) (m 94 46) ro fo le ra pi (aGw (aRA aa) 0) := p3_m3
  have p4_m3 : qI (aGw (aRA aa) 0) := p4_m3
  have p5_m3 : qKB (m3 110) (m 99) (m 100) (aGw (aRA aa) 0) := p5_m3
  have p6_m3 : qE0 (aGw (aRA aa) 0) := p6_m3
  have p7_m3 : qCl (aGw (aRA aa) 0) := p7_m3
  have f4 : 0 ≤ (m3 94 73).toInt ∧ (m3 94 73).toInt ≤ 3100 := rs_94_73 (m := (zov wr_194 (zov wr_188 (ma_u m 94 47 ((m 94 47) + (1 : Int32))) m1) m3)) hV_m3
  refine sp_199r  hV_m3  (fun m5 hV_m5 p0_m5 p1_m5 => zmv_n ?_)
  have p0_m5 : zuw (m3 113) (m5 113) := p0_m5
  have p1_m5 : qUr (m3 113) (m5 113) (m3 110) 16 := p1_m5
  refine sp_200rn  hV_m5 (show (m 94 10).toInt ≠ 4 from by omega) r_W r_GU r_OW r_WTS (fun v8 m7 hV_m7 p0_m7 p1_m7 p2_m7 p3_m7 p4_m7 => zmi_n ?_)
  have p0_m7 : zrm (m 99) (m7 99) (m3 110) 3100 := p0_m7
  have p1_m7 : zowr (m 111) (m7 111) (m 99) (m3 110) (m 103) := p1_m7
  have p2_m7 : zGU T (m 94 46) (m7 99) := p2_m7
  have p3_m7 : zOw (m7 99) (m 103) (m7 111) := p3_m7
  have p4_m7 : (m7 94 45).toInt = sm (zbU (m7 99)) (m 102) 3100 := p4_m7
  have b5 := i_bd v8
  exact K (v8) _ (zF_zov (zF_zov (zF_zov (zF_zov (zF_u zF_rfl rfl) ws_188_187) ws_194_187) ws_199_187) ws_200_187) hV_m7 p1_m3 p2_m7 p3_m7 (show qRB (m7 99) (m 100) (m 98) (m 101) (m 102) (m 103) (m 107) (m 108) (m3 109) (m7 111) (m 112) (m5 113) (m3 114) (m3 94 55) (m 94 46) ro fo le ra pi (aSw aa) from by first | (exact RB_mv p3_m3 p4_m3 p5_m3 (CK_of p7_m3 p3_m3 p5_m3) p6_m3.1.2.2.2.2.2.1 p1_m5 p0_m7 p1_m7) | (exfalso; omega; done) | (exfalso; contradiction; done)) (show qI (aSw aa) from by first | (exact I_mv p4_m3 p6_m3.1.2.2.2.2.2.1) | (exfalso; omega; done) | (exfalso; contradiction; done)) p4_m7
theorem sp_240rm {X : Nat × (Nat → Int32)} {P : Option ma_V → (Nat → Nat → Int32) → Prop} {aa : Nat→Nat→Int32} {ro : Int32} {fo : Int32} {le : Int32} {ra : Int32} {pi : Int32} {m : Nat → Nat → Int32} (wa : Int32) (is : Int32) (hV : zV m) (hpre0 : ((m 94 10).toInt = 1 ∨ (m 94 10).toInt = 2 ∨ (m 94 10).toInt = 3 ∨ (m 94 10).toInt = 6) ∧ (m 94 58).toInt = 0) (hpre1 : -1 ≤ wa.toInt) (hpre2 : wa.toInt ≤ 3099) (hpre3 : -1 ≤ is.toInt) (hpre4 : is.toInt ≤ 3099) (r_GG : zGG (m 94 58) (m 94 56) (m 94 57) (m 106)) (r_RB : qRB (m 99) (m 100) (m 98) (m 101) (m 102) (m 103) (m 107) (m 108) (m 109) (m 111) (m 112) (m 113) (m 114) (m 94 55) (m 94 46) ro fo le ra pi aa) (r_QI : qI aa) (r_MK : aa 87 8 = (m 94 58)) (r_UA : qU (m 99) wa) (r_UB : qU (m 99) is) (r_MQG : qGQ (m 94 58) (m 106) (m 115) (m 94 57) (m 94 56) (m 99) (m 100) aa) (KZ : ∀ m₉, zV (zov wr_240 m m₉) → (zGG (m 94 58) (m₉ 94 56) (m 94 57) (m₉ 106)) → (qRB (m 99) (m 100) (m 98) (m 101) (m 102) (m 103) (m 107) (m 108) (m 109) (m 111) (m 112) (m 113) (m 114) (m 94 55) (m 94 46) ro fo le ra pi (aNc aa (qNo (m 100) wa) (qNo (m 100) is))) → (qI (aNc aa (qNo (m 100) wa) (qNo (m 100) is))) → ((aNc aa (qNo (m 100) wa) (qNo (m 100) is)) 87 8 = (m 94 58)) → (qGQ (m 94 58) (m₉ 106) (m₉ 115) (m 94 57) (m₉ 94 56) (m 99) (m 100) (aNc aa (qNo (m 100) wa) (qNo (m 100) is))) → P none (zov wr_240 m m₉)) : zm X 1 21 240 0 [(0, .inr (.inr (some 94))), (1, .inl wa), (2, .inl is)] m P := by
  have K : ∀ m₉, zF wr_240 m m₉ → zV m₉ → (zGG (m₉ 94 58) (m₉ 94 56) (m₉ 94 57) (m₉ 106)) → (qRB (m₉ 99) (m₉ 100) (m₉ 98) (m₉ 101) (m₉ 102) (m₉ 103) (m₉ 107) (m₉ 108) (m₉ 109) (m₉ 111) (m₉ 112) (m₉ 113) (m₉ 114) (m₉ 94 55) (m₉ 94 46) ro fo le ra pi (aNc aa (qNo (m₉ 100) wa) (qNo (m₉ 100) is))) → (qI (aNc aa (qNo (m₉ 100) wa) (qNo (m₉ 100) is))) → ((aNc aa (qNo (m₉ 100) wa) (qNo (m₉ 100) is)) 87 8 = (m₉ 94 58)) → (qGQ (m₉ 94 58) (m₉ 106) (m₉ 115) (m₉ 94 57) (m₉ 94 56) (m₉ 99) (m₉ 100) (aNc aa (qNo (m₉ 100) wa) (qNo (m₉ 100) is))) → P none m₉ := by
    intro m₉ hf z q0 q1 q2 q3 q4
    have e := zov_eq hf
    rw [e] at z ⊢
    try rw [e] at q0
    try rw [e] at q1
    try rw [e] at q2
    try rw [e] at q3
    try rw [e] at q4
    exact KZ m₉ z q0 q1 q2 q3 q4
  refine g_240_0 wa is ?_
  have f1 : 0 ≤ (m 94 10).toInt ∧ (m 94 10).toInt ≤ 6 := rs_94_10 (m := m) hV
  have f2 : 0 ≤ (m 94 58).toInt ∧ (m 94 58).toInt ≤ 1 := rs_94_58 (m := m) hV
  have li3 : (5 : Int32).toInt = 5 := rfl
  refine zd (fun (h4 : (m 94 10) = (5 : Int32)) => ?_) (fun (h4 : ¬ (m 94 10) = (5 : Int32)) => ?_)
  · skip
    have g5 := i_eq h4
    exfalso; omega
  · skip
    have g6 := i_ne h4
    exact K _ zF_rfl hV r_GG (show qRB (m 99) (m 100) (m 98) (m 101) (m 102) (m 103) (m 107) (m 108) (m 109) (m 111) (m 112) (m 113) (m 114) (m 94 55) (m 94 46) ro fo le ra pi (aNc aa (qNo (m 100) wa) (qNo (m 100) is)) from by first | (exact RB_of r_RB NC_of) | (exfalso; omega; done) | (exfalso; contradiction; done)) (show qI (aNc aa (qNo (m 100) wa) (qNo (m 100) is)) from by first | (exact qI_of r_QI NC_of) | (exfalso; omega; done) | (exfalso; contradiction; done)) (show (aNc aa (qNo (m 100) wa) (qNo (m 100) is)) 87 8 = (m 94 58) from by first | (exact (NC_of 87 8 (by decide) (by decide) (by decide)).symm.trans r_MK) | (exfalso; omega; done) | (exfalso; contradiction; done)) (show qGQ (m 94 58) (m 106) (m 115) (m 94 57) (m 94 56) (m 99) (m 100) (aNc aa (qNo (m 100) wa) (qNo (m 100) is)) from by first | (exact fun z => absurd (by omega) z) | (rw [show wa = is from by assumption, NC_s]; exact r_MQG; done) | (exact fun z => NC_skip r_RB (r_MQG z) (fun w => absurd (r_MK.symm.trans w) (by assumption)) r_UA r_UB (by omega) (by omega) (by assumption) (if_pos (by assumption)).symm (Or.inl (by omega))) | (exact fun z => NC_skip r_RB (r_MQG z) (fun w => absurd (r_MK.symm.trans w) (by assumption)) r_UA r_UB (by omega) (by omega) (by assumption) (if_pos (by assumption)).symm (Or.inr (by assumption))) | (exact fun z => NC_skip r_RB (r_MQG z) (fun w => absurd (r_MK.symm.trans w) (by assumption)) r_UA r_UB (by omega) (by omega) (by assumption) (if_neg (by assumption)).symm (Or.inl (by omega))) | (exact fun z => NC_skip r_RB (r_MQG z) (fun w => absurd (r_MK.symm.trans w) (by assumption)) r_UA r_UB (by omega) (by omega) (by assumption) (if_neg (by assumption)).symm (Or.inr (by assumption))) | (exfalso; omega; done) | (exfalso; contradiction; done))
theorem sp_241rm {X : Nat × (Nat → Int32)} {P : Option ma_V → (Nat → Nat → Int32) → Prop} {m : Nat → Nat → Int32} (s : Int32) (hV : zV m) (hpre0 : ((m 94 10).toInt = 1 ∨ (m 94 10).toInt = 2 ∨ (m 94 10).toInt = 3 ∨ (m 94 10).toInt = 6) ∧ (m 94 58).toInt = 0) (KZ : ∀ m₉, zV (zov wr_241 m m₉) → ((m₉ 99) = (m 99) ∧ (m₉ 105) = (m 105) ∧ (m₉ 109) = (m 109) ∧ (m₉ 111) = (m 111) ∧ (m₉ 113) = (m 113) ∧ (m₉ 114) = (m 114) ∧ (m₉ 94 55) = (m 94 55) ∧ (m₉ 94 45) = (m 94 45)) → P none (zov wr_241 m m₉)) : zm X 3 64 241 0 [(0, .inr (.inr (some 94))), (1, .inl s)] m P := by
  have K : ∀ m₉, zF wr_241 m m₉ → zV m₉ → ((m₉ 99) = (m 99) ∧ (m₉ 105) = (m 105) ∧ (m₉ 109) = (m 109) ∧ (m₉ 111) = (m 111) ∧ (m₉ 113) = (m 113) ∧ (m₉ 114) = (m 114) ∧ (m₉ 94 55) = (m 94 55) ∧ (m₉ 94 45) = (m 94 45)) → P none m₉ := by
    intro m₉ hf z q0
    have e := zov_eq hf
    rw [e] at z ⊢
    try rw [e] at q0
    exact KZ m₉ z q0
  refine g_241_0 s ?_
  have f1 : 0 ≤ (m 94 10).toInt ∧ (m 94 10).toInt ≤ 6 := rs_94_10 (m := m) hV
  have f2 : 0 ≤ (m 94 58).toInt ∧ (m 94 58).toInt ≤ 1 := rs_94_58 (m := m) hV
  have b3 := i_bd s
  have li4 : (0 : Int32).toInt = 0 := rfl
  refine zd (fun (h5 : s < (0 : Int32)) => ?_) (fun (h5 : ¬ s < (0 : Int32)) => ?_)
  · skip
    have g6 := i_lt h5
    exact K _ zF_rfl hV (show (m 99) = (m 99) ∧ (m 105) = (m 105) ∧ (m 109) = (m 109) ∧ (m 111) = (m 111) ∧ (m 113) = (m 113) ∧ (m 114) = (m 114) ∧ (m 94 55) = (m 94 55) ∧ (m 94 45) = (m 94 45) from by first | (exact ⟨rfl, rfl, rfl, rfl, rfl, rfl, rfl, rfl⟩) | (exfalso; omega; done) | (exfalso; contradiction; done))
  · skip
    have g7 := i_nlt h5
    have li8 : (4 : Int32).toInt = 4 := rfl
    refine zd (fun (h9 : (m 94 10) = (4 : Int32)) => ?_) (fun (h9 : ¬ (m 94 10) = (4 : Int32)) => ?_)
    · skip
      have g10 := i_eq h9
      exfalso; omega
    · skip
      have g11 := i_ne h9
      exact K _ zF_rfl hV (show (m 99) = (m 99) ∧ (m 105) = (m 105) ∧ (m 109) = (m 109) ∧ (m 111) = (m 111) ∧ (m 113) = (m 113) ∧ (m 114) = (m 114) ∧ (m 94 55) = (m 94 55) ∧ (m 94 45) = (m 94 45) from by first | (exact ⟨rfl, rfl, rfl, rfl, rfl, rfl, rfl, rfl⟩) | (exfalso; omega; done) | (exfalso; contradiction; done))

/-! from 95.r03 -/
/-! the reference where it moves (written by wip/tools/gen15r.py) -/
theorem sp_238rm {X : Nat × (Nat → Int32)} {P : Option ma_V → (Nat → Nat → Int32) → Prop} {T : Nat} {aa : Nat→Nat→Int32} {ro : Int32} {fo : Int32} {le : Int32} {ra : Int32} {pi : Int32} {m : Nat → Nat → Int32} (r1 : Int32) (s : Int32) (hV : zV m) (hpre0 : 0 ≤ r1.toInt) (hpre1 : r1.toInt ≤ 15) (hpre2 : -1 ≤ s.toInt) (hpre3 : s.toInt ≤ 3099) (hpre4 : ((m 94 10).toInt = 1 ∨ (m 94 10).toInt = 2 ∨ (m 94 10).toInt = 3 ∨ (m 94 10).toInt = 6) ∧ (m 94 58).toInt = 0) (r_W : zW (m 94 7) (m 98) (m 101) (m 102) (m 108)) (r_GW : zGW T (m 94 55) (m 109)) (r_GU : zGU T (m 94 46) (m 99)) (r_OW : zOw (m 99) (m 103) (m 111)) (r_GG : zGG (m 94 58) (m 94 56) (m 94 57) (m 106)) (r_RB : qRB (m 99) (m 100) (m 98) (m 101) (m 102) (m 103) (m 107) (m 108) (m 109) (m 111) (m 112) (m 113) (m 114) (m 94 55) (m 94 46) ro fo le ra pi aa) (r_QI : qI aa) (r_MG : qMG (m 94 58) (m 106) (m 115) (m 94 57) (m 94 56) (m 99) (m 100) aa) (r_MK : aa 87 8 = (m 94 58)) (r_WTS : (m 94 45).toInt = sm (zbU (m 99)) (m 102) 3100) (r_US : qU (m 99) s) (r_MS : qMS (m 94 58) aa (qNo (m 100) s)) (KZ : ∀ m₉, zV (zov wr_238 m m₉) → (zGW T (m₉ 94 55) (m₉ 109)) → (zGU T (m 94 46) (m₉ 99)) → (zOw (m₉ 99) (m 103) (m₉ 111)) → (zGG (m 94 58) (m₉ 94 56) (m 94 57) (m₉ 106)) → (qRB (m₉ 99) (m 100) (m 98) (m 101) (m 102) (m 103) (m 107) (m 108) (m₉ 109) (m₉ 111) (m₉ 112) (m₉ 113) (m₉ 114) (m₉ 94 55) (m 94 46) ro fo le ra pi (aRt aa r1 (qNo (m 100) s))) → (qI (aRt aa r1 (qNo (m 100) s))) → (qMG (m 94 58) (m₉ 106) (m₉ 115) (m 94 57) (m₉ 94 56) (m₉ 99) (m 100) (aRt aa r1 (qNo (m 100) s))) → ((aRt aa r1 (qNo (m 100) s)) 87 8 = (m 94 58)) → ((m₉ 94 45).toInt = sm (zbU (m₉ 99)) (m 102) 3100) → P none (zov wr_238 m m₉)) : zm X 4 88 238 0 [(0, .inr (.inr (some 94))), (1, .inl r1), (2, .inl s)] m P := by
  have K : ∀ m₉, zF wr_238 m m₉ → zV m₉ → (zGW T (m₉ 94 55) (m₉ 109)) → (zGU T (m₉ 94 46) (m₉ 99)) → (zOw (m₉ 99) (m₉ 103) (m₉ 111)) → (zGG (m₉ 94 58) (m₉ 94 56) (m₉ 94 57) (m₉ 106)) → (qRB (m₉ 99) (m₉ 100) (m₉ 98) (m₉ 101) (m₉ 102) (m₉ 103) (m₉ 107) (m₉ 108) (m₉ 109) (m₉ 111) (m₉ 112) (m₉ 113) (m₉ 114) (m₉ 94 55) (m₉ 94 46) ro fo le ra pi (aRt aa r1 (qNo (m₉ 100) s))) → (qI (aRt aa r1 (qNo (m₉ 100) s))) → (qMG (m₉ 94 58) (m₉ 106) (m₉ 115) (m₉ 94 57) (m₉ 94 56) (m₉ 99) (m₉ 100) (aRt aa r1 (qNo (m₉ 100) s))) → ((aRt aa r1 (qNo (m₉ 100) s)) 87 8 = (m₉ 94 58)) → ((m₉ 94 45).toInt = sm (zbU (m₉ 99)) (m₉ 102) 3100) → P none m₉ := by
    intro m₉ hf z q0 q1 q2 q3 q4 q5 q6 q7 q8
    have e := zov_eq hf
    rw [e] at z ⊢
    try rw [e] at q0
    try rw [e] at q1
    try rw [e] at q2
    try rw [e] at q3
    try rw [e] at q4
    try rw [e] at q5
    try rw [e] at q6
    try rw [e] at q7
    try rw [e] at q8
    exact KZ m₉ z q0 q1 q2 q3 q4 q5 q6 q7 q8
  refine g_238_0 r1 s ?_
  have f1 : 0 ≤ (m 94 10).toInt ∧ (m 94 10).toInt ≤ 6 := rs_94_10 (m := m) hV
  have f2 : 0 ≤ (m 94 58).toInt ∧ (m 94 58).toInt ≤ 1 := rs_94_58 (m := m) hV
  have b3 := i_bd r1
  have hg4 : (0 ≤ r1 ∧ r1.toNatClampNeg < 16) := i_ix (by omega) (by omega)
  refine ⟨hg4, ?_⟩
  have b5 := i_bd s
  have li6 : (0 : Int32).toInt = 0 := rfl
  refine zd (fun (h7 : s < (0 : Int32)) => ?_) (fun (h7 : ¬ s < (0 : Int32)) => ?_)
  · skip
    have g8 := i_lt h7
    have hg9 : (0 ≤ r1 ∧ r1.toNatClampNeg < 16) := i_ix (by omega) (by omega)
    refine ⟨hg9, ?_⟩
    first | have f10 : -1 ≤ (m 112 r1.toNatClampNeg).toInt ∧ (m 112 r1.toNatClampNeg).toInt ≤ 3099 := ra_112 (m := m) hV (k := r1.toNatClampNeg) (i_ix (n := 16) (by omega) (by omega)).2 | have b11 := i_bd (m 112 r1.toNatClampNeg)
    have hV12 : zV (ma_u m 112 r1.toNatClampNeg s) := ua_112 hV (by omega) (by omega)
    refine sp_240rm (aa := (ma_u aa 72 r1.toNatClampNeg (qNo (m 100) s))) ((m 112 r1.toNatClampNeg)) (s) hV12 (show ((m 94 10).toInt = 1 ∨ (m 94 10).toInt = 2 ∨ (m 94 10).toInt = 3 ∨ (m 94 10).toInt = 6) ∧ (m 94 58).toInt = 0 from by omega) (by omega) (by omega) (by omega) (by omega) r_GG (show qRB (m 99) (m 100) (m 98) (m 101) (m 102) (m 103) (m 107) (m 108) (m 109) (m 111) ((ma_u m 112 r1.toNatClampNeg s) 112) (m 113) (m 114) (m 94 55) (m 94 46) ro fo le ra pi (ma_u aa 72 r1.toNatClampNeg (qNo (m 100) s)) from by first | (exact RB_rt r_RB r_US) | (exfalso; omega; done) | (exfalso; contradiction; done)) (show qI (ma_u aa 72 r1.toNatClampNeg (qNo (m 100) s)) from by first | (exact I_u r_QI (Or.inl rfl)) | (exfalso; omega; done) | (exfalso; contradiction; done)) (show (ma_u aa 72 r1.toNatClampNeg (qNo (m 100) s)) 87 8 = (m 94 58) from by first | (exact (xu_o (by decide)).trans r_MK) | (rw [un (by decide)]; exact r_MK; done) | (exfalso; omega; done) | (exfalso; contradiction; done)) (show qU (m 99) (m 112 r1.toNatClampNeg) from by first | (exact (r_RB.2.2.1 r1.toNatClampNeg (by omega)).1) | (exfalso; omega; done) | (exfalso; contradiction; done)) (show qU (m 99) s from by first | (exact r_US) | (exfalso; omega; done) | (exfalso; contradiction; done)) (show qGQ (m 94 58) (m 106) (m 115) (m 94 57) (m 94 56) (m 99) (m 100) (ma_u aa 72 r1.toNatClampNeg (qNo (m 100) s)) from by first | (exact fun z => MQ_u (r_MG z).1 (by decide)) | (exfalso; omega; done) | (exfalso; contradiction; done)) (fun m1 hV_m1 p0_m1 p1_m1 p2_m1 p3_m1 p4_m1 => zmv_n ?_)
    have p0_m1 : zGG (m 94 58) (m1 94 56) (m 94 57) (m1 106) := p0_m1
    have p1_m1 : qRB (m 99) (m 100) (m 98) (m 101) (m 102) (m 103) (m 107) (m 108) (m 109) (m 111) ((ma_u m 112 r1.toNatClampNeg s) 112) (m 113) (m 114) (m 94 55) (m 94 46) ro fo le ra pi (aNc (ma_u aa 72 r1.toNatClampNeg (qNo (m 100) s)) (qNo (m 100) (m 112 r1.toNatClampNeg)) (qNo (m 100) s)) := p1_m1
    have p2_m1 : qI (aNc (ma_u aa 72 r1.toNatClampNeg (qNo (m 100) s)) (qNo (m 100) (m 112 r1.toNatClampNeg)) (qNo (m 100) s)) := p2_m1
    have p3_m1 : (aNc (ma_u aa 72 r1.toNatClampNeg (qNo (m 100) s)) (qNo (m 100) (m 112 r1.toNatClampNeg)) (qNo (m 100) s)) 87 8 = (m 94 58) := p3_m1
    have p4_m1 : qGQ (m 94 58) (m1 106) (m1 115) (m 94 57) (m1 94 56) (m 99) (m 100) (aNc (ma_u aa 72 r1.toNatClampNeg (qNo (m 100) s)) (qNo (m 100) (m 112 r1.toNatClampNeg)) (qNo (m 100) s)) := p4_m1
    refine sp_241rm ((m 112 r1.toNatClampNeg)) hV_m1 (show ((m 94 10).toInt = 1 ∨ (m 94 10).toInt = 2 ∨ (m 94 10).toInt = 3 ∨ (m 94 10).toInt = 6) ∧ (m 94 58).toInt = 0 from by omega) (fun m3 hV_m3 p0_m3 => zmv_n ?_)
    have p0_m3 : (m3 99) = (m 99) ∧ (m3 105) = (m 105) ∧ (m3 109) = (m 109) ∧ (m3 111) = (m 111) ∧ (m3 113) = (m 113) ∧ (m3 114) = (m 114) ∧ (m3 94 55) = (m 94 55) ∧ (m3 94 45) = (m 94 45) := p0_m3
    try have rgb := rs_94_64 hV
    try have lel := LE_lo p0_m3
    try have lex3 := LE_ex p0_m3 (lexi (by omega))
    try have lexi := LE_some p0_m3
    exact K _ (zF_zov (zF_zov (zF_u zF_rfl rfl) ws_240_238) ws_241_238) hV_m3 (show zGW T (m3 94 55) (m3 109) from by first | (rw [p0_m3.2.2.1, p0_m3.2.2.2.2.2.2.1]; exact r_GW; done) | (exfalso; omega; done) | (exfalso; contradiction; done)) (show zGU T (m 94 46) (m3 99) from by first | (rw [p0_m3.1]; exact r_GU; done) | (exact GU_0 r_GU) | (exfalso; omega; done) | (exfalso; contradiction; done)) (show zOw (m3 99) (m 103) (m3 111) from by first | (rw [p0_m3.1, p0_m3.2.2.2.1]; exact r_OW; done) | (exact Ow_rm r_OW (by decide) (tn_cast (by omega)).symm) | (exfalso; omega; done) | (exfalso; contradiction; done)) p0_m1 (show qRB (m3 99) (m 100) (m 98) (m 101) (m 102) (m 103) (m 107) (m 108) (m3 109) (m3 111) ((ma_u m 112 r1.toNatClampNeg s) 112) (m3 113) (m3 114) (m3 94 55) (m 94 46) ro fo le ra pi (aRt aa r1 (qNo (m 100) s)) from by first | (rw [(show aRt aa r1 (qNo (m 100) s) = aNc (ma_u aa 72 r1.toNatClampNeg (qNo (m 100) s)) (qNo (m 100) (m 112 r1.toNatClampNeg)) (qNo (m 100) s) from by unfold aRt; rw [Nm_no r_RB.1 r_US, (r_RB.2.2.1 r1.toNatClampNeg (by omega)).2]), p0_m3.1, p0_m3.2.2.1, p0_m3.2.2.2.1, p0_m3.2.2.2.2.1, p0_m3.2.2.2.2.2.1, p0_m3.2.2.2.2.2.2.1]; exact p1_m1; done) | (exfalso; omega; done) | (exfalso; contradiction; done)) (show qI (aRt aa r1 (qNo (m 100) s)) from by first | (rw [(show aRt aa r1 (qNo (m 100) s) = aNc (ma_u aa 72 r1.toNatClampNeg (qNo (m 100) s)) (qNo (m 100) (m 112 r1.toNatClampNeg)) (qNo (m 100) s) from by unfold aRt; rw [Nm_no r_RB.1 r_US, (r_RB.2.2.1 r1.toNatClampNeg (by omega)).2])]; exact p2_m1; done) | (exfalso; omega; done) | (exfalso; contradiction; done)) (show qMG (m 94 58) (m1 106) (m1 115) (m 94 57) (m1 94 56) (m3 99) (m 100) (aRt aa r1 (qNo (m 100) s)) from by first | (rw [(show aRt aa r1 (qNo (m 100) s) = aNc (ma_u aa 72 r1.toNatClampNeg (qNo (m 100) s)) (qNo (m 100) (m 112 r1.toNatClampNeg)) (qNo (m 100) s) from by unfold aRt; rw [Nm_no r_RB.1 r_US, (r_RB.2.2.1 r1.toNatClampNeg (by omega)).2]), p0_m3.1]; exact fun z => ⟨p4_m1 z, MI_rt (r_MG z).2 (r_MG z).1.2.2.2.2 (r_MS z)⟩; done) | (exfalso; omega; done) | (exfalso; contradiction; done)) (show (aRt aa r1 (qNo (m 100) s)) 87 8 = (m 94 58) from by first | (rw [(show aRt aa r1 (qNo (m 100) s) = aNc (ma_u aa 72 r1.toNatClampNeg (qNo (m 100) s)) (qNo (m 100) (m 112 r1.toNatClampNeg)) (qNo (m 100) s) from by unfold aRt; rw [Nm_no r_RB.1 r_US, (r_RB.2.2.1 r1.toNatClampNeg (by omega)).2])]; exact p3_m1; done) | (exfalso; omega; done) | (exfalso; contradiction; done)) (show (m3 94 45).toInt = sm (zbU (m3 99)) (m 102) 3100 from by first | (rw [p0_m3.1, p0_m3.2.2.2.2.2.2.2]; exact r_WTS; done) | (exfalso; omega; done) | (exfalso; contradiction; done))
  · skip
    have g13 := i_nlt h7
    have li14 : (4 : Int32).toInt = 4 := rfl
    refine zd (fun (h15 : (m 94 10) = (4 : Int32)) => ?_) (fun (h15 : ¬ (m 94 10) = (4 : Int32)) => ?_)
    · skip
      have g16 := i_eq h15
      exfalso; omega
    · skip
      have g17 := i_ne h15
      have hg18 : (0 ≤ r1 ∧ r1.toNatClampNeg < 16) := i_ix (by omega) (by omega)
      refine ⟨hg18, ?_⟩
      first | have f19 : -1 ≤ (m 112 r1.toNatClampNeg).toInt ∧ (m 112 r1.toNatClampNeg).toInt ≤ 3099 := ra_112 (m := m) hV (k := r1.toNatClampNeg) (i_ix (n := 16) (by omega) (by omega)).2 | have b20 := i_bd (m 112 r1.toNatClampNeg)
      have hV21 : zV (ma_u m 112 r1.toNatClampNeg s) := ua_112 hV (by omega) (by omega)
      refine sp_240rm (aa := (ma_u aa 72 r1.toNatClampNeg (qNo (m 100) s))) ((m 112 r1.toNatClampNeg)) (s) hV21 (show ((m 94 10).toInt = 1 ∨ (m 94 10).toInt = 2 ∨ (m 94 10).toInt = 3 ∨ (m 94 10).toInt = 6) ∧ (m 94 58).toInt = 0 from by omega) (by omega) (by omega) (by omega) (by omega) r_GG (show qRB (m 99) (m 100) (m 98) (m 101) (m 102) (m 103) (m 107) (m 108) (m 109) (m 111) ((ma_u m 112 r1.toNatClampNeg s) 112) (m 113) (m 114) (m 94 55) (m 94 46) ro fo le ra pi (ma_u aa 72 r1.toNatClampNeg (qNo (m 100) s)) from by first | (exact RB_rt r_RB r_US) | (exfalso; omega; done) | (exfalso; contradiction; done)) (show qI (ma_u aa 72 r1.toNatClampNeg (qNo (m 100) s)) from by first | (exact I_u r_QI (Or.inl rfl)) | (exfalso; omega; done) | (exfalso; contradiction; done)) (show (ma_u aa 72 r1.toNatClampNeg (qNo (m 100) s)) 87 8 = (m 94 58) from by first | (exact (xu_o (by decide)).trans r_MK) | (rw [un (by decide)]; exact r_MK; done) | (exfalso; omega; done) | (exfalso; contradiction; done)) (show qU (m 99) (m 112 r1.toNatClampNeg) from by first | (exact (r_RB.2.2.1 r1.toNatClampNeg (by omega)).1) | (exfalso; omega; done) | (exfalso; contradiction; done)) (show qU (m 99) s from by first | (exact r_US) | (exfalso; omega; done) | (exfalso; contradiction; done)) (show qGQ (m 94 58) (m 106) (m 115) (m 94 57) (m 94 56) (m 99) (m 100) (ma_u aa 72 r1.toNatClampNeg (qNo (m 100) s)) from by first | (exact fun z => MQ_u (r_MG z).1 (by decide)) | (exfalso; omega; done) | (exfalso; contradiction; done)) (fun m5 hV_m5 p0_m5 p1_m5 p2_m5 p3_m5 p4_m5 => zmv_n ?_)
      have p0_m5 : zGG (m 94 58) (m5 94 56) (m 94 57) (m5 106) := p0_m5
      have p1_m5 : qRB (m 99) (m 100) (m 98) (m 101) (m 102) (m 103) (m 107) (m 108) (m 109) (m 111) ((ma_u m 112 r1.toNatClampNeg s) 112) (m 113) (m 114) (m 94 55) (m 94 46) ro fo le ra pi (aNc (ma_u aa 72 r1.toNatClampNeg (qNo (m 100) s)) (qNo (m 100) (m 112 r1.toNatClampNeg)) (qNo (m 100) s)) := p1_m5
      have p2_m5 : qI (aNc (ma_u aa 72 r1.toNatClampNeg (qNo (m 100) s)) (qNo (m 100) (m 112 r1.toNatClampNeg)) (qNo (m 100) s)) := p2_m5
      have p3_m5 : (aNc (ma_u aa 72 r1.toNatClampNeg (qNo (m 100) s)) (qNo (m 100) (m 112 r1.toNatClampNeg)) (qNo (m 100) s)) 87 8 = (m 94 58) := p3_m5
      have p4_m5 : qGQ (m 94 58) (m5 106) (m5 115) (m 94 57) (m5 94 56) (m 99) (m 100) (aNc (ma_u aa 72 r1.toNatClampNeg (qNo (m 100) s)) (qNo (m 100) (m 112 r1.toNatClampNeg)) (qNo (m 100) s)) := p4_m5
      refine sp_241rm ((m 112 r1.toNatClampNeg)) hV_m5 (show ((m 94 10).toInt = 1 ∨ (m 94 10).toInt = 2 ∨ (m 94 10).toInt = 3 ∨ (m 94 10).toInt = 6) ∧ (m 94 58).toInt = 0 from by omega) (fun m7 hV_m7 p0_m7 => zmv_n ?_)
      have p0_m7 : (m7 99) = (m 99) ∧ (m7 105) = (m 105) ∧ (m7 109) = (m 109) ∧ (m7 111) = (m 111) ∧ (m7 113) = (m 113) ∧ (m7 114) = (m 114) ∧ (m7 94 55) = (m 94 55) ∧ (m7 94 45) = (m 94 45) := p0_m7
      try have rgb := rs_94_64 hV
      try have lel := LE_lo p0_m7
      try have lex3 := LE_ex p0_m7 (lexi (by omega))
      try have lexi := LE_some p0_m7
      exact K _ (zF_zov (zF_zov (zF_u zF_rfl rfl) ws_240_238) ws_241_238) hV_m7 (show zGW T (m7 94 55) (m7 109) from by first | (rw [p0_m7.2.2.1, p0_m7.2.2.2.2.2.2.1]; exact r_GW; done) | (exfalso; omega; done) | (exfalso; contradiction; done)) (show zGU T (m 94 46) (m7 99) from by first | (rw [p0_m7.1]; exact r_GU; done) | (exact GU_0 r_GU) | (exfalso; omega; done) | (exfalso; contradiction; done)) (show zOw (m7 99) (m 103) (m7 111) from by first | (rw [p0_m7.1, p0_m7.2.2.2.1]; exact r_OW; done) | (exact Ow_rm r_OW (by decide) (tn_cast (by omega)).symm) | (exfalso; omega; done) | (exfalso; contradiction; done)) p0_m5 (show qRB (m7 99) (m 100) (m 98) (m 101) (m 102) (m 103) (m 107) (m 108) (m7 109) (m7 111) ((ma_u m 112 r1.toNatClampNeg s) 112) (m7 113) (m7 114) (m7 94 55) (m 94 46) ro fo le ra pi (aRt aa r1 (qNo (m 100) s)) from by first | (rw [(show aRt aa r1 (qNo (m 100) s) = aNc (ma_u aa 72 r1.toNatClampNeg (qNo (m 100) s)) (qNo (m 100) (m 112 r1.toNatClampNeg)) (qNo (m 100) s) from by unfold aRt; rw [Nm_no r_RB.1 r_US, (r_RB.2.2.1 r1.toNatClampNeg (by omega)).2]), p0_m7.1, p0_m7.2.2.1, p0_m7.2.2.2.1, p0_m7.2.2.2.2.1, p0_m7.2.2.2.2.2.1, p0_m7.2.2.2.2.2.2.1]; exact p1_m5; done) | (exfalso; omega; done) | (exfalso; contradiction; done)) (show qI (aRt aa r1 (qNo (m 100) s)) from by first | (rw [(show aRt aa r1 (qNo (m 100) s) = aNc (ma_u aa 72 r1.toNatClampNeg (qNo (m 100) s)) (qNo (m 100) (m 112 r1.toNatClampNeg)) (qNo (m 100) s) from by unfold aRt; rw [Nm_no r_RB.1 r_US, (r_RB.2.2.1 r1.toNatClampNeg (by omega)).2])]; exact p2_m5; done) | (exfalso; omega; done) | (exfalso; contradiction; done)) (show qMG (m 94 58) (m5 106) (m5 115) (m 94 57) (m5 94 56) (m7 99) (m 100) (aRt aa r1 (qNo (m 100) s)) from by first | (rw [(show aRt aa r1 (qNo (m 100) s) = aNc (ma_u aa 72 r1.toNatClampNeg (qNo (m 100) s)) (qNo (m 100) (m 112 r1.toNatClampNeg)) (qNo (m 100) s) from by unfold aRt; rw [Nm_no r_RB.1 r_US, (r_RB.2.2.1 r1.toNatClampNeg (by omega)).2]), p0_m7.1]; exact fun z => ⟨p4_m5 z, MI_rt (r_MG z).2 (r_MG z).1.2.2.2.2 (r_MS z)⟩; done) | (exfalso; omega; done) | (exfalso; contradiction; done)) (show (aRt aa r1 (qNo (m 100) s)) 87 8 = (m 94 58) from by first | (rw [(show aRt aa r1 (qNo (m 100) s) = aNc (ma_u aa 72 r1.toNatClampNeg (qNo (m 100) s)) (qNo (m 100) (m 112 r1.toNatClampNeg)) (qNo (m 100) s) from by unfold aRt; rw [Nm_no r_RB.1 r_US, (r_RB.2.2.1 r1.toNatClampNeg (by omega)).2])]; exact p3_m5; done) | (exfalso; omega; done) | (exfalso; contradiction; done)) (show (m7 94 45).toInt = sm (zbU (m7 99)) (m 102) 3100 from by first | (rw [p0_m7.1, p0_m7.2.2.2.2.2.2.2]; exact r_WTS; done) | (exfalso; omega; done) | (exfalso; contradiction; done))

/-! from 95.r04 -/
/-! the reference where it moves (written by wip/tools/gen15r.py) -/
theorem sp_244rm {X : Nat × (Nat → Int32)} {P : Option ma_V → (Nat → Nat → Int32) → Prop} {T : Nat} {aa : Nat→Nat→Int32} {ro : Int32} {fo : Int32} {le : Int32} {ra : Int32} {pi : Int32} {m : Nat → Nat → Int32} (ob : Int32) (ix : Int32) (va : Int32) (hV : zV m) (hpre0 : T ≤ 512) (r_W : zW (m 94 7) (m 98) (m 101) (m 102) (m 108)) (r_GW : zGW T (m 94 55) (m 109)) (r_GU : zGU T (m 94 46) (m 99)) (r_OW : zOw (m 99) (m 103) (m 111)) (r_GG : zGG (m 94 58) (m 94 56) (m 94 57) (m 106)) (hpre6 : ((m 94 10).toInt = 1 ∨ (m 94 10).toInt = 2 ∨ (m 94 10).toInt = 3 ∨ (m 94 10).toInt = 6) ∧ (m 94 58).toInt = 0) (hpre7 : (m 94 8).toInt = 1) (r_RB : qRB (m 99) (m 100) (m 98) (m 101) (m 102) (m 103) (m 107) (m 108) (m 109) (m 111) (m 112) (m 113) (m 114) (m 94 55) (m 94 46) ro fo le ra pi aa) (r_QI : qI aa) (r_MG : qMG (m 94 58) (m 106) (m 115) (m 94 57) (m 94 56) (m 99) (m 100) aa) (r_MK : aa 87 8 = (m 94 58)) (r_WTS : (m 94 45).toInt = sm (zbU (m 99)) (m 102) 3100) (KZ : ∀ v m₉, zV (zov wr_244 m m₉) → (zW (m 94 7) (m 98) (m 101) (m 102) (m₉ 108)) → (zGW T (m 94 55) (m 109)) → (zGU T (m 94 46) (m 99)) → (zOw (m 99) (m 103) (m 111)) → (zGG (m 94 58) (m 94 56) (m 94 57) (m 106)) → (qRB (m 99) (m 100) (m 98) (m 101) (m 102) (m 103) (m 107) (m₉ 108) (m 109) (m 111) (m 112) (m 113) (m 114) (m 94 55) (m 94 46) ro fo le ra pi (xPu aa ob ix va)) → (qI (xPu aa ob ix va)) → (qMG (m 94 58) (m 106) (m 115) (m 94 57) (m 94 56) (m 99) (m 100) (xPu aa ob ix va)) → ((xPu aa ob ix va) 87 8 = (m 94 58)) → ((m 94 45).toInt = sm (zbU (m 99)) (m 102) 3100) → P (some (.inl v)) (zov wr_244 m m₉)) : zm X 5 109 244 0 [(0, .inr (.inr (some 94))), (1, .inl ob), (2, .inl ix), (3, .inl va)] m P := by
  have K : ∀ v m₉, zF wr_244 m m₉ → zV m₉ → (zW (m₉ 94 7) (m₉ 98) (m₉ 101) (m₉ 102) (m₉ 108)) → (zGW T (m₉ 94 55) (m₉ 109)) → (zGU T (m₉ 94 46) (m₉ 99)) → (zOw (m₉ 99) (m₉ 103) (m₉ 111)) → (zGG (m₉ 94 58) (m₉ 94 56) (m₉ 94 57) (m₉ 106)) → (qRB (m₉ 99) (m₉ 100) (m₉ 98) (m₉ 101) (m₉ 102) (m₉ 103) (m₉ 107) (m₉ 108) (m₉ 109) (m₉ 111) (m₉ 112) (m₉ 113) (m₉ 114) (m₉ 94 55) (m₉ 94 46) ro fo le ra pi (xPu aa ob ix va)) → (qI (xPu aa ob ix va)) → (qMG (m₉ 94 58) (m₉ 106) (m₉ 115) (m₉ 94 57) (m₉ 94 56) (m₉ 99) (m₉ 100) (xPu aa ob ix va)) → ((xPu aa ob ix va) 87 8 = (m₉ 94 58)) → ((m₉ 94 45).toInt = sm (zbU (m₉ 99)) (m₉ 102) 3100) → P (some (.inl v)) m₉ := by
    intro v m₉ hf z q0 q1 q2 q3 q4 q5 q6 q7 q8 q9
    have e := zov_eq hf
    rw [e] at z ⊢
    try rw [e] at q0
    try rw [e] at q1
    try rw [e] at q2
    try rw [e] at q3
    try rw [e] at q4
    try rw [e] at q5
    try rw [e] at q6
    try rw [e] at q7
    try rw [e] at q8
    try rw [e] at q9
    exact KZ v m₉ z q0 q1 q2 q3 q4 q5 q6 q7 q8 q9
  refine g_244_0 ob ix va ?_
  have f1 : 0 ≤ (m 94 10).toInt ∧ (m 94 10).toInt ≤ 6 := rs_94_10 (m := m) hV
  have f2 : 0 ≤ (m 94 58).toInt ∧ (m 94 58).toInt ≤ 1 := rs_94_58 (m := m) hV
  have f3 : 0 ≤ (m 94 8).toInt ∧ (m 94 8).toInt ≤ 1 := rs_94_8 (m := m) hV
  have li4 : (0 : Int32).toInt = 0 := rfl
  refine zd (fun (h5 : (m 94 8) = (0 : Int32)) => ?_) (fun (h5 : ¬ (m 94 8) = (0 : Int32)) => ?_)
  · skip
    have g6 := i_eq h5
    exfalso; omega
  · skip
    have g7 := i_ne h5
    have b8 := i_bd ob
    have hV9 : zV (ma_u m 94 0 (0 : Int32)) := uf_94_0 hV
    refine sp_245rm (aa := aa) (ob) hV9 r_W r_RB r_QI (fun v2 m1 hV_m1 p0_m1 p1_m1 p2_m1 => zmi_n ?_)
    have p0_m1 : -1 ≤ v2.toInt ∧ v2.toInt ≤ 3099 := p0_m1
    have p1_m1 : v2.toInt < 0 ∨ (m 99) v2.toNatClampNeg ≠ 0 := p1_m1
    have p2_m1 : qRe (m 99) (m 100) aa ob v2 := p2_m1
    have b10 := i_bd v2
    refine zd (fun (h11 : (0 : Int32) ≤ v2) => ?_) (fun (h11 : ¬ (0 : Int32) ≤ v2) => ?_)
    · skip
      have g12 := i_le h11
      have b13 := i_bd ix
      refine zd (fun (h14 : ix < (0 : Int32)) => ?_) (fun (h14 : ¬ ix < (0 : Int32)) => ?_)
      · skip
        have g15 := i_lt h14
        have hV16 : zV (ma_u (zov wr_245 (ma_u m 94 0 (0 : Int32)) m1) 94 0 (3 : Int32)) := uf_94_0 hV_m1
        exact K ((0 : Int32)) _ (zF_u (zF_zov (zF_u zF_rfl rfl) ws_245_244) rfl) hV16 r_W r_GW r_GU r_OW r_GG (show qRB (m 99) (m 100) (m 98) (m 101) (m 102) (m 103) (m 107) (m 108) (m 109) (m 111) (m 112) (m 113) (m 114) (m 94 55) (m 94 46) ro fo le ra pi (xPu aa ob ix va) from by first | (unfold xPu; rw [qIf_n (show ¬ (zRq aa ob ∧ zHw aa ob ix ∧ ¬ zIr aa ob ix) from fun w => Re_n p2_m1 (by omega) w.1)]; exact r_RB; done) | (unfold xPu; rw [qIf_n (show ¬ (zRq aa ob ∧ zHw aa ob ix ∧ ¬ zIr aa ob ix) from fun w => by have w2 := (Hw_y r_RB p2_m1 (by omega)).mp w.2.1; omega)]; exact r_RB; done) | (unfold xPu; rw [qIf_n (show ¬ (zRq aa ob ∧ zHw aa ob ix ∧ ¬ zIr aa ob ix) from fun w => w.2.2 ((Ir_y r_RB p2_m1 (by omega) (by omega) (by omega)).mpr (Or.inl (by assumption))))]; exact r_RB; done) | (unfold xPu; rw [qIf_n (show ¬ (zRq aa ob ∧ zHw aa ob ix ∧ ¬ zIr aa ob ix) from fun w => w.2.2 ((Ir_y r_RB p2_m1 (by omega) (by omega) (by omega)).mpr (Or.inr ⟨Int32.lt_iff_toInt_lt.mpr (by omega), by assumption⟩)))]; exact r_RB; done) | (exfalso; omega; done) | (exfalso; contradiction; done)) (show qI (xPu aa ob ix va) from by first | (unfold xPu; rw [qIf_n (show ¬ (zRq aa ob ∧ zHw aa ob ix ∧ ¬ zIr aa ob ix) from fun w => Re_n p2_m1 (by omega) w.1)]; exact r_QI; done) | (unfold xPu; rw [qIf_n (show ¬ (zRq aa ob ∧ zHw aa ob ix ∧ ¬ zIr aa ob ix) from fun w => by have w2 := (Hw_y r_RB p2_m1 (by omega)).mp w.2.1; omega)]; exact r_QI; done) | (unfold xPu; rw [qIf_n (show ¬ (zRq aa ob ∧ zHw aa ob ix ∧ ¬ zIr aa ob ix) from fun w => w.2.2 ((Ir_y r_RB p2_m1 (by omega) (by omega) (by omega)).mpr (Or.inl (by assumption))))]; exact r_QI; done) | (unfold xPu; rw [qIf_n (show ¬ (zRq aa ob ∧ zHw aa ob ix ∧ ¬ zIr aa ob ix) from fun w => w.2.2 ((Ir_y r_RB p2_m1 (by omega) (by omega) (by omega)).mpr (Or.inr ⟨Int32.lt_iff_toInt_lt.mpr (by omega), by assumption⟩)))]; exact r_QI; done) | (exfalso; omega; done) | (exfalso; contradiction; done)) (show qMG (m 94 58) (m 106) (m 115) (m 94 57) (m 94 56) (m 99) (m 100) (xPu aa ob ix va) from by first | (unfold xPu; rw [qIf_n (show ¬ (zRq aa ob ∧ zHw aa ob ix ∧ ¬ zIr aa ob ix) from fun w => Re_n p2_m1 (by omega) w.1)]; exact r_MG; done) | (unfold xPu; rw [qIf_n (show ¬ (zRq aa ob ∧ zHw aa ob ix ∧ ¬ zIr aa ob ix) from fun w => by have w2 := (Hw_y r_RB p2_m1 (by omega)).mp w.2.1; omega)]; exact r_MG; done) | (unfold xPu; rw [qIf_n (show ¬ (zRq aa ob ∧ zHw aa ob ix ∧ ¬ zIr aa ob ix) from fun w => w.2.2 ((Ir_y r_RB p2_m1 (by omega) (by omega) (by omega)).mpr (Or.inl (by assumption))))]; exact r_MG; done) | (unfold xPu; rw [qIf_n (show ¬ (zRq aa ob ∧ zHw aa ob ix ∧ ¬ zIr aa ob ix) from fun w => w.2.2 ((Ir_y r_RB p2_m1 (by omega) (by omega) (by omega)).mpr (Or.inr ⟨Int32.lt_iff_toInt_lt.mpr (by omega), by assumption⟩)))]; exact r_MG; done) | (exfalso; omega; done) | (exfalso; contradiction; done)) (show (xPu aa ob ix va) 87 8 = (m 94 58) from by first | (unfold xPu; rw [qIf_n (show ¬ (zRq aa ob ∧ zHw aa ob ix ∧ ¬ zIr aa ob ix) from fun w => Re_n p2_m1 (by omega) w.1)]; exact r_MK; done) | (unfold xPu; rw [qIf_n (show ¬ (zRq aa ob ∧ zHw aa ob ix ∧ ¬ zIr aa ob ix) from fun w => by have w2 := (Hw_y r_RB p2_m1 (by omega)).mp w.2.1; omega)]; exact r_MK; done) | (unfold xPu; rw [qIf_n (show ¬ (zRq aa ob ∧ zHw aa ob ix ∧ ¬ zIr aa ob ix) from fun w => w.2.2 ((Ir_y r_RB p2_m1 (by omega) (by omega) (by omega)).mpr (Or.inl (by assumption))))]; exact r_MK; done) | (unfold xPu; rw [qIf_n (show ¬ (zRq aa ob ∧ zHw aa ob ix ∧ ¬ zIr aa ob ix) from fun w => w.2.2 ((Ir_y r_RB p2_m1 (by omega) (by omega) (by omega)).mpr (Or.inr ⟨Int32.lt_iff_toInt_lt.mpr (by omega), by assumption⟩)))]; exact r_MK; done) | (exfalso; omega; done) | (exfalso; contradiction; done)) r_WTS
      · skip
        have g17 := i_nlt h14
        have hg18 : (0 ≤ v2 ∧ v2.toNatClampNeg < 3100) := i_ix (by omega) (by omega)
        refine ⟨hg18, ?_⟩
        first | have f19 : 0 ≤ (m 102 v2.toNatClampNeg).toInt ∧ (m 102 v2.toNatClampNeg).toInt ≤ 60 := ra_102 (m := m) hV (k := v2.toNatClampNeg) (i_ix (n := 3100) (by omega) (by omega)).2 | have b20 := i_bd (m 102 v2.toNatClampNeg)
        refine zd (fun (h21 : ix < (m 102 v2.toNatClampNeg)) => ?_) (fun (h21 : ¬ ix < (m 102 v2.toNatClampNeg)) => ?_)
        · skip
          have g22 := i_lt h21
          have hg23 : (0 ≤ v2 ∧ v2.toNatClampNeg < 3100) := i_ix (by omega) (by omega)
          refine ⟨hg23, ?_⟩
          first | have f24 : 0 ≤ (m 101 v2.toNatClampNeg).toInt ∧ (m 101 v2.toNatClampNeg).toInt ≤ 17 := ra_101 (m := m) hV (k := v2.toNatClampNeg) (i_ix (n := 3100) (by omega) (by omega)).2 | have b25 := i_bd (m 101 v2.toNatClampNeg)
          have li26 : (16 : Int32).toInt = 16 := rfl
          refine zd (fun (h27 : (m 101 v2.toNatClampNeg) = (16 : Int32)) => ?_) (fun (h27 : ¬ (m 101 v2.toNatClampNeg) = (16 : Int32)) => ?_)
          · skip
            have g28 := i_eq h27
            have hV29 : zV (ma_u (zov wr_245 (ma_u m 94 0 (0 : Int32)) m1) 94 0 (4 : Int32)) := uf_94_0 hV_m1
            exact K ((0 : Int32)) _ (zF_u (zF_zov (zF_u zF_rfl rfl) ws_245_244) rfl) hV29 r_W r_GW r_GU r_OW r_GG (show qRB (m 99) (m 100) (m 98) (m 101) (m 102) (m 103) (m 107) (m 108) (m 109) (m 111) (m 112) (m 113) (m 114) (m 94 55) (m 94 46) ro fo le ra pi (xPu aa ob ix va) from by first | (unfold xPu; rw [qIf_n (show ¬ (zRq aa ob ∧ zHw aa ob ix ∧ ¬ zIr aa ob ix) from fun w => Re_n p2_m1 (by omega) w.1)]; exact r_RB; done) | (unfold xPu; rw [qIf_n (show ¬ (zRq aa ob ∧ zHw aa ob ix ∧ ¬ zIr aa ob ix) from fun w => by have w2 := (Hw_y r_RB p2_m1 (by omega)).mp w.2.1; omega)]; exact r_RB; done) | (unfold xPu; rw [qIf_n (show ¬ (zRq aa ob ∧ zHw aa ob ix ∧ ¬ zIr aa ob ix) from fun w => w.2.2 ((Ir_y r_RB p2_m1 (by omega) (by omega) (by omega)).mpr (Or.inl (by assumption))))]; exact r_RB; done) | (unfold xPu; rw [qIf_n (show ¬ (zRq aa ob ∧ zHw aa ob ix ∧ ¬ zIr aa ob ix) from fun w => w.2.2 ((Ir_y r_RB p2_m1 (by omega) (by omega) (by omega)).mpr (Or.inr ⟨Int32.lt_iff_toInt_lt.mpr (by omega), by assumption⟩)))]; exact r_RB; done) | (exfalso; omega; done) | (exfalso; contradiction; done)) (show qI (xPu aa ob ix va) from by first | (unfold xPu; rw [qIf_n (show ¬ (zRq aa ob ∧ zHw aa ob ix ∧ ¬ zIr aa ob ix) from fun w => Re_n p2_m1 (by omega) w.1)]; exact r_QI; done) | (unfold xPu; rw [qIf_n (show ¬ (zRq aa ob ∧ zHw aa ob ix ∧ ¬ zIr aa ob ix) from fun w => by have w2 := (Hw_y r_RB p2_m1 (by omega)).mp w.2.1; omega)]; exact r_QI; done) | (unfold xPu; rw [qIf_n (show ¬ (zRq aa ob ∧ zHw aa ob ix ∧ ¬ zIr aa ob ix) from fun w => w.2.2 ((Ir_y r_RB p2_m1 (by omega) (by omega) (by omega)).mpr (Or.inl (by assumption))))]; exact r_QI; done) | (unfold xPu; rw [qIf_n (show ¬ (zRq aa ob ∧ zHw aa ob ix ∧ ¬ zIr aa ob ix) from fun w => w.2.2 ((Ir_y r_RB p2_m1 (by omega) (by omega) (by omega)).mpr (Or.inr ⟨Int32.lt_iff_toInt_lt.mpr (by omega), by assumption⟩)))]; exact r_QI; done) | (exfalso; omega; done) | (exfalso; contradiction; done)) (show qMG (m 94 58) (m 106) (m 115) (m 94 57) (m 94 56) (m 99) (m 100) (xPu aa ob ix va) from by first | (unfold xPu; rw [qIf_n (show ¬ (zRq aa ob ∧ zHw aa ob ix ∧ ¬ zIr aa ob ix) from fun w => Re_n p2_m1 (by omega) w.1)]; exact r_MG; done) | (unfold xPu; rw [qIf_n (show ¬ (zRq aa ob ∧ zHw aa ob ix ∧ ¬ zIr aa ob ix) from fun w => by have w2 := (Hw_y r_RB p2_m1 (by omega)).mp w.2.1; omega)]; exact r_MG; done) | (unfold xPu; rw [qIf_n (show ¬ (zRq aa ob ∧ zHw aa ob ix ∧ ¬ zIr aa ob ix) from fun w => w.2.2 ((Ir_y r_RB p2_m1 (by omega) (by omega) (by omega)).mpr (Or.inl (by assumption))))]; exact r_MG; done) | (unfold xPu; rw [qIf_n (show ¬ (zRq aa ob ∧ zHw aa ob ix ∧ ¬ zIr aa ob ix) from fun w => w.2.2 ((Ir_y r_RB p2_m1 (by omega) (by omega) (by omega)).mpr (Or.inr ⟨Int32.lt_iff_toInt_lt.mpr (by omega), by assumption⟩)))]; exact r_MG; done) | (exfalso; omega; done) | (exfalso; contradiction; done)) (show (xPu aa ob ix va) 87 8 = (m 94 58) from by first | (unfold xPu; rw [qIf_n (show ¬ (zRq aa ob ∧ zHw aa ob ix ∧ ¬ zIr aa ob ix) from fun w => Re_n p2_m1 (by omega) w.1)]; exact r_MK; done) | (unfold xPu; rw [qIf_n (show ¬ (zRq aa ob ∧ zHw aa ob ix ∧ ¬ zIr aa ob ix) from fun w => by have w2 := (Hw_y r_RB p2_m1 (by omega)).mp w.2.1; omega)]; exact r_MK; done) | (unfold xPu; rw [qIf_n (show ¬ (zRq aa ob ∧ zHw aa ob ix ∧ ¬ zIr aa ob ix) from fun w => w.2.2 ((Ir_y r_RB p2_m1 (by omega) (by omega) (by omega)).mpr (Or.inl (by assumption))))]; exact r_MK; done) | (unfold xPu; rw [qIf_n (show ¬ (zRq aa ob ∧ zHw aa ob ix ∧ ¬ zIr aa ob ix) from fun w => w.2.2 ((Ir_y r_RB p2_m1 (by omega) (by omega) (by omega)).mpr (Or.inr ⟨Int32.lt_iff_toInt_lt.mpr (by omega), by assumption⟩)))]; exact r_MK; done) | (exfalso; omega; done) | (exfalso; contradiction; done)) r_WTS
          · skip
            have g30 := i_ne h27
            have hg31 : (0 ≤ v2 ∧ v2.toNatClampNeg < 3100) := i_ix (by omega) (by omega)
            refine ⟨hg31, ?_⟩
            refine zd (fun (h32 : (16 : Int32) ≤ (m 101 v2.toNatClampNeg)) => ?_) (fun (h32 : ¬ (16 : Int32) ≤ (m 101 v2.toNatClampNeg)) => ?_)
            · skip
              have g33 := i_le h32
              have li34 : (60 : Int32).toInt = 60 := rfl
              first | have e35 : (v2 * (60 : Int32)).toInt = v2.toInt * 60 := i_mulk rfl (by omega) (by omega) | have b36 := i_bd (v2 * (60 : Int32))
              first | have e37 : ((v2 * (60 : Int32)) + ix).toInt = (v2 * (60 : Int32)).toInt + ix.toInt := i_add (by omega) (by omega) | have b38 := i_bd ((v2 * (60 : Int32)) + ix)
              have hg39 : (0 ≤ ((v2 * (60 : Int32)) + ix) ∧ ((v2 * (60 : Int32)) + ix).toNatClampNeg < 186000) := i_ix (by omega) (by omega)
              refine ⟨hg39, ?_⟩
              have hg40 : (0 ≤ ((v2 * (60 : Int32)) + ix) ∧ ((v2 * (60 : Int32)) + ix).toNatClampNeg < 186000) := i_ix (by omega) (by omega)
              refine ⟨hg40, ?_⟩
              have hV41 : zV (ma_u (zov wr_245 (ma_u m 94 0 (0 : Int32)) m1) 94 0 (0 : Int32)) := uf_94_0 hV_m1
              have hV42 : zV (ma_u (ma_u (zov wr_245 (ma_u m 94 0 (0 : Int32)) m1) 94 0 (0 : Int32)) 108 ((v2 * (60 : Int32)) + ix).toNatClampNeg va) := ua_108 hV41
              have b43 := i_bd (m 108 ((v2 * (60 : Int32)) + ix).toNatClampNeg)
              exact K ((m 108 ((v2 * (60 : Int32)) + ix).toNatClampNeg)) _ (zF_u (zF_u (zF_zov (zF_u zF_rfl rfl) ws_245_244) rfl) rfl) hV42 (show zW (m 94 7) (m 98) (m 101) (m 102) ((ma_u m 108 ((v2 * (60 : Int32)) + ix).toNatClampNeg va) 108) from by first | (exact W_same r_W (by omega) (fun s2 i2 hs2 hi2 => zrf_put (by omega) (by omega) (by omega) (by omega) (by assumption) (fun z => by first | exact absurd (Int32.lt_iff_toInt_lt.mp z.1) (by omega) | exact absurd z.2 (by assumption)) s2 i2 (by have := (ra_102 hV hs2).2; omega))) | (exfalso; omega; done) | (exfalso; contradiction; done)) r_GW r_GU r_OW r_GG (show qRB (m 99) (m 100) (m 98) (m 101) (m 102) (m 103) (m 107) ((ma_u m 108 ((v2 * (60 : Int32)) + ix).toNatClampNeg va) 108) (m 109) (m 111) (m 112) (m 113) (m 114) (m 94 55) (m 94 46) ro fo le ra pi (xPu aa ob ix va) from by first | (unfold xPu; rw [qIf_y (show zRq aa ob ∧ zHw aa ob ix ∧ ¬ zIr aa ob ix from ⟨(Re_y p2_m1 (by omega)).2.2.2, (Hw_y r_RB p2_m1 (by omega)).mpr ⟨by omega, by omega⟩, fun w => ((Ir_y r_RB p2_m1 (by omega) (by omega) (by omega)).mp w).elim (fun z => absurd z (by assumption)) (fun z => by first | exact absurd (Int32.lt_iff_toInt_lt.mp z.1) (by omega) | exact absurd z.2 (by assumption))⟩)]; exact (RB_pu (x := va) r_RB r_QI (s := v2) (by omega) (by omega) (Re_y p2_m1 (by omega)).2.1 (i := ix) (by omega) (by omega) (by assumption) (fun z => by first | exact absurd (Int32.lt_iff_toInt_lt.mp z.1) (by omega) | exact absurd z.2 (by assumption)) (Re_y p2_m1 (by omega)).2.2.1).1; done) | (exfalso; omega; done) | (exfalso; contradiction; done)) (show qI (xPu aa ob ix va) from by first | (unfold xPu; rw [qIf_y (show zRq aa ob ∧ zHw aa ob ix ∧ ¬ zIr aa ob ix from ⟨(Re_y p2_m1 (by omega)).2.2.2, (Hw_y r_RB p2_m1 (by omega)).mpr ⟨by omega, by omega⟩, fun w => ((Ir_y r_RB p2_m1 (by omega) (by omega) (by omega)).mp w).elim (fun z => absurd z (by assumption)) (fun z => by first | exact absurd (Int32.lt_iff_toInt_lt.mp z.1) (by omega) | exact absurd z.2 (by assumption))⟩)]; have pw := (RB_pu (x := va) r_RB r_QI (s := v2) (by omega) (by omega) (Re_y p2_m1 (by omega)).2.1 (i := ix) (by omega) (by omega) (by assumption) (fun z => by first | exact absurd (Int32.lt_iff_toInt_lt.mp z.1) (by omega) | exact absurd z.2 (by assumption)) (Re_y p2_m1 (by omega)).2.2.1); rw [Ci_eq r_QI pw.2.2]; exact I_w r_QI pw.2.2; done) | (exfalso; omega; done) | (exfalso; contradiction; done)) (show qMG (m 94 58) (m 106) (m 115) (m 94 57) (m 94 56) (m 99) (m 100) (xPu aa ob ix va) from by first | (unfold xPu; rw [qIf_y (show zRq aa ob ∧ zHw aa ob ix ∧ ¬ zIr aa ob ix from ⟨(Re_y p2_m1 (by omega)).2.2.2, (Hw_y r_RB p2_m1 (by omega)).mpr ⟨by omega, by omega⟩, fun w => ((Ir_y r_RB p2_m1 (by omega) (by omega) (by omega)).mp w).elim (fun z => absurd z (by assumption)) (fun z => by first | exact absurd (Int32.lt_iff_toInt_lt.mp z.1) (by omega) | exact absurd z.2 (by assumption))⟩)]; have pw := (RB_pu (x := va) r_RB r_QI (s := v2) (by omega) (by omega) (Re_y p2_m1 (by omega)).2.1 (i := ix) (by omega) (by omega) (by assumption) (fun z => by first | exact absurd (Int32.lt_iff_toInt_lt.mp z.1) (by omega) | exact absurd z.2 (by assumption)) (Re_y p2_m1 (by omega)).2.2.1); exact fun z => ⟨by rw [Ci_eq r_QI pw.2.2]; exact MQ_71 (r_MG z).1, MI_pu (r_MG z).2 r_QI pw.2.2 pw.2.1⟩; done) | (exfalso; omega; done) | (exfalso; contradiction; done)) (show (xPu aa ob ix va) 87 8 = (m 94 58) from by first | (unfold xPu; rw [qIf_y (show zRq aa ob ∧ zHw aa ob ix ∧ ¬ zIr aa ob ix from ⟨(Re_y p2_m1 (by omega)).2.2.2, (Hw_y r_RB p2_m1 (by omega)).mpr ⟨by omega, by omega⟩, fun w => ((Ir_y r_RB p2_m1 (by omega) (by omega) (by omega)).mp w).elim (fun z => absurd z (by assumption)) (fun z => by first | exact absurd (Int32.lt_iff_toInt_lt.mp z.1) (by omega) | exact absurd z.2 (by assumption))⟩)]; have pw := (RB_pu (x := va) r_RB r_QI (s := v2) (by omega) (by omega) (Re_y p2_m1 (by omega)).2.1 (i := ix) (by omega) (by omega) (by assumption) (fun z => by first | exact absurd (Int32.lt_iff_toInt_lt.mp z.1) (by omega) | exact absurd z.2 (by assumption)) (Re_y p2_m1 (by omega)).2.2.1); rw [Ci_eq r_QI pw.2.2, un (by decide)]; exact r_MK; done) | (exfalso; omega; done) | (exfalso; contradiction; done)) r_WTS
            · skip
              have g44 := i_nle h32
              have hg45 : (0 ≤ v2 ∧ v2.toNatClampNeg < 3100) := i_ix (by omega) (by omega)
              refine ⟨hg45, ?_⟩
              have hg46 : (0 ≤ (m 101 v2.toNatClampNeg) ∧ (m 101 v2.toNatClampNeg).toNatClampNeg < 16) := i_ix (by omega) (by omega)
              refine ⟨hg46, ?_⟩
              have b47 := i_bd (((m 98 (m 101 v2.toNatClampNeg).toNatClampNeg) >>> (ix &&& 31)) &&& (1 : Int32))
              have li48 : (1 : Int32).toInt = 1 := rfl
              refine zd (fun (h49 : (((m 98 (m 101 v2.toNatClampNeg).toNatClampNeg) >>> (ix &&& 31)) &&& (1 : Int32)) = (1 : Int32)) => ?_) (fun (h49 : ¬ (((m 98 (m 101 v2.toNatClampNeg).toNatClampNeg) >>> (ix &&& 31)) &&& (1 : Int32)) = (1 : Int32)) => ?_)
              · skip
                have g50 := i_eq h49
                have hV51 : zV (ma_u (zov wr_245 (ma_u m 94 0 (0 : Int32)) m1) 94 0 (4 : Int32)) := uf_94_0 hV_m1
                exact K ((0 : Int32)) _ (zF_u (zF_zov (zF_u zF_rfl rfl) ws_245_244) rfl) hV51 r_W r_GW r_GU r_OW r_GG (show qRB (m 99) (m 100) (m 98) (m 101) (m 102) (m 103) (m 107) (m 108) (m 109) (m 111) (m 112) (m 113) (m 114) (m 94 55) (m 94 46) ro fo le ra pi (xPu aa ob ix va) from by first | (unfold xPu; rw [qIf_n (show ¬ (zRq aa ob ∧ zHw aa ob ix ∧ ¬ zIr aa ob ix) from fun w => Re_n p2_m1 (by omega) w.1)]; exact r_RB; done) | (unfold xPu; rw [qIf_n (show ¬ (zRq aa ob ∧ zHw aa ob ix ∧ ¬ zIr aa ob ix) from fun w => by have w2 := (Hw_y r_RB p2_m1 (by omega)).mp w.2.1; omega)]; exact r_RB; done) | (unfold xPu; rw [qIf_n (show ¬ (zRq aa ob ∧ zHw aa ob ix ∧ ¬ zIr aa ob ix) from fun w => w.2.2 ((Ir_y r_RB p2_m1 (by omega) (by omega) (by omega)).mpr (Or.inl (by assumption))))]; exact r_RB; done) | (unfold xPu; rw [qIf_n (show ¬ (zRq aa ob ∧ zHw aa ob ix ∧ ¬ zIr aa ob ix) from fun w => w.2.2 ((Ir_y r_RB p2_m1 (by omega) (by omega) (by omega)).mpr (Or.inr ⟨Int32.lt_iff_toInt_lt.mpr (by omega), by assumption⟩)))]; exact r_RB; done) | (exfalso; omega; done) | (exfalso; contradiction; done)) (show qI (xPu aa ob ix va) from by first | (unfold xPu; rw [qIf_n (show ¬ (zRq aa ob ∧ zHw aa ob ix ∧ ¬ zIr aa ob ix) from fun w => Re_n p2_m1 (by omega) w.1)]; exact r_QI; done) | (unfold xPu; rw [qIf_n (show ¬ (zRq aa ob ∧ zHw aa ob ix ∧ ¬ zIr aa ob ix) from fun w => by have w2 := (Hw_y r_RB p2_m1 (by omega)).mp w.2.1; omega)]; exact r_QI; done) | (unfold xPu; rw [qIf_n (show ¬ (zRq aa ob ∧ zHw aa ob ix ∧ ¬ zIr aa ob ix) from fun w => w.2.2 ((Ir_y r_RB p2_m1 (by omega) (by omega) (by omega)).mpr (Or.inl (by assumption))))]; exact r_QI; done) | (unfold xPu; rw [qIf_n (show ¬ (zRq aa ob ∧ zHw aa ob ix ∧ ¬ zIr aa ob ix) from fun w => w.2.2 ((Ir_y r_RB p2_m1 (by omega) (by omega) (by omega)).mpr (Or.inr ⟨Int32.lt_iff_toInt_lt.mpr (by omega), by assumption⟩)))]; exact r_QI; done) | (exfalso; omega; done) | (exfalso; contradiction; done)) (show qMG (m 94 58) (m 106) (m 115) (m 94 57) (m 94 56) (m 99) (m 100) (xPu aa ob ix va) from by first | (unfold xPu; rw [qIf_n (show ¬ (zRq aa ob ∧ zHw aa ob ix ∧ ¬ zIr aa ob ix) from fun w => Re_n p2_m1 (by omega) w.1)]; exact r_MG; done) | (unfold xPu; rw [qIf_n (show ¬ (zRq aa ob ∧ zHw aa ob ix ∧ ¬ zIr aa ob ix) from fun w => by have w2 := (Hw_y r_RB p2_m1 (by omega)).mp w.2.1; omega)]; exact r_MG; done) | (unfold xPu; rw [qIf_n (show ¬ (zRq aa ob ∧ zHw aa ob ix ∧ ¬ zIr aa ob ix) from fun w => w.2.2 ((Ir_y r_RB p2_m1 (by omega) (by omega) (by omega)).mpr (Or.inl (by assumption))))]; exact r_MG; done) | (unfold xPu; rw [qIf_n (show ¬ (zRq aa ob ∧ zHw aa ob ix ∧ ¬ zIr aa ob ix) from fun w => w.2.2 ((Ir_y r_RB p2_m1 (by omega) (by omega) (by omega)).mpr (Or.inr ⟨Int32.lt_iff_toInt_lt.mpr (by omega), by assumption⟩)))]; exact r_MG; done) | (exfalso; omega; done) | (exfalso; contradiction; done)) (show (xPu aa ob ix va) 87 8 = (m 94 58) from by first | (unfold xPu; rw [qIf_n (show ¬ (zRq aa ob ∧ zHw aa ob ix ∧ ¬ zIr aa ob ix) from fun w => Re_n p2_m1 (by omega) w.1)]; exact r_MK; done) | (unfold xPu; rw [qIf_n (show ¬ (zRq aa ob ∧ zHw aa ob ix ∧ ¬ zIr aa ob ix) from fun w => by have w2 := (Hw_y r_RB p2_m1 (by omega)).mp w.2.1; omega)]; exact r_MK; done) | (unfold xPu; rw [qIf_n (show ¬ (zRq aa ob ∧ zHw aa ob ix ∧ ¬ zIr aa ob ix) from fun w => w.2.2 ((Ir_y r_RB p2_m1 (by omega) (by omega) (by omega)).mpr (Or.inl (by assumption))))]; exact r_MK; done) | (unfold xPu; rw [qIf_n (show ¬ (zRq aa ob ∧ zHw aa ob ix ∧ ¬ zIr aa ob ix) from fun w => w.2.2 ((Ir_y r_RB p2_m1 (by omega) (by omega) (by omega)).mpr (Or.inr ⟨Int32.lt_iff_toInt_lt.mpr (by omega), by assumption⟩)))]; exact r_MK; done) | (exfalso; omega; done) | (exfalso; contradiction; done)) r_WTS
              · skip
                have g52 := i_ne h49
                have li53 : (60 : Int32).toInt = 60 := rfl
                first | have e54 : (v2 * (60 : Int32)).toInt = v2.toInt * 60 := i_mulk rfl (by omega) (by omega) | have b55 := i_bd (v2 * (60 : Int32))
                first | have e56 : ((v2 * (60 : Int32)) + ix).toInt = (v2 * (60 : Int32)).toInt + ix.toInt := i_add (by omega) (by omega) | have b57 := i_bd ((v2 * (60 : Int32)) + ix)
                have hg58 : (0 ≤ ((v2 * (60 : Int32)) + ix) ∧ ((v2 * (60 : Int32)) + ix).toNatClampNeg < 186000) := i_ix (by omega) (by omega)
                refine ⟨hg58, ?_⟩
                have hg59 : (0 ≤ ((v2 * (60 : Int32)) + ix) ∧ ((v2 * (60 : Int32)) + ix).toNatClampNeg < 186000) := i_ix (by omega) (by omega)
                refine ⟨hg59, ?_⟩
                have hV60 : zV (ma_u (zov wr_245 (ma_u m 94 0 (0 : Int32)) m1) 94 0 (0 : Int32)) := uf_94_0 hV_m1
                have hV61 : zV (ma_u (ma_u (zov wr_245 (ma_u m 94 0 (0 : Int32)) m1) 94 0 (0 : Int32)) 108 ((v2 * (60 : Int32)) + ix).toNatClampNeg va) := ua_108 hV60
                have b62 := i_bd (m 108 ((v2 * (60 : Int32)) + ix).toNatClampNeg)
                exact K ((m 108 ((v2 * (60 : Int32)) + ix).toNatClampNeg)) _ (zF_u (zF_u (zF_zov (zF_u zF_rfl rfl) ws_245_244) rfl) rfl) hV61 (show zW (m 94 7) (m 98) (m 101) (m 102) ((ma_u m 108 ((v2 * (60 : Int32)) + ix).toNatClampNeg va) 108) from by first | (exact W_same r_W (by omega) (fun s2 i2 hs2 hi2 => zrf_put (by omega) (by omega) (by omega) (by omega) (by assumption) (fun z => by first | exact absurd (Int32.lt_iff_toInt_lt.mp z.1) (by omega) | exact absurd z.2 (by assumption)) s2 i2 (by have := (ra_102 hV hs2).2; omega))) | (exfalso; omega; done) | (exfalso; contradiction; done)) r_GW r_GU r_OW r_GG (show qRB (m 99) (m 100) (m 98) (m 101) (m 102) (m 103) (m 107) ((ma_u m 108 ((v2 * (60 : Int32)) + ix).toNatClampNeg va) 108) (m 109) (m 111) (m 112) (m 113) (m 114) (m 94 55) (m 94 46) ro fo le ra pi (xPu aa ob ix va) from by first | (unfold xPu; rw [qIf_y (show zRq aa ob ∧ zHw aa ob ix ∧ ¬ zIr aa ob ix from ⟨(Re_y p2_m1 (by omega)).2.2.2, (Hw_y r_RB p2_m1 (by omega)).mpr ⟨by omega, by omega⟩, fun w => ((Ir_y r_RB p2_m1 (by omega) (by omega) (by omega)).mp w).elim (fun z => absurd z (by assumption)) (fun z => by first | exact absurd (Int32.lt_iff_toInt_lt.mp z.1) (by omega) | exact absurd z.2 (by assumption))⟩)]; exact (RB_pu (x := va) r_RB r_QI (s := v2) (by omega) (by omega) (Re_y p2_m1 (by omega)).2.1 (i := ix) (by omega) (by omega) (by assumption) (fun z => by first | exact absurd (Int32.lt_iff_toInt_lt.mp z.1) (by omega) | exact absurd z.2 (by assumption)) (Re_y p2_m1 (by omega)).2.2.1).1; done) | (exfalso; omega; done) | (exfalso; contradiction; done)) (show qI (xPu aa ob ix va) from by first | (unfold xPu; rw [qIf_y (show zRq aa ob ∧ zHw aa ob ix ∧ ¬ zIr aa ob ix from ⟨(Re_y p2_m1 (by omega)).2.2.2, (Hw_y r_RB p2_m1 (by omega)).mpr ⟨by omega, by omega⟩, fun w => ((Ir_y r_RB p2_m1 (by omega) (by omega) (by omega)).mp w).elim (fun z => absurd z (by assumption)) (fun z => by first | exact absurd (Int32.lt_iff_toInt_lt.mp z.1) (by omega) | exact absurd z.2 (by assumption))⟩)]; have pw := (RB_pu (x := va) r_RB r_QI (s := v2) (by omega) (by omega) (Re_y p2_m1 (by omega)).2.1 (i := ix) (by omega) (by omega) (by assumption) (fun z => by first | exact absurd (Int32.lt_iff_toInt_lt.mp z.1) (by omega) | exact absurd z.2 (by assumption)) (Re_y p2_m1 (by omega)).2.2.1); rw [Ci_eq r_QI pw.2.2]; exact I_w r_QI pw.2.2; done) | (exfalso; omega; done) | (exfalso; contradiction; done)) (show qMG (m 94 58) (m 106) (m 115) (m 94 57) (m 94 56) (m 99) (m 100) (xPu aa ob ix va) from by first | (unfold xPu; rw [qIf_y (show zRq aa ob ∧ zHw aa ob ix ∧ ¬ zIr aa ob ix from ⟨(Re_y p2_m1 (by omega)).2.2.2, (Hw_y r_RB p2_m1 (by omega)).mpr ⟨by omega, by omega⟩, fun w => ((Ir_y r_RB p2_m1 (by omega) (by omega) (by omega)).mp w).elim (fun z => absurd z (by assumption)) (fun z => by first | exact absurd (Int32.lt_iff_toInt_lt.mp z.1) (by omega) | exact absurd z.2 (by assumption))⟩)]; have pw := (RB_pu (x := va) r_RB r_QI (s := v2) (by omega) (by omega) (Re_y p2_m1 (by omega)).2.1 (i := ix) (by omega) (by omega) (by assumption) (fun z => by first | exact absurd (Int32.lt_iff_toInt_lt.mp z.1) (by omega) | exact absurd z.2 (by assumption)) (Re_y p2_m1 (by omega)).2.2.1); exact fun z => ⟨by rw [Ci_eq r_QI pw.2.2]; exact MQ_71 (r_MG z).1, MI_pu (r_MG z).2 r_QI pw.2.2 pw.2.1⟩; done) | (exfalso; omega; done) | (exfalso; contradiction; done)) (show (xPu aa ob ix va) 87 8 = (m 94 58) from by first | (unfold xPu; rw [qIf_y (show zRq aa ob ∧ zHw aa ob ix ∧ ¬ zIr aa ob ix from ⟨(Re_y p2_m1 (by omega)).2.2.2, (Hw_y r_RB p2_m1 (by omega)).mpr ⟨by omega, by omega⟩, fun w => ((Ir_y r_RB p2_m1 (by omega) (by omega) (by omega)).mp w).elim (fun z => absurd z (by assumption)) (fun z => by first | exact absurd (Int32.lt_iff_toInt_lt.mp z.1) (by omega) | exact absurd z.2 (by assumption))⟩)]; have pw := (RB_pu (x := va) r_RB r_QI (s := v2) (by omega) (by omega) (Re_y p2_m1 (by omega)).2.1 (i := ix) (by omega) (by omega) (by assumption) (fun z => by first | exact absurd (Int32.lt_iff_toInt_lt.mp z.1) (by omega) | exact absurd z.2 (by assumption)) (Re_y p2_m1 (by omega)).2.2.1); rw [Ci_eq r_QI pw.2.2, un (by decide)]; exact r_MK; done) | (exfalso; omega; done) | (exfalso; contradiction; done)) r_WTS
        · skip
          have g63 := i_nlt h21
          have hV64 : zV (ma_u (zov wr_245 (ma_u m 94 0 (0 : Int32)) m1) 94 0 (3 : Int32)) := uf_94_0 hV_m1
          exact K ((0 : Int32)) _ (zF_u (zF_zov (zF_u zF_rfl rfl) ws_245_244) rfl) hV64 r_W r_GW r_GU r_OW r_GG (show qRB (m 99) (m 100) (m 98) (m 101) (m 102) (m 103) (m 107) (m 108) (m 109) (m 111) (m 112) (m 113) (m 114) (m 94 55) (m 94 46) ro fo le ra pi (xPu aa ob ix va) from by first | (unfold xPu; rw [qIf_n (show ¬ (zRq aa ob ∧ zHw aa ob ix ∧ ¬ zIr aa ob ix) from fun w => Re_n p2_m1 (by omega) w.1)]; exact r_RB; done) | (unfold xPu; rw [qIf_n (show ¬ (zRq aa ob ∧ zHw aa ob ix ∧ ¬ zIr aa ob ix) from fun w => by have w2 := (Hw_y r_RB p2_m1 (by omega)).mp w.2.1; omega)]; exact r_RB; done) | (unfold xPu; rw [qIf_n (show ¬ (zRq aa ob ∧ zHw aa ob ix ∧ ¬ zIr aa ob ix) from fun w => w.2.2 ((Ir_y r_RB p2_m1 (by omega) (by omega) (by omega)).mpr (Or.inl (by assumption))))]; exact r_RB; done) | (unfold xPu; rw [qIf_n (show ¬ (zRq aa ob ∧ zHw aa ob ix ∧ ¬ zIr aa ob ix) from fun w => w.2.2 ((Ir_y r_RB p2_m1 (by omega) (by omega) (by omega)).mpr (Or.inr ⟨Int32.lt_iff_toInt_lt.mpr (by omega), by assumption⟩)))]; exact r_RB; done) | (exfalso; omega; done) | (exfalso; contradiction; done)) (show qI (xPu aa ob ix va) from by first | (unfold xPu; rw [qIf_n (show ¬ (zRq aa ob ∧ zHw aa ob ix ∧ ¬ zIr aa ob ix) from fun w => Re_n p2_m1 (by omega) w.1)]; exact r_QI; done) | (unfold xPu; rw [qIf_n (show ¬ (zRq aa ob ∧ zHw aa ob ix ∧ ¬ zIr aa ob ix) from fun w => by have w2 := (Hw_y r_RB p2_m1 (by omega)).mp w.2.1; omega)]; exact r_QI; done) | (unfold xPu; rw [qIf_n (show ¬ (zRq aa ob ∧ zHw aa ob ix ∧ ¬ zIr aa ob ix) from fun w => w.2.2 ((Ir_y r_RB p2_m1 (by omega) (by omega) (by omega)).mpr (Or.inl (by assumption))))]; exact r_QI; done) | (unfold xPu; rw [qIf_n (show ¬ (zRq aa ob ∧ zHw aa ob ix ∧ ¬ zIr aa ob ix) from fun w => w.2.2 ((Ir_y r_RB p2_m1 (by omega) (by omega) (by omega)).mpr (Or.inr ⟨Int32.lt_iff_toInt_lt.mpr (by omega), by assumption⟩)))]; exact r_QI; done) | (exfalso; omega; done) | (exfalso; contradiction; done)) (show qMG (m 94 58) (m 106) (m 115) (m 94 57) (m 94 56) (m 99) (m 100) (xPu aa ob ix va) from by first | (unfold xPu; rw [qIf_n (show ¬ (zRq aa ob ∧ zHw aa ob ix ∧ ¬ zIr aa ob ix) from fun w => Re_n p2_m1 (by omega) w.1)]; exact r_MG; done) | (unfold xPu; rw [qIf_n (show ¬ (zRq aa ob ∧ zHw aa ob ix ∧ ¬ zIr aa ob ix) from fun w => by have w2 := (Hw_y r_RB p2_m1 (by omega)).mp w.2.1; omega)]; exact r_MG; done) | (unfold xPu; rw [qIf_n (show ¬ (zRq aa ob ∧ zHw aa ob ix ∧ ¬ zIr aa ob ix) from fun w => w.2.2 ((Ir_y r_RB p2_m1 (by omega) (by omega) (by omega)).mpr (Or.inl (by assumption))))]; exact r_MG; done) | (unfold xPu; rw [qIf_n (show ¬ (zRq aa ob ∧ zHw aa ob ix ∧ ¬ zIr aa ob ix) from fun w => w.2.2 ((Ir_y r_RB p2_m1 (by omega) (by omega) (by omega)).mpr (Or.inr ⟨Int32.lt_iff_toInt_lt.mpr (by omega), by assumption⟩)))]; exact r_MG; done) | (exfalso; omega; done) | (exfalso; contradiction; done)) (show (xPu aa ob ix va) 87 8 = (m 94 58) from by first | (unfold xPu; rw [qIf_n (show ¬ (zRq aa ob ∧ zHw aa ob ix ∧ ¬ zIr aa ob ix) from fun w => Re_n p2_m1 (by omega) w.1)]; exact r_MK; done) | (unfold xPu; rw [qIf_n (show ¬ (zRq aa ob ∧ zHw aa ob ix ∧ ¬ zIr aa ob ix) from fun w => by have w2 := (Hw_y r_RB p2_m1 (by omega)).mp w.2.1; omega)]; exact r_MK; done) | (unfold xPu; rw [qIf_n (show ¬ (zRq aa ob ∧ zHw aa ob ix ∧ ¬ zIr aa ob ix) from fun w => w.2.2 ((Ir_y r_RB p2_m1 (by omega) (by omega) (by omega)).mpr (Or.inl (by assumption))))]; exact r_MK; done) | (unfold xPu; rw [qIf_n (show ¬ (zRq aa ob ∧ zHw aa ob ix ∧ ¬ zIr aa ob ix) from fun w => w.2.2 ((Ir_y r_RB p2_m1 (by omega) (by omega) (by omega)).mpr (Or.inr ⟨Int32.lt_iff_toInt_lt.mpr (by omega), by assumption⟩)))]; exact r_MK; done) | (exfalso; omega; done) | (exfalso; contradiction; done)) r_WTS
    · skip
      have g65 := i_nle h11
      have hV66 : zV (ma_u (zov wr_245 (ma_u m 94 0 (0 : Int32)) m1) 94 0 (2 : Int32)) := uf_94_0 hV_m1
      exact K ((0 : Int32)) _ (zF_u (zF_zov (zF_u zF_rfl rfl) ws_245_244) rfl) hV66 r_W r_GW r_GU r_OW r_GG (show qRB (m 99) (m 100) (m 98) (m 101) (m 102) (m 103) (m 107) (m 108) (m 109) (m 111) (m 112) (m 113) (m 114) (m 94 55) (m 94 46) ro fo le ra pi (xPu aa ob ix va) from by first | (unfold xPu; rw [qIf_n (show ¬ (zRq aa ob ∧ zHw aa ob ix ∧ ¬ zIr aa ob ix) from fun w => Re_n p2_m1 (by omega) w.1)]; exact r_RB; done) | (unfold xPu; rw [qIf_n (show ¬ (zRq aa ob ∧ zHw aa ob ix ∧ ¬ zIr aa ob ix) from fun w => by have w2 := (Hw_y r_RB p2_m1 (by omega)).mp w.2.1; omega)]; exact r_RB; done) | (unfold xPu; rw [qIf_n (show ¬ (zRq aa ob ∧ zHw aa ob ix ∧ ¬ zIr aa ob ix) from fun w => w.2.2 ((Ir_y r_RB p2_m1 (by omega) (by omega) (by omega)).mpr (Or.inl (by assumption))))]; exact r_RB; done) | (unfold xPu; rw [qIf_n (show ¬ (zRq aa ob ∧ zHw aa ob ix ∧ ¬ zIr aa ob ix) from fun w => w.2.2 ((Ir_y r_RB p2_m1 (by omega) (by omega) (by omega)).mpr (Or.inr ⟨Int32.lt_iff_toInt_lt.mpr (by omega), by assumption⟩)))]; exact r_RB; done) | (exfalso; omega; done) | (exfalso; contradiction; done)) (show qI (xPu aa ob ix va) from by first | (unfold xPu; rw [qIf_n (show ¬ (zRq aa ob ∧ zHw aa ob ix ∧ ¬ zIr aa ob ix) from fun w => Re_n p2_m1 (by omega) w.1)]; exact r_QI; done) | (unfold xPu; rw [qIf_n (show ¬ (zRq aa ob ∧ zHw aa ob ix ∧ ¬ zIr aa ob ix) from fun w => by have w2 := (Hw_y r_RB p2_m1 (by omega)).mp w.2.1; omega)]; exact r_QI; done) | (unfold xPu; rw [qIf_n (show ¬ (zRq aa ob ∧ zHw aa ob ix ∧ ¬ zIr aa ob ix) from fun w => w.2.2 ((Ir_y r_RB p2_m1 (by omega) (by omega) (by omega)).mpr (Or.inl (by assumption))))]; exact r_QI; done) | (unfold xPu; rw [qIf_n (show ¬ (zRq aa ob ∧ zHw aa ob ix ∧ ¬ zIr aa ob ix) from fun w => w.2.2 ((Ir_y r_RB p2_m1 (by omega) (by omega) (by omega)).mpr (Or.inr ⟨Int32.lt_iff_toInt_lt.mpr (by omega), by assumption⟩)))]; exact r_QI; done) | (exfalso; omega; done) | (exfalso; contradiction; done)) (show qMG (m 94 58) (m 106) (m 115) (m 94 57) (m 94 56) (m 99) (m 100) (xPu aa ob ix va) from by first | (unfold xPu; rw [qIf_n (show ¬ (zRq aa ob ∧ zHw aa ob ix ∧ ¬ zIr aa ob ix) from fun w => Re_n p2_m1 (by omega) w.1)]; exact r_MG; done) | (unfold xPu; rw [qIf_n (show ¬ (zRq aa ob ∧ zHw aa ob ix ∧ ¬ zIr aa ob ix) from fun w => by have w2 := (Hw_y r_RB p2_m1 (by omega)).mp w.2.1; omega)]; exact r_MG; done) | (unfold xPu; rw [qIf_n (show ¬ (zRq aa ob ∧ zHw aa ob ix ∧ ¬ zIr aa ob ix) from fun w => w.2.2 ((Ir_y r_RB p2_m1 (by omega) (by omega) (by omega)).mpr (Or.inl (by assumption))))]; exact r_MG; done) | (unfold xPu; rw [qIf_n (show ¬ (zRq aa ob ∧ zHw aa ob ix ∧ ¬ zIr aa ob ix) from fun w => w.2.2 ((Ir_y r_RB p2_m1 (by omega) (by omega) (by omega)).mpr (Or.inr ⟨Int32.lt_iff_toInt_lt.mpr (by omega), by assumption⟩)))]; exact r_MG; done) | (exfalso; omega; done) | (exfalso; contradiction; done)) (show (xPu aa ob ix va) 87 8 = (m 94 58) from by first | (unfold xPu; rw [qIf_n (show ¬ (zRq aa ob ∧ zHw aa ob ix ∧ ¬ zIr aa ob ix) from fun w => Re_n p2_m1 (by omega) w.1)]; exact r_MK; done) | (unfold xPu; rw [qIf_n (show ¬ (zRq aa ob ∧ zHw aa ob ix ∧ ¬ zIr aa ob ix) from fun w => by have w2 := (Hw_y r_RB p2_m1 (by omega)).mp w.2.1; omega)]; exact r_MK; done) | (unfold xPu; rw [qIf_n (show ¬ (zRq aa ob ∧ zHw aa ob ix ∧ ¬ zIr aa ob ix) from fun w => w.2.2 ((Ir_y r_RB p2_m1 (by omega) (by omega) (by omega)).mpr (Or.inl (by assumption))))]; exact r_MK; done) | (unfold xPu; rw [qIf_n (show ¬ (zRq aa ob ∧ zHw aa ob ix ∧ ¬ zIr aa ob ix) from fun w => w.2.2 ((Ir_y r_RB p2_m1 (by omega) (by omega) (by omega)).mpr (Or.inr ⟨Int32.lt_iff_toInt_lt.mpr (by omega), by assumption⟩)))]; exact r_MK; done) | (exfalso; omega; done) | (exfalso; contradiction; done)) r_WTS

