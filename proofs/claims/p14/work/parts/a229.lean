/-! from 95.q51 -/
/-! the moving collectors, the class (written by wip/tools/gen15.py) -/
theorem g_155_64_sm_p91_0 {X : Nat × (Nat → Int32)} {d w : Nat} {S : ma_S} {Q : Option ma_V ⊕ Nat → ma_S → Prop} (i : Int32) (rt : Int32) (hd : 7 ≤ d) (hw : 134 ≤ w) (hS : zT S) (h : if i < 0 then (Q (.inr 2) (ma_bump S)) else (if (16 : Int32) ≤ i then (Q (.inr 2) (ma_bump S)) else (if rt < 0 then (Q (.inr 2) (ma_bump S)) else (if (16 : Int32) ≤ rt then (Q (.inr 2) (ma_bump S)) else (mR S 64 11 = some 91 ∧ (mR S 64 11 = some 91 ∧ ((0 ≤ i ∧ i.toNatClampNeg < 16) ∧ (if (mI S 73 i.toNatClampNeg) < 0 then (Q (.inl (some (.inl (-1 : Int32)))) S) else (if (512 : Int32) ≤ (mI S 73 i.toNatClampNeg) then (Q (.inl (some (.inl (-1 : Int32)))) S) else ((0 ≤ (mI S 73 i.toNatClampNeg) ∧ (mI S 73 i.toNatClampNeg).toNatClampNeg < 512) ∧ (((mR S 70 (mI S 73 i.toNatClampNeg).toNatClampNeg) = none → Q (.inl (some (.inl (-1 : Int32)))) S) ∧ (∀ c1, (mR S 70 (mI S 73 i.toNatClampNeg).toNatClampNeg) = some c1 → ma_wp X (d - 1) (w - 24) 145 0 [(0, .inr (.inr (some 64))), (1, .inr (.inr (some 91))), (2, .inl rt), (3, .inr (.inr (some c1)))] [] S (zo (fun v3 S2 => zT S2 ∧ ((126 ≤ c1 ∧ c1 < mN S2) ∧ (Q (.inl (some (.inl (mI S2 c1 0)))) S2))) (fun x S9 => Q (.inr x) S9)))))))))))))) : ma_wp X d w 155 0 [(0, .inr (.inr (some 64))), (1, .inl i), (2, .inl rt)] [] S Q := by
  refine zw_push hm_155 dX11_strong_0 (v := .inl i) rfl ?_
  refine zw_cs hm_155 dX11_strong_1 pn_11_109 sl_11_109 hm_142 [.inl i] [] rfl ⟨by omega, by omega⟩ rfl ?_
  show ma_wp X (d - 1) (w - 20) 142 0 [(0, .inl i)] [] S _
  refine zw_push hm_142 dX11_isSlot_0 (v := .inl i) rfl ?_
  refine zw_if0 hm_142 dX11_isSlot_1 (t := 14) rfl zc0_lt ?_ ?_
  · intro hc
    rw [if_pos hc] at h
    refine zw_push hm_142 dX11_isSlot_14 (v := .inl (0 : Int32)) rfl ?_
    refine zw_bret hm_142 dX11_isSlot_15 (by decide) ?_
    show ma_wp X d w 155 4 [(0, .inr (.inr (some 64))), (1, .inl i), (2, .inl rt)] [.inl (0 : Int32)] S _
    refine zw_if0 hm_155 dX11_strong_4 (t := 14) rfl zc0_eq (fun _ => ?_) (fun hc => absurd (by decide) hc)
    exact zw_thr hm_155 dX11_strong_14 dX11_strong_17 dX11_strong_18 dX11_strong_21 x_11_79_81 n_11_79 (by omega) (by show 0 + 81 ≤ w; omega) h
  · intro hc
    rw [if_neg hc] at h
    refine zw_push hm_142 dX11_isSlot_4 (v := .inl i) rfl ?_
    refine zw_push hm_142 dX11_isSlot_5 (v := .inl (16 : Int32)) rfl ?_
    refine zw_if2 hm_142 dX11_isSlot_7 (t := 14) rfl zc2_ge ?_ ?_
    · intro hc
      rw [if_pos hc] at h
      refine zw_push hm_142 dX11_isSlot_14 (v := .inl (0 : Int32)) rfl ?_
      refine zw_bret hm_142 dX11_isSlot_15 (by decide) ?_
      show ma_wp X d w 155 4 [(0, .inr (.inr (some 64))), (1, .inl i), (2, .inl rt)] [.inl (0 : Int32)] S _
      refine zw_if0 hm_155 dX11_strong_4 (t := 14) rfl zc0_eq (fun _ => ?_) (fun hc => absurd (by decide) hc)
      exact zw_thr hm_155 dX11_strong_14 dX11_strong_17 dX11_strong_18 dX11_strong_21 x_11_79_81 n_11_79 (by omega) (by show 0 + 81 ≤ w; omega) h
    · intro hc
      rw [if_neg hc] at h
      refine zw_push hm_142 dX11_isSlot_10 (v := .inl (1 : Int32)) rfl ?_
      refine zw_goto hm_142 dX11_isSlot_11 (t := 15) rfl ?_
      refine zw_bret hm_142 dX11_isSlot_15 (by decide) ?_
      show ma_wp X d w 155 4 [(0, .inr (.inr (some 64))), (1, .inl i), (2, .inl rt)] [.inl (1 : Int32)] S _
      refine zw_if0 hm_155 dX11_strong_4 (t := 14) rfl zc0_eq (fun hc => absurd hc (by decide)) (fun _ => ?_)
      refine zw_push hm_155 dX11_strong_7 (v := .inl rt) rfl ?_
      refine zw_cs hm_155 dX11_strong_8 pn_11_109 sl_11_109 hm_142 [.inl rt] [] rfl ⟨by omega, by omega⟩ rfl ?_
      show ma_wp X (d - 1) (w - 20) 142 0 [(0, .inl rt)] [] S _
      refine zw_push hm_142 dX11_isSlot_0 (v := .inl rt) rfl ?_
      refine zw_if0 hm_142 dX11_isSlot_1 (t := 14) rfl zc0_lt ?_ ?_
      · intro hc
        rw [if_pos hc] at h
        refine zw_push hm_142 dX11_isSlot_14 (v := .inl (0 : Int32)) rfl ?_
        refine zw_bret hm_142 dX11_isSlot_15 (by decide) ?_
        show ma_wp X d w 155 11 [(0, .inr (.inr (some 64))), (1, .inl i), (2, .inl rt)] [.inl (0 : Int32)] S _
        refine zw_if0 hm_155 dX11_strong_11 (t := 22) rfl zc0_ne (fun hc => absurd hc (by decide)) (fun _ => ?_)
        exact zw_thr hm_155 dX11_strong_14 dX11_strong_17 dX11_strong_18 dX11_strong_21 x_11_79_81 n_11_79 (by omega) (by show 0 + 81 ≤ w; omega) h
      · intro hc
        rw [if_neg hc] at h
        refine zw_push hm_142 dX11_isSlot_4 (v := .inl rt) rfl ?_
        refine zw_push hm_142 dX11_isSlot_5 (v := .inl (16 : Int32)) rfl ?_
        refine zw_if2 hm_142 dX11_isSlot_7 (t := 14) rfl zc2_ge ?_ ?_
        · intro hc
          rw [if_pos hc] at h
          refine zw_push hm_142 dX11_isSlot_14 (v := .inl (0 : Int32)) rfl ?_
          refine zw_bret hm_142 dX11_isSlot_15 (by decide) ?_
          show ma_wp X d w 155 11 [(0, .inr (.inr (some 64))), (1, .inl i), (2, .inl rt)] [.inl (0 : Int32)] S _
          refine zw_if0 hm_155 dX11_strong_11 (t := 22) rfl zc0_ne (fun hc => absurd hc (by decide)) (fun _ => ?_)
          exact zw_thr hm_155 dX11_strong_14 dX11_strong_17 dX11_strong_18 dX11_strong_21 x_11_79_81 n_11_79 (by omega) (by show 0 + 81 ≤ w; omega) h
        · intro hc
          rw [if_neg hc] at h
          refine zw_push hm_142 dX11_isSlot_10 (v := .inl (1 : Int32)) rfl ?_
          refine zw_goto hm_142 dX11_isSlot_11 (t := 15) rfl ?_
          refine zw_bret hm_142 dX11_isSlot_15 (by decide) ?_
          show ma_wp X d w 155 11 [(0, .inr (.inr (some 64))), (1, .inl i), (2, .inl rt)] [.inl (1 : Int32)] S _
          refine zw_if0 hm_155 dX11_strong_11 (t := 22) rfl zc0_ne (fun _ => ?_) (fun hc => absurd (by decide) hc)
          refine zw_push hm_155 dX11_strong_22 (v := .inr (.inr (some 64))) rfl ?_
          refine zw_cv hm_155 dX11_strong_23 v_11_119_11 hm_144 [] [] rfl (zT_rt hS s_64 rfl) ⟨by omega, by omega⟩ rfl ?_
          show ma_wp X (d - 1) (w - 20) 144 0 [(0, .inr (.inr (some 64)))] [] S _
          refine zw_push hm_144 dX11_needCollector_0 (v := .inr (.inr (some 64))) rfl ?_
          obtain ⟨hg, h⟩ := h
          refine zw_gf hm_144 dX11_needCollector_1 (v := .inr (.inr (some 91))) (zT_is hS s_64) (zT_t hS s_64) rfl f_11_98_11 (congrArg (fun z => Sum.inr (Sum.inr z)) hg) ?_
          refine zw_ifnonnull hm_144 dX11_needCollector_4 (t := 15) rfl (fun z => by cases z) (fun _ _ => ?_)
          refine zw_push hm_144 dX11_needCollector_15 (v := .inr (.inr (some 64))) rfl ?_
          obtain ⟨hg, h⟩ := h
          refine zw_gf hm_144 dX11_needCollector_16 (v := .inr (.inr (some 91))) (zT_is hS s_64) (zT_t hS s_64) rfl f_11_98_11 (congrArg (fun z => Sum.inr (Sum.inr z)) hg) ?_
          refine zw_aret hm_144 dX11_needCollector_19 ?_
          show ma_wp X d w 155 26 [(0, .inr (.inr (some 64))), (1, .inl i), (2, .inl rt)] [.inr (.inr (some 91))] S _
          refine zw_sto hm_155 dX11_strong_26 [(3, .inr (.inr (some 91))), (0, .inr (.inr (some 64))), (1, .inl i), (2, .inl rt)] rfl rfl rfl ?_
          refine zw_push hm_155 dX11_strong_27 (v := .inr (.inr (some 64))) rfl ?_
          refine zw_gf hm_155 dX11_strong_28 (v := .inr (.inr (some 69))) (zT_is hS s_64) (zT_t hS s_64) rfl f_11_26_11 (zT_f hS r_64_8) ?_
          refine zw_push hm_155 dX11_strong_31 (v := .inr (.inr (some 64))) rfl ?_
          refine zw_gf hm_155 dX11_strong_32 (v := .inr (.inr (some 69))) (zT_is hS s_64) (zT_t hS s_64) rfl f_11_26_11 (zT_f hS r_64_8) ?_
          refine zw_gf hm_155 dX11_strong_35 (v := .inr (.inr (some 73))) (zT_is hS s_69) (zT_t hS s_69) rfl f_11_173_7 (zT_f hS r_69_3) ?_
          refine zw_push hm_155 dX11_strong_38 (v := .inl i) rfl ?_
          obtain ⟨hg, h⟩ := h
          refine zw_ia hm_155 dX11_strong_39 (zT_is hS s_73) (zT_h hS s_73) rfl hg ?_
          show ma_wp X d w 155 40 [(3, .inr (.inr (some 91))), (0, .inr (.inr (some 64))), (1, .inl i), (2, .inl rt)] [.inl (mI S 73 i.toNatClampNeg), .inr (.inr (some 69))] S _
          refine zw_cv hm_155 dX11_strong_40 v_11_176_7 hm_81 [.inl (mI S 73 i.toNatClampNeg)] [] rfl (zT_rt hS s_69 rfl) ⟨by omega, by omega⟩ rfl ?_
          show ma_wp X (d - 1) (w - 21) 81 0 [(0, .inr (.inr (some 69))), (1, .inl (mI S 73 i.toNatClampNeg))] [] S _
          refine zw_push hm_81 dX7_thingAt_0 (v := .inl (mI S 73 i.toNatClampNeg)) rfl ?_
          refine zw_if0 hm_81 dX7_thingAt_1 (t := 20) rfl zc0_lt ?_ ?_
          · intro hc
            rw [if_pos hc] at h
            refine zw_push hm_81 dX7_thingAt_20 (v := .inr (.inr none)) rfl ?_
            refine zw_aret hm_81 dX7_thingAt_21 ?_
            show ma_wp X d w 155 43 [(3, .inr (.inr (some 91))), (0, .inr (.inr (some 64))), (1, .inl i), (2, .inl rt)] [.inr (.inr none)] S _
            refine zw_sto hm_155 dX11_strong_43 [(4, .inr (.inr none)), (3, .inr (.inr (some 91))), (0, .inr (.inr (some 64))), (1, .inl i), (2, .inl rt)] rfl rfl rfl ?_
            refine zw_push hm_155 dX11_strong_45 (v := .inr (.inr none)) rfl ?_
            refine zw_ifnonnull hm_155 dX11_strong_47 (t := 52) rfl (fun _ => ?_) (fun _ z => by cases z)
            refine zw_push hm_155 dX11_strong_50 (v := .inl (-1 : Int32)) rfl ?_
            exact zw_iret hm_155 dX11_strong_51 h
          · intro hc
            rw [if_neg hc] at h
            refine zw_push hm_81 dX7_thingAt_4 (v := .inl (mI S 73 i.toNatClampNeg)) rfl ?_
            refine zw_push hm_81 dX7_thingAt_5 (v := .inl (512 : Int32)) rfl ?_
            refine zw_if2 hm_81 dX7_thingAt_8 (t := 20) rfl zc2_ge ?_ ?_
            · intro hc
              rw [if_pos hc] at h
              refine zw_push hm_81 dX7_thingAt_20 (v := .inr (.inr none)) rfl ?_
              refine zw_aret hm_81 dX7_thingAt_21 ?_
              show ma_wp X d w 155 43 [(3, .inr (.inr (some 91))), (0, .inr (.inr (some 64))), (1, .inl i), (2, .inl rt)] [.inr (.inr none)] S _
              refine zw_sto hm_155 dX11_strong_43 [(4, .inr (.inr none)), (3, .inr (.inr (some 91))), (0, .inr (.inr (some 64))), (1, .inl i), (2, .inl rt)] rfl rfl rfl ?_
              refine zw_push hm_155 dX11_strong_45 (v := .inr (.inr none)) rfl ?_
              refine zw_ifnonnull hm_155 dX11_strong_47 (t := 52) rfl (fun _ => ?_) (fun _ z => by cases z)
              refine zw_push hm_155 dX11_strong_50 (v := .inl (-1 : Int32)) rfl ?_
              exact zw_iret hm_155 dX11_strong_51 h
            · intro hc
              rw [if_neg hc] at h
              refine zw_push hm_81 dX7_thingAt_11 (v := .inr (.inr (some 69))) rfl ?_
              refine zw_gf hm_81 dX7_thingAt_12 (v := .inr (.inr (some 70))) (zT_is hS s_69) (zT_t hS s_69) rfl f_7_11_7 (zT_f hS r_69_0) ?_
              refine zw_push hm_81 dX7_thingAt_15 (v := .inl (mI S 73 i.toNatClampNeg)) rfl ?_
              obtain ⟨hg, h⟩ := h
              refine zw_aa hm_81 dX7_thingAt_16 (zT_is hS s_70) (zT_h hS s_70) rfl rfl hg rfl ?_
              show ma_wp X (d - 1) (w - 21) 81 17 [(0, .inr (.inr (some 69))), (1, .inl (mI S 73 i.toNatClampNeg))] [.inr (.inr (mR S 70 (mI S 73 i.toNatClampNeg).toNatClampNeg))] S _
              refine zw_goto hm_81 dX7_thingAt_17 (t := 21) rfl ?_
              refine zw_aret hm_81 dX7_thingAt_21 ?_
              show ma_wp X d w 155 43 [(3, .inr (.inr (some 91))), (0, .inr (.inr (some 64))), (1, .inl i), (2, .inl rt)] [.inr (.inr (mR S 70 (mI S 73 i.toNatClampNeg).toNatClampNeg))] S _
              refine zw_sto hm_155 dX11_strong_43 [(4, .inr (.inr (mR S 70 (mI S 73 i.toNatClampNeg).toNatClampNeg))), (3, .inr (.inr (some 91))), (0, .inr (.inr (some 64))), (1, .inl i), (2, .inl rt)] rfl rfl rfl ?_
              refine zw_push hm_155 dX11_strong_45 (v := .inr (.inr (mR S 70 (mI S 73 i.toNatClampNeg).toNatClampNeg))) rfl ?_
              refine zw_ifnonnull hm_155 dX11_strong_47 (t := 52) rfl ?_ ?_
              · intro hc
                have h := h.1 hc
                (try rw [hc])
                show ma_wp X d w 155 50 [(4, .inr (.inr none)), (3, .inr (.inr (some 91))), (0, .inr (.inr (some 64))), (1, .inl i), (2, .inl rt)] [] S _
                refine zw_push hm_155 dX11_strong_50 (v := .inl (-1 : Int32)) rfl ?_
                exact zw_iret hm_155 dX11_strong_51 h
              · intro c1 hc
                have h := h.2 c1 hc
                (try rw [hc])
                show ma_wp X d w 155 52 [(4, .inr (.inr (some c1))), (3, .inr (.inr (some 91))), (0, .inr (.inr (some 64))), (1, .inl i), (2, .inl rt)] [] S _
                refine zw_push hm_155 dX11_strong_52 (v := .inr (.inr (some 64))) rfl ?_
                refine zw_push hm_155 dX11_strong_53 (v := .inr (.inr (some 91))) rfl ?_
                refine zw_push hm_155 dX11_strong_54 (v := .inl rt) rfl ?_
                refine zw_push hm_155 dX11_strong_55 (v := .inr (.inr (some c1))) rfl ?_
                refine zw_cv hm_155 dX11_strong_57 v_11_169_11 hm_145 [.inr (.inr (some c1)), .inl rt, .inr (.inr (some 91))] [] rfl (zT_rt hS s_64 rfl) ⟨by omega, by omega⟩ rfl (zw_mono h (zo_go ?_ ?_))
                · intro v3 S2 hv
                  obtain ⟨hS2, h⟩ := hv
                  refine zw_stk hm_155 dX11_strong_60 (st₉ := []) rfl rfl ?_
                  refine zw_push hm_155 dX11_strong_61 (v := .inr (.inr (some 91))) rfl ?_
                  refine zw_push hm_155 dX11_strong_62 (v := .inr (.inr (some c1))) rfl ?_
                  refine zw_cv hm_155 dX11_strong_64 v_11_179_4 hm_268 [.inr (.inr (some c1))] [] rfl (zT_rt hS2 s_91 rfl) ⟨by omega, by omega⟩ rfl ?_
                  show ma_wp X (d - 1) (w - 21) 268 0 [(0, .inr (.inr (some 91))), (1, .inr (.inr (some c1)))] [] S2 _
                  refine zw_vret hm_268 dX1_noteStrong_0 ?_
                  show ma_wp X d w 155 67 [(4, .inr (.inr (some c1))), (3, .inr (.inr (some 91))), (0, .inr (.inr (some 64))), (1, .inl i), (2, .inl rt)] [] S2 _
                  refine zw_push hm_155 dX11_strong_67 (v := .inr (.inr (some c1))) rfl ?_
                  obtain ⟨hg, h⟩ := h
                  refine zw_gf hm_155 dX11_strong_69 (v := .inl (mI S2 c1 0)) (zT_tis hS2 hg) (zT_tt hS2 hg) rfl f_11_182_9 rfl ?_
                  exact zw_iret hm_155 dX11_strong_72 h
                · intro x S9 hx
                  exact ⟨by decide, hx⟩
theorem sp_155_64_sm_p91 {X : Nat × (Nat → Int32)} {d w : Nat} {f : Nat → Nat → Int32} {r : Nat → Nat → Option Nat} {C Z N : Nat} {Q : Option ma_V ⊕ Nat → ma_S → Prop} {ab : Nat→Nat→Int32} {fp91 : Nat→Int32} {fp92 : Nat→Int32} {S : ma_S} (i : Int32) (rt : Int32) (hd : 7 ≤ d) (hw : 134 ≤ w) (hI : zB f r C Z N S) (hr : r 64 11 = some 91) (hpre0 : xB S (mR S 70)) (hpre1 : aS 88 S = ab) (hpre2 : (mI S 91) = fp91) (hpre3 : (mI S 92) = fp92) (K : ∀ v S₉, zB f r C Z N S₉ → (True) → (xB S₉ (mR S₉ 70)) → ((0 ≤ i.toInt ∧ i.toInt ≤ 15) ∧ (0 ≤ rt.toInt ∧ rt.toInt ≤ 15) ∧ ((aNm ab (ab 73 i.toNatClampNeg) = -1 ∧ aS 88 S₉ = ab ∧ v = -1) ∨ (aNm ab (ab 73 i.toNatClampNeg) = ab 73 i.toNatClampNeg ∧ 0 ≤ (ab 73 i.toNatClampNeg).toInt ∧ aS 88 S₉ = aR0 ab rt (ab 73 i.toNatClampNeg) ∧ v = ab 73 i.toNatClampNeg))) → ((mI S₉ 91) = fp91) → ((mI S₉ 92) = fp92) → Q (.inl (some (.inl v))) S₉) (KX : ∀ x S₉, (x = 2) → zB f r C Z N S₉ → (xB S₉ (mR S₉ 70)) → (aS 88 S₉ = ab) → (x = 2 ∧ ¬ ((0 ≤ i.toInt ∧ i.toInt ≤ 15) ∧ (0 ≤ rt.toInt ∧ rt.toInt ≤ 15))) → ((mI S₉ 91) = fp91) → ((mI S₉ 92) = fp92) → Q (.inr x) (ma_bump S₉)) : ma_wp X d w 155 0 [(0, .inr (.inr (some 64))), (1, .inl i), (2, .inl rt)] [] S Q := by
  refine g_155_64_sm_p91_0 i rt (by omega) (by omega) (zG_T hI) ?_
  have b1 := i_bd i
  have li2 : (0 : Int32).toInt = 0 := rfl
  refine zd (fun h3 => ?_) (fun h3 => ?_)
  · skip
    have g4 := i_lt h3
    exact KX 2 _ (by decide) hI (show xB S (mR S 70) from by first | (exact xB_x (xC_o (W := 75) hpre0).2)) (show aS 88 S = ab from by first | (exact (xC_o (W := 88) hpre0).1.trans hpre1)) (show 2 = 2 ∧ ¬ ((0 ≤ i.toInt ∧ i.toInt ≤ 15) ∧ (0 ≤ rt.toInt ∧ rt.toInt ≤ 15)) from by first | (exact ⟨rfl, by omega⟩)) (show (mI S 91) = fp91 from by first | (exact hpre2)) (show (mI S 92) = fp92 from by first | (exact hpre3))
  · skip
    have g5 := i_nlt h3
    have li6 : (16 : Int32).toInt = 16 := rfl
    refine zd (fun h7 => ?_) (fun h7 => ?_)
    · skip
      have g8 := i_le h7
      exact KX 2 _ (by decide) hI (show xB S (mR S 70) from by first | (exact xB_x (xC_o (W := 75) hpre0).2)) (show aS 88 S = ab from by first | (exact (xC_o (W := 88) hpre0).1.trans hpre1)) (show 2 = 2 ∧ ¬ ((0 ≤ i.toInt ∧ i.toInt ≤ 15) ∧ (0 ≤ rt.toInt ∧ rt.toInt ≤ 15)) from by first | (exact ⟨rfl, by omega⟩)) (show (mI S 91) = fp91 from by first | (exact hpre2)) (show (mI S 92) = fp92 from by first | (exact hpre3))
    · skip
      have g9 := i_nle h7
      have b10 := i_bd rt
      refine zd (fun h11 => ?_) (fun h11 => ?_)
      · skip
        have g12 := i_lt h11
        exact KX 2 _ (by decide) hI (show xB S (mR S 70) from by first | (exact xB_x (xC_o (W := 75) hpre0).2)) (show aS 88 S = ab from by first | (exact (xC_o (W := 88) hpre0).1.trans hpre1)) (show 2 = 2 ∧ ¬ ((0 ≤ i.toInt ∧ i.toInt ≤ 15) ∧ (0 ≤ rt.toInt ∧ rt.toInt ≤ 15)) from by first | (exact ⟨rfl, by omega⟩)) (show (mI S 91) = fp91 from by first | (exact hpre2)) (show (mI S 92) = fp92 from by first | (exact hpre3))
      · skip
        have g13 := i_nlt h11
        refine zd (fun h14 => ?_) (fun h14 => ?_)
        · skip
          have g15 := i_le h14
          exact KX 2 _ (by decide) hI (show xB S (mR S 70) from by first | (exact xB_x (xC_o (W := 75) hpre0).2)) (show aS 88 S = ab from by first | (exact (xC_o (W := 88) hpre0).1.trans hpre1)) (show 2 = 2 ∧ ¬ ((0 ≤ i.toInt ∧ i.toInt ≤ 15) ∧ (0 ≤ rt.toInt ∧ rt.toInt ≤ 15)) from by first | (exact ⟨rfl, by omega⟩)) (show (mI S 91) = fp91 from by first | (exact hpre2)) (show (mI S 92) = fp92 from by first | (exact hpre3))
        · skip
          have g16 := i_nle h14
          refine ⟨((zG_r hI (by decide)).trans hr), ?_⟩
          refine ⟨((zG_r hI (by decide)).trans hr), ?_⟩
          refine ⟨i_ix (by omega) (by omega), ?_⟩
          have b17 := i_bd (mI S 73 i.toNatClampNeg)
          refine zd (fun h18 => ?_) (fun h18 => ?_)
          · skip
            have g19 := i_lt h18
            have li20 : (-1 : Int32).toInt = -1 := rfl
            exact K ((-1 : Int32)) _ hI trivial (show xB S (mR S 70) from by first | (exact xB_x (xC_o (W := 75) hpre0).2)) (show (0 ≤ i.toInt ∧ i.toInt ≤ 15) ∧ (0 ≤ rt.toInt ∧ rt.toInt ≤ 15) ∧ ((aNm ab (ab 73 i.toNatClampNeg) = -1 ∧ aS 88 S = ab ∧ (-1 : Int32) = -1) ∨ (aNm ab (ab 73 i.toNatClampNeg) = ab 73 i.toNatClampNeg ∧ 0 ≤ (ab 73 i.toNatClampNeg).toInt ∧ aS 88 S = aR0 ab rt (ab 73 i.toNatClampNeg) ∧ (-1 : Int32) = ab 73 i.toNatClampNeg)) from by first | (have we : mI S 73 i.toNatClampNeg = ab 73 i.toNatClampNeg := (aS_I (W := 88) (S := S) (c := 73) (c₉ := 73) (k := i.toNatClampNeg) rfl rfl).symm.trans (congrFun (congrFun hpre1 73) i.toNatClampNeg); have wi := congrArg Int32.toInt we; refine ⟨⟨by omega, by omega⟩, ⟨by omega, by omega⟩, ?_⟩; exact Or.inl ⟨if_neg (fun q => by omega), hpre1, rfl⟩)) (show (mI S 91) = fp91 from by first | (exact hpre2)) (show (mI S 92) = fp92 from by first | (exact hpre3))
          · skip
            have g21 := i_nlt h18
            have li22 : (512 : Int32).toInt = 512 := rfl
            refine zd (fun h23 => ?_) (fun h23 => ?_)
            · skip
              have g24 := i_le h23
              have li25 : (-1 : Int32).toInt = -1 := rfl
              exact K ((-1 : Int32)) _ hI trivial (show xB S (mR S 70) from by first | (exact xB_x (xC_o (W := 75) hpre0).2)) (show (0 ≤ i.toInt ∧ i.toInt ≤ 15) ∧ (0 ≤ rt.toInt ∧ rt.toInt ≤ 15) ∧ ((aNm ab (ab 73 i.toNatClampNeg) = -1 ∧ aS 88 S = ab ∧ (-1 : Int32) = -1) ∨ (aNm ab (ab 73 i.toNatClampNeg) = ab 73 i.toNatClampNeg ∧ 0 ≤ (ab 73 i.toNatClampNeg).toInt ∧ aS 88 S = aR0 ab rt (ab 73 i.toNatClampNeg) ∧ (-1 : Int32) = ab 73 i.toNatClampNeg)) from by first | (have we : mI S 73 i.toNatClampNeg = ab 73 i.toNatClampNeg := (aS_I (W := 88) (S := S) (c := 73) (c₉ := 73) (k := i.toNatClampNeg) rfl rfl).symm.trans (congrFun (congrFun hpre1 73) i.toNatClampNeg); have wi := congrArg Int32.toInt we; refine ⟨⟨by omega, by omega⟩, ⟨by omega, by omega⟩, ?_⟩; exact Or.inl ⟨if_neg (fun q => by omega), hpre1, rfl⟩)) (show (mI S 91) = fp91 from by first | (exact hpre2)) (show (mI S 92) = fp92 from by first | (exact hpre3))
            · skip
              have g26 := i_nle h23
              refine ⟨i_ix (by omega) (by omega), ?_⟩
              refine ⟨fun hc => ?_, fun c1 hc => ?_⟩
              · skip
                have rn_c1 : zTa (mR S 70) (mI S 73 i.toNatClampNeg) = none := (ta_rd (y := (mI S 73 i.toNatClampNeg)) hpre0 (by omega) (by omega)).symm.trans hc
                have li27 : (-1 : Int32).toInt = -1 := rfl
                exact K ((-1 : Int32)) _ hI trivial (show xB S (mR S 70) from by first | (exact xB_x (xC_o (W := 75) hpre0).2)) (show (0 ≤ i.toInt ∧ i.toInt ≤ 15) ∧ (0 ≤ rt.toInt ∧ rt.toInt ≤ 15) ∧ ((aNm ab (ab 73 i.toNatClampNeg) = -1 ∧ aS 88 S = ab ∧ (-1 : Int32) = -1) ∨ (aNm ab (ab 73 i.toNatClampNeg) = ab 73 i.toNatClampNeg ∧ 0 ≤ (ab 73 i.toNatClampNeg).toInt ∧ aS 88 S = aR0 ab rt (ab 73 i.toNatClampNeg) ∧ (-1 : Int32) = ab 73 i.toNatClampNeg)) from by first | (have we : mI S 73 i.toNatClampNeg = ab 73 i.toNatClampNeg := (aS_I (W := 88) (S := S) (c := 73) (c₉ := 73) (k := i.toNatClampNeg) rfl rfl).symm.trans (congrFun (congrFun hpre1 73) i.toNatClampNeg); have wi := congrArg Int32.toInt we; have nn := nm_n (W := 88) hpre0 rn_c1; rw [hpre1, we] at nn; refine ⟨⟨by omega, by omega⟩, ⟨by omega, by omega⟩, ?_⟩; exact Or.inl ⟨nn, hpre1, rfl⟩)) (show (mI S 91) = fp91 from by first | (exact hpre2)) (show (mI S 92) = fp92 from by first | (exact hpre3))
              · skip
                have th_c1 := (fun _ z => zG_70 hI (c := 70) (by decide) z) c1 hc
                have rg_c1 : zTa (mR S 70) (mI S 73 i.toNatClampNeg) = some c1 := (ta_rd (y := (mI S 73 i.toNatClampNeg)) hpre0 (by omega) (by omega)).symm.trans hc
                refine sp_145_64_91_sm (ab := (aS 88 S)) (R := (mR S 70)) (y := ((mI S 73 i.toNatClampNeg))) (fp91 := (mI S 91)) (fp92 := (mI S 92)) (rt) ((some c1)) (by omega) (by omega) (zB_dn_zL91 hI) (fun _ z => by cases z; exact th_c1) (show xB S (mR S 70) from by first | (exact (xC_o (W := 75) hpre0).2)) (show aS 88 S = (aS 88 S) from by first | (exact rfl)) (show (some c1) = zTa (mR S 70) ((mI S 73 i.toNatClampNeg)) from by first | (exact rg_c1.symm)) (by omega) (by omega) (show (mI S 91) = (mI S 91) from by first | (exact rfl)) (show (mI S 92) = (mI S 92) from by first | (exact rfl)) (fun v3 S2 hL_S2 hq_v3 rp0_S2 rp1_S2 rp2_S2 rp3_S2 rp4_S2 => zo_n ⟨zG_T hL_S2, ?_⟩)
                have hI_S2 := zB_up_zL91 hI hL_S2
                have rp0_S2 : xB S2 (mR S 70) := by
                  have z := rp0_S2
                  (try rw [show mI S 65 = f 65 from funext (fun k => zG_z hI rfl)] at z)
                  (try rw [show mI S 64 1 = f 64 1 from zG_z hI rfl] at z)
                  exact z
                have rp1_S2 : aS 88 S2 = aR0 (aS 88 S) rt ((mI S 73 i.toNatClampNeg)) := by
                  have z := rp1_S2
                  (try rw [show mI S 65 = f 65 from funext (fun k => zG_z hI rfl)] at z)
                  (try rw [show mI S 64 1 = f 64 1 from zG_z hI rfl] at z)
                  exact z
                have rp2_S2 : v3 = zTa (mR S 70) ((aS 88 S) 72 rt.toNatClampNeg) := by
                  have z := rp2_S2
                  (try rw [show mI S 65 = f 65 from funext (fun k => zG_z hI rfl)] at z)
                  (try rw [show mI S 64 1 = f 64 1 from zG_z hI rfl] at z)
                  exact z
                have rp3_S2 : (mI S2 91) = (mI S 91) := by
                  have z := rp3_S2
                  (try rw [show mI S 65 = f 65 from funext (fun k => zG_z hI rfl)] at z)
                  (try rw [show mI S 64 1 = f 64 1 from zG_z hI rfl] at z)
                  exact z
                have rp4_S2 : (mI S2 92) = (mI S 92) := by
                  have z := rp4_S2
                  (try rw [show mI S 65 = f 65 from funext (fun k => zG_z hI rfl)] at z)
                  (try rw [show mI S 64 1 = f 64 1 from zG_z hI rfl] at z)
                  exact z
                refine ⟨zG_n hI_S2 th_c1, ?_⟩
                have f28 := zG_th hI_S2 th_c1
                exact K ((mI S2 c1 0)) _ hI_S2 trivial (show xB S2 (mR S2 70) from by first | (exact xB_x (xC_o (W := 75) rp0_S2).2)) (show (0 ≤ i.toInt ∧ i.toInt ≤ 15) ∧ (0 ≤ rt.toInt ∧ rt.toInt ≤ 15) ∧ ((aNm ab (ab 73 i.toNatClampNeg) = -1 ∧ aS 88 S2 = ab ∧ (mI S2 c1 0) = -1) ∨ (aNm ab (ab 73 i.toNatClampNeg) = ab 73 i.toNatClampNeg ∧ 0 ≤ (ab 73 i.toNatClampNeg).toInt ∧ aS 88 S2 = aR0 ab rt (ab 73 i.toNatClampNeg) ∧ (mI S2 c1 0) = ab 73 i.toNatClampNeg)) from by first | (have we : mI S 73 i.toNatClampNeg = ab 73 i.toNatClampNeg := (aS_I (W := 88) (S := S) (c := 73) (c₉ := 73) (k := i.toNatClampNeg) rfl rfl).symm.trans (congrFun (congrFun hpre1 73) i.toNatClampNeg); have wi := congrArg Int32.toInt we; have nn := nm_y (W := 88) hpre0 rg_c1; rw [hpre1, we] at nn; have w0 := (zTa_p rg_c1).1; have st := rp1_S2; rw [hpre1, we] at st; have tn := (xB_th (W := 88) rp0_S2 rg_c1).2.2.1; refine ⟨⟨by omega, by omega⟩, ⟨by omega, by omega⟩, ?_⟩; exact Or.inr ⟨nn, (by omega), st, tn.trans we⟩)) (show (mI S2 91) = fp91 from by first | (exact (rp3_S2.trans hpre2))) (show (mI S2 92) = fp92 from by first | (exact (rp4_S2.trans hpre3)))

/-! from 95.q52 -/
/-! the moving collectors, the class (written by wip/tools/gen15.py) -/
theorem g_161_64_sm_p91_0 {X : Nat × (Nat → Int32)} {d w : Nat} {S : ma_S} {Q : Option ma_V ⊕ Nat → ma_S → Prop} (o : Int32) (wh : Int32) (hd : 7 ≤ d) (hw : 111 ≤ w) (hS : zT S) (h : if wh < 0 then (Q (.inr 2) (ma_bump S)) else (if wh ≤ (7 : Int32) then (mR S 64 11 = some 91 ∧ (mR S 64 11 = some 91 ∧ (ma_wp X (d - 1) (w - 22) 149 0 [(0, .inr (.inr (some 64))), (1, .inl o)] [] S (zo (fun v2 S1 => zT S1 ∧ ((∃ c3, v2 = some c3 ∧ (if wh = (0 : Int32) then ((126 ≤ c3 ∧ c3 < mN S1) ∧ (Q (.inl (some (.inl (mI S1 c3 4)))) S1)) else (if wh = (1 : Int32) then ((126 ≤ c3 ∧ c3 < mN S1) ∧ (Q (.inl (some (.inl (mI S1 c3 2)))) S1)) else (if wh = (2 : Int32) then ((126 ≤ c3 ∧ c3 < mN S1) ∧ (Q (.inl (some (.inl (mI S1 c3 1)))) S1)) else (if wh = (3 : Int32) then ((126 ≤ c3 ∧ c3 < mN S1) ∧ (Q (.inl (some (.inl (mI S1 c3 5)))) S1)) else (if wh = (4 : Int32) then (Q (.inl (some (.inl (0 : Int32)))) S1) else (if wh = (5 : Int32) then (Q (.inl (some (.inl (0 : Int32)))) S1) else (if wh = (6 : Int32) then ((126 ≤ c3 ∧ c3 < mN S1) ∧ (Q (.inl (some (.inl (mI S1 c3 7)))) S1)) else ((126 ≤ c3 ∧ c3 < mN S1) ∧ (if (mI S1 c3 8) = 0 then (Q (.inl (some (.inl (0 : Int32)))) S1) else (Q (.inl (some (.inl (1 : Int32)))) S1))))))))))))) (fun x S9 => Q (.inr x) S9))))) else (Q (.inr 2) (ma_bump S)))) : ma_wp X d w 161 0 [(0, .inr (.inr (some 64))), (1, .inl o), (2, .inl wh)] [] S Q := by
  refine zw_push hm_161 dX11_about_0 (v := .inl wh) rfl ?_
  refine zw_if0 hm_161 dX11_about_1 (t := 10) rfl zc0_lt ?_ ?_
  · intro hc
    rw [if_pos hc] at h
    exact zw_thr hm_161 dX11_about_10 dX11_about_13 dX11_about_14 dX11_about_17 x_11_79_81 n_11_79 (by omega) (by show 0 + 81 ≤ w; omega) h
  · intro hc
    rw [if_neg hc] at h
    refine zw_push hm_161 dX11_about_4 (v := .inl wh) rfl ?_
    refine zw_push hm_161 dX11_about_5 (v := .inl (7 : Int32)) rfl ?_
    refine zw_if2 hm_161 dX11_about_7 (t := 18) rfl zc2_le ?_ ?_
    · intro hc
      rw [if_pos hc] at h
      refine zw_push hm_161 dX11_about_18 (v := .inr (.inr (some 64))) rfl ?_
      refine zw_cv hm_161 dX11_about_19 v_11_119_11 hm_144 [] [] rfl (zT_rt hS s_64 rfl) ⟨by omega, by omega⟩ rfl ?_
      show ma_wp X (d - 1) (w - 20) 144 0 [(0, .inr (.inr (some 64)))] [] S _
      refine zw_push hm_144 dX11_needCollector_0 (v := .inr (.inr (some 64))) rfl ?_
      obtain ⟨hg, h⟩ := h
      refine zw_gf hm_144 dX11_needCollector_1 (v := .inr (.inr (some 91))) (zT_is hS s_64) (zT_t hS s_64) rfl f_11_98_11 (congrArg (fun z => Sum.inr (Sum.inr z)) hg) ?_
      refine zw_ifnonnull hm_144 dX11_needCollector_4 (t := 15) rfl (fun z => by cases z) (fun _ _ => ?_)
      refine zw_push hm_144 dX11_needCollector_15 (v := .inr (.inr (some 64))) rfl ?_
      obtain ⟨hg, h⟩ := h
      refine zw_gf hm_144 dX11_needCollector_16 (v := .inr (.inr (some 91))) (zT_is hS s_64) (zT_t hS s_64) rfl f_11_98_11 (congrArg (fun z => Sum.inr (Sum.inr z)) hg) ?_
      refine zw_aret hm_144 dX11_needCollector_19 ?_
      show ma_wp X d w 161 22 [(0, .inr (.inr (some 64))), (1, .inl o), (2, .inl wh)] [.inr (.inr (some 91))] S _
      refine zw_sto hm_161 dX11_about_22 [(3, .inr (.inr (some 91))), (0, .inr (.inr (some 64))), (1, .inl o), (2, .inl wh)] rfl rfl rfl ?_
      refine zw_push hm_161 dX11_about_23 (v := .inr (.inr (some 64))) rfl ?_
      refine zw_push hm_161 dX11_about_24 (v := .inl o) rfl ?_
      refine zw_cv hm_161 dX11_about_25 v_11_123_11 hm_149 [.inl o] [] rfl (zT_rt hS s_64 rfl) ⟨by omega, by omega⟩ rfl (zw_mono h (zo_go ?_ ?_))
      · intro v2 S1 hv
        obtain ⟨hS1, h⟩ := hv
        obtain ⟨c3, hc, h⟩ := h
        subst hc
        show ma_wp X d w 161 28 [(3, .inr (.inr (some 91))), (0, .inr (.inr (some 64))), (1, .inl o), (2, .inl wh)] [.inr (.inr (some c3))] S1 _
        refine zw_sto hm_161 dX11_about_28 [(4, .inr (.inr (some c3))), (3, .inr (.inr (some 91))), (0, .inr (.inr (some 64))), (1, .inl o), (2, .inl wh)] rfl rfl rfl ?_
        refine zw_push hm_161 dX11_about_30 (v := .inl wh) rfl ?_
        by_cases hc0 : wh = (0 : Int32)
        · rw [if_pos hc0] at h
          refine zw_jmp hm_161 dX11_about_31 (t := 72) (st₉ := []) rfl rfl rfl (ma_jmp_tab (by rw [hc0]; decide +kernel)) ?_
          refine zw_push hm_161 dX11_about_72 (v := .inr (.inr (some c3))) rfl ?_
          obtain ⟨hg, h⟩ := h
          refine zw_gf hm_161 dX11_about_74 (v := .inl (mI S1 c3 4)) (zT_tis hS1 hg) (zT_tt hS1 hg) rfl f_11_214_9 rfl ?_
          exact zw_iret hm_161 dX11_about_77 h
        rw [if_neg hc0] at h
        by_cases hc1 : wh = (1 : Int32)
        · rw [if_pos hc1] at h
          refine zw_jmp hm_161 dX11_about_31 (t := 78) (st₉ := []) rfl rfl rfl (ma_jmp_tab (by rw [hc1]; decide +kernel)) ?_
          refine zw_push hm_161 dX11_about_78 (v := .inr (.inr (some c3))) rfl ?_
          obtain ⟨hg, h⟩ := h
          refine zw_gf hm_161 dX11_about_80 (v := .inl (mI S1 c3 2)) (zT_tis hS1 hg) (zT_tt hS1 hg) rfl f_11_217_9 rfl ?_
          exact zw_iret hm_161 dX11_about_83 h
        rw [if_neg hc1] at h
        by_cases hc2 : wh = (2 : Int32)
        · rw [if_pos hc2] at h
          refine zw_jmp hm_161 dX11_about_31 (t := 84) (st₉ := []) rfl rfl rfl (ma_jmp_tab (by rw [hc2]; decide +kernel)) ?_
          refine zw_push hm_161 dX11_about_84 (v := .inr (.inr (some c3))) rfl ?_
          obtain ⟨hg, h⟩ := h
          refine zw_gf hm_161 dX11_about_86 (v := .inl (mI S1 c3 1)) (zT_tis hS1 hg) (zT_tt hS1 hg) rfl f_11_220_9 rfl ?_
          exact zw_iret hm_161 dX11_about_89 h
        rw [if_neg hc2] at h
        by_cases hc3 : wh = (3 : Int32)
        · rw [if_pos hc3] at h
          refine zw_jmp hm_161 dX11_about_31 (t := 90) (st₉ := []) rfl rfl rfl (ma_jmp_tab (by rw [hc3]; decide +kernel)) ?_
          refine zw_push hm_161 dX11_about_90 (v := .inr (.inr (some c3))) rfl ?_
          obtain ⟨hg, h⟩ := h
          refine zw_gf hm_161 dX11_about_92 (v := .inl (mI S1 c3 5)) (zT_tis hS1 hg) (zT_tt hS1 hg) rfl f_11_223_9 rfl ?_
          exact zw_iret hm_161 dX11_about_95 h
        rw [if_neg hc3] at h
        by_cases hc4 : wh = (4 : Int32)
        · rw [if_pos hc4] at h
          refine zw_jmp hm_161 dX11_about_31 (t := 96) (st₉ := []) rfl rfl rfl (ma_jmp_tab (by rw [hc4]; decide +kernel)) ?_
          refine zw_push hm_161 dX11_about_96 (v := .inr (.inr (some 91))) rfl ?_
          refine zw_push hm_161 dX11_about_97 (v := .inr (.inr (some c3))) rfl ?_
          refine zw_cv hm_161 dX11_about_99 v_11_226_4 hm_270 [.inr (.inr (some c3))] [] rfl (zT_rt hS1 s_91 rfl) ⟨by omega, by omega⟩ rfl ?_
          show ma_wp X (d - 1) (w - 21) 270 0 [(0, .inr (.inr (some 91))), (1, .inr (.inr (some c3)))] [] S1 _
          refine zw_push hm_270 dX1_countOf_0 (v := .inl (0 : Int32)) rfl ?_
          refine zw_iret hm_270 dX1_countOf_1 ?_
          show ma_wp X d w 161 102 [(4, .inr (.inr (some c3))), (3, .inr (.inr (some 91))), (0, .inr (.inr (some 64))), (1, .inl o), (2, .inl wh)] [.inl (0 : Int32)] S1 _
          exact zw_iret hm_161 dX11_about_102 h
        rw [if_neg hc4] at h
        by_cases hc5 : wh = (5 : Int32)
        · rw [if_pos hc5] at h
          refine zw_jmp hm_161 dX11_about_31 (t := 103) (st₉ := []) rfl rfl rfl (ma_jmp_tab (by rw [hc5]; decide +kernel)) ?_
          refine zw_push hm_161 dX11_about_103 (v := .inr (.inr (some 91))) rfl ?_
          refine zw_push hm_161 dX11_about_104 (v := .inr (.inr (some c3))) rfl ?_
          refine zw_cv hm_161 dX11_about_106 v_11_229_4 hm_271 [.inr (.inr (some c3))] [] rfl (zT_rt hS1 s_91 rfl) ⟨by omega, by omega⟩ rfl ?_
          show ma_wp X (d - 1) (w - 21) 271 0 [(0, .inr (.inr (some 91))), (1, .inr (.inr (some c3)))] [] S1 _
          refine zw_push hm_271 dX1_colourOf_0 (v := .inl (0 : Int32)) rfl ?_
          refine zw_iret hm_271 dX1_colourOf_1 ?_
          show ma_wp X d w 161 109 [(4, .inr (.inr (some c3))), (3, .inr (.inr (some 91))), (0, .inr (.inr (some 64))), (1, .inl o), (2, .inl wh)] [.inl (0 : Int32)] S1 _
          exact zw_iret hm_161 dX11_about_109 h
        rw [if_neg hc5] at h
        by_cases hc6 : wh = (6 : Int32)
        · rw [if_pos hc6] at h
          refine zw_jmp hm_161 dX11_about_31 (t := 110) (st₉ := []) rfl rfl rfl (ma_jmp_tab (by rw [hc6]; decide +kernel)) ?_
          refine zw_push hm_161 dX11_about_110 (v := .inr (.inr (some c3))) rfl ?_
          obtain ⟨hg, h⟩ := h
          refine zw_gf hm_161 dX11_about_112 (v := .inl (mI S1 c3 7)) (zT_tis hS1 hg) (zT_tt hS1 hg) rfl f_11_189_9 rfl ?_
          exact zw_iret hm_161 dX11_about_115 h
        rw [if_neg hc6] at h
        refine zw_jmp hm_161 dX11_about_31 (t := 116) (st₉ := []) rfl rfl rfl (ma_jmp_def (m := 7) (by decide) (fun j hj => by
            have hj2 : j = 0 ∨ j = 1 ∨ j = 2 ∨ j = 3 ∨ j = 4 ∨ j = 5 ∨ j = 6 := by omega
            rcases hj2 with rfl | rfl | rfl | rfl | rfl | rfl | rfl
            · exact hc0
            · exact hc1
            · exact hc2
            · exact hc3
            · exact hc4
            · exact hc5
            · exact hc6
            ) rfl) ?_
        refine zw_push hm_161 dX11_about_116 (v := .inr (.inr (some c3))) rfl ?_
        obtain ⟨hg, h⟩ := h
        refine zw_gf hm_161 dX11_about_118 (v := .inl (mI S1 c3 8)) (zT_tis hS1 hg) (zT_tt hS1 hg) rfl f_11_199_9 rfl ?_
        refine zw_if0 hm_161 dX11_about_121 (t := 128) rfl zc0_eq ?_ ?_
        · intro hc
          rw [if_pos hc] at h
          refine zw_push hm_161 dX11_about_128 (v := .inl (0 : Int32)) rfl ?_
          exact zw_iret hm_161 dX11_about_129 h
        · intro hc
          rw [if_neg hc] at h
          refine zw_push hm_161 dX11_about_124 (v := .inl (1 : Int32)) rfl ?_
          refine zw_goto hm_161 dX11_about_125 (t := 129) rfl ?_
          exact zw_iret hm_161 dX11_about_129 h
      · intro x S9 hx
        exact ⟨by decide, hx⟩
    · intro hc
      rw [if_neg hc] at h
      exact zw_thr hm_161 dX11_about_10 dX11_about_13 dX11_about_14 dX11_about_17 x_11_79_81 n_11_79 (by omega) (by show 0 + 81 ≤ w; omega) h
theorem sp_161_64_sm_p91 {X : Nat × (Nat → Int32)} {d w : Nat} {f : Nat → Nat → Int32} {r : Nat → Nat → Option Nat} {C Z N : Nat} {Q : Option ma_V ⊕ Nat → ma_S → Prop} {ab : Nat→Nat→Int32} {fp91 : Nat→Int32} {fp92 : Nat→Int32} {S : ma_S} (o : Int32) (wh : Int32) (hd : 7 ≤ d) (hw : 111 ≤ w) (hI : zB f r C Z N S) (hr : r 64 11 = some 91) (hpre0 : xB S (mR S 70)) (hpre1 : aS 88 S = ab) (hpre2 : (mI S 91) = fp91) (hpre3 : (mI S 92) = fp92) (K : ∀ v S₉, zB f r C Z N S₉ → (True) → (xB S₉ (mR S₉ 70)) → (aS 88 S₉ = ab) → ((mI S₉ 91) = fp91) → ((mI S₉ 92) = fp92) → Q (.inl (some (.inl v))) S₉) (KX : ∀ x S₉, (x = 2 ∨ x = 4) → zB f r C Z N S₉ → (xB S₉ (mR S₉ 70)) → (aS 88 S₉ = ab) → ((mI S₉ 91) = fp91) → ((mI S₉ 92) = fp92) → Q (.inr x) (ma_bump S₉)) : ma_wp X d w 161 0 [(0, .inr (.inr (some 64))), (1, .inl o), (2, .inl wh)] [] S Q := by
  refine g_161_64_sm_p91_0 o wh (by omega) (by omega) (zG_T hI) ?_
  have b1 := i_bd wh
  have li2 : (0 : Int32).toInt = 0 := rfl
  refine zd (fun h3 => ?_) (fun h3 => ?_)
  · skip
    have g4 := i_lt h3
    exact KX 2 _ (by decide) hI (show xB S (mR S 70) from by first | (exact xB_x (xC_o (W := 75) hpre0).2)) (show aS 88 S = ab from by first | (exact (xC_o (W := 88) hpre0).1.trans hpre1)) (show (mI S 91) = fp91 from by first | (exact hpre2)) (show (mI S 92) = fp92 from by first | (exact hpre3))
  · skip
    have g5 := i_nlt h3
    have li6 : (7 : Int32).toInt = 7 := rfl
    refine zd (fun h7 => ?_) (fun h7 => ?_)
    · skip
      have g8 := i_le h7
      refine ⟨((zG_r hI (by decide)).trans hr), ?_⟩
      refine ⟨((zG_r hI (by decide)).trans hr), ?_⟩
      have b9 := i_bd o
      refine sp_149_64_s (R := (mR S 70)) (a7 := (aS 75 S)) (a8 := (aS 88 S)) (o) (by omega) (by omega) (zB_dn_zI hI) (show xB S (mR S 70) from by first | (exact (xC_o (W := 75) hpre0).2)) (show aS 75 S = (aS 75 S) from by first | (exact rfl)) (show aS 88 S = (aS 88 S) from by first | (exact rfl)) (fun v2 S1 hL_S1 hq_v2 rp0_S1 rp1_S1 rp2_S1 rp3_S1 => zo_n ⟨zG_T hL_S1, ?_⟩) (fun x S9 hx h9 rx0 rx1 rx2 => by have h9u := (zB_up_zI hI h9); exact zo_x (KX x S9 (by omega) h9u (show xB S9 (mR S9 70) from by first | (exact xB_x (xC_o (W := 75) rx0).2)) (show aS 88 S9 = ab from by first | (exact rx1.trans hpre1)) (show (mI S9 91) = fp91 from by first | (exact ((show mI _ 91 = mI _ 91 from funext (fun _ => zG_z h9 rfl)).trans hpre2))) (show (mI S9 92) = fp92 from by first | (exact ((show mI _ 92 = mI _ 92 from funext (fun _ => zG_z h9 rfl)).trans hpre3)))))
      have hI_S1 := zB_up_zI hI hL_S1
      have rp0_S1 : xB S1 (mR S 70) := by
        have z := rp0_S1
        (try rw [show mI S 65 = f 65 from funext (fun k => zG_z hI rfl)] at z)
        (try rw [show mI S 64 1 = f 64 1 from zG_z hI rfl] at z)
        exact z
      have rp1_S1 : aS 88 S1 = (aS 88 S) := by
        have z := rp1_S1
        (try rw [show mI S 65 = f 65 from funext (fun k => zG_z hI rfl)] at z)
        (try rw [show mI S 64 1 = f 64 1 from zG_z hI rfl] at z)
        exact z
      have rp2_S1 : v2 = zTa (mR S 70) o := by
        have z := rp2_S1
        (try rw [show mI S 65 = f 65 from funext (fun k => zG_z hI rfl)] at z)
        (try rw [show mI S 64 1 = f 64 1 from zG_z hI rfl] at z)
        exact z
      have rp3_S1 : zRq (aS 75 S) o := by
        have z := rp3_S1
        (try rw [show mI S 65 = f 65 from funext (fun k => zG_z hI rfl)] at z)
        (try rw [show mI S 64 1 = f 64 1 from zG_z hI rfl] at z)
        exact z
      obtain ⟨c3, hc, th_c3⟩ := hq_v2
      have rg_c3 : zTa (mR S 70) o = some c3 := rp2_S1.symm.trans hc
      refine ⟨c3, hc, ?_⟩
      refine zd (fun h10 => ?_) (fun h10 => ?_)
      · skip
        have g11 := i_eq h10
        refine ⟨zG_n hI_S1 th_c3, ?_⟩
        have f12 := zG_th hI_S1 th_c3
        exact K ((mI S1 c3 4)) _ hI_S1 trivial (show xB S1 (mR S1 70) from by first | (exact xB_x (xC_o (W := 75) rp0_S1).2)) (show aS 88 S1 = ab from by first | (exact (xC_o (W := 88) rp0_S1).1.trans (rp1_S1.trans hpre1))) (show (mI S1 91) = fp91 from by first | (exact ((show mI S1 91 = mI S 91 from funext (fun _ => zG_z hL_S1 rfl)).trans hpre2))) (show (mI S1 92) = fp92 from by first | (exact ((show mI S1 92 = mI S 92 from funext (fun _ => zG_z hL_S1 rfl)).trans hpre3)))
      · skip
        have g13 := i_ne h10
        have li14 : (1 : Int32).toInt = 1 := rfl
        refine zd (fun h15 => ?_) (fun h15 => ?_)
        · skip
          have g16 := i_eq h15
          refine ⟨zG_n hI_S1 th_c3, ?_⟩
          have f17 := zG_th hI_S1 th_c3
          exact K ((mI S1 c3 2)) _ hI_S1 trivial (show xB S1 (mR S1 70) from by first | (exact xB_x (xC_o (W := 75) rp0_S1).2)) (show aS 88 S1 = ab from by first | (exact (xC_o (W := 88) rp0_S1).1.trans (rp1_S1.trans hpre1))) (show (mI S1 91) = fp91 from by first | (exact ((show mI S1 91 = mI S 91 from funext (fun _ => zG_z hL_S1 rfl)).trans hpre2))) (show (mI S1 92) = fp92 from by first | (exact ((show mI S1 92 = mI S 92 from funext (fun _ => zG_z hL_S1 rfl)).trans hpre3)))
        · skip
          have g18 := i_ne h15
          have li19 : (2 : Int32).toInt = 2 := rfl
          refine zd (fun h20 => ?_) (fun h20 => ?_)
          · skip
            have g21 := i_eq h20
            refine ⟨zG_n hI_S1 th_c3, ?_⟩
            have b22 := i_bd (mI S1 c3 1)
            exact K ((mI S1 c3 1)) _ hI_S1 trivial (show xB S1 (mR S1 70) from by first | (exact xB_x (xC_o (W := 75) rp0_S1).2)) (show aS 88 S1 = ab from by first | (exact (xC_o (W := 88) rp0_S1).1.trans (rp1_S1.trans hpre1))) (show (mI S1 91) = fp91 from by first | (exact ((show mI S1 91 = mI S 91 from funext (fun _ => zG_z hL_S1 rfl)).trans hpre2))) (show (mI S1 92) = fp92 from by first | (exact ((show mI S1 92 = mI S 92 from funext (fun _ => zG_z hL_S1 rfl)).trans hpre3)))
          · skip
            have g23 := i_ne h20
            have li24 : (3 : Int32).toInt = 3 := rfl
            refine zd (fun h25 => ?_) (fun h25 => ?_)
            · skip
              have g26 := i_eq h25
              refine ⟨zG_n hI_S1 th_c3, ?_⟩
              have b27 := i_bd (mI S1 c3 5)
              exact K ((mI S1 c3 5)) _ hI_S1 trivial (show xB S1 (mR S1 70) from by first | (exact xB_x (xC_o (W := 75) rp0_S1).2)) (show aS 88 S1 = ab from by first | (exact (xC_o (W := 88) rp0_S1).1.trans (rp1_S1.trans hpre1))) (show (mI S1 91) = fp91 from by first | (exact ((show mI S1 91 = mI S 91 from funext (fun _ => zG_z hL_S1 rfl)).trans hpre2))) (show (mI S1 92) = fp92 from by first | (exact ((show mI S1 92 = mI S 92 from funext (fun _ => zG_z hL_S1 rfl)).trans hpre3)))
            · skip
              have g28 := i_ne h25
              have li29 : (4 : Int32).toInt = 4 := rfl
              refine zd (fun h30 => ?_) (fun h30 => ?_)
              · skip
                have g31 := i_eq h30
                exact K ((0 : Int32)) _ hI_S1 trivial (show xB S1 (mR S1 70) from by first | (exact xB_x (xC_o (W := 75) rp0_S1).2)) (show aS 88 S1 = ab from by first | (exact (xC_o (W := 88) rp0_S1).1.trans (rp1_S1.trans hpre1))) (show (mI S1 91) = fp91 from by first | (exact ((show mI S1 91 = mI S 91 from funext (fun _ => zG_z hL_S1 rfl)).trans hpre2))) (show (mI S1 92) = fp92 from by first | (exact ((show mI S1 92 = mI S 92 from funext (fun _ => zG_z hL_S1 rfl)).trans hpre3)))
              · skip
                have g32 := i_ne h30
                have li33 : (5 : Int32).toInt = 5 := rfl
                refine zd (fun h34 => ?_) (fun h34 => ?_)
                · skip
                  have g35 := i_eq h34
                  exact K ((0 : Int32)) _ hI_S1 trivial (show xB S1 (mR S1 70) from by first | (exact xB_x (xC_o (W := 75) rp0_S1).2)) (show aS 88 S1 = ab from by first | (exact (xC_o (W := 88) rp0_S1).1.trans (rp1_S1.trans hpre1))) (show (mI S1 91) = fp91 from by first | (exact ((show mI S1 91 = mI S 91 from funext (fun _ => zG_z hL_S1 rfl)).trans hpre2))) (show (mI S1 92) = fp92 from by first | (exact ((show mI S1 92 = mI S 92 from funext (fun _ => zG_z hL_S1 rfl)).trans hpre3)))
                · skip
                  have g36 := i_ne h34
                  have li37 : (6 : Int32).toInt = 6 := rfl
                  refine zd (fun h38 => ?_) (fun h38 => ?_)
                  · skip
                    have g39 := i_eq h38
                    refine ⟨zG_n hI_S1 th_c3, ?_⟩
                    have b40 := i_bd (mI S1 c3 7)
                    exact K ((mI S1 c3 7)) _ hI_S1 trivial (show xB S1 (mR S1 70) from by first | (exact xB_x (xC_o (W := 75) rp0_S1).2)) (show aS 88 S1 = ab from by first | (exact (xC_o (W := 88) rp0_S1).1.trans (rp1_S1.trans hpre1))) (show (mI S1 91) = fp91 from by first | (exact ((show mI S1 91 = mI S 91 from funext (fun _ => zG_z hL_S1 rfl)).trans hpre2))) (show (mI S1 92) = fp92 from by first | (exact ((show mI S1 92 = mI S 92 from funext (fun _ => zG_z hL_S1 rfl)).trans hpre3)))
                  · skip
                    have g41 := i_ne h38
                    refine ⟨zG_n hI_S1 th_c3, ?_⟩
                    have b42 := i_bd (mI S1 c3 8)
                    refine zd (fun h43 => ?_) (fun h43 => ?_)
                    · skip
                      have g44 := i_eq h43
                      exact K ((0 : Int32)) _ hI_S1 trivial (show xB S1 (mR S1 70) from by first | (exact xB_x (xC_o (W := 75) rp0_S1).2)) (show aS 88 S1 = ab from by first | (exact (xC_o (W := 88) rp0_S1).1.trans (rp1_S1.trans hpre1))) (show (mI S1 91) = fp91 from by first | (exact ((show mI S1 91 = mI S 91 from funext (fun _ => zG_z hL_S1 rfl)).trans hpre2))) (show (mI S1 92) = fp92 from by first | (exact ((show mI S1 92 = mI S 92 from funext (fun _ => zG_z hL_S1 rfl)).trans hpre3)))
                    · skip
                      have g45 := i_ne h43
                      exact K ((1 : Int32)) _ hI_S1 trivial (show xB S1 (mR S1 70) from by first | (exact xB_x (xC_o (W := 75) rp0_S1).2)) (show aS 88 S1 = ab from by first | (exact (xC_o (W := 88) rp0_S1).1.trans (rp1_S1.trans hpre1))) (show (mI S1 91) = fp91 from by first | (exact ((show mI S1 91 = mI S 91 from funext (fun _ => zG_z hL_S1 rfl)).trans hpre2))) (show (mI S1 92) = fp92 from by first | (exact ((show mI S1 92 = mI S 92 from funext (fun _ => zG_z hL_S1 rfl)).trans hpre3)))
    · skip
      have g46 := i_nle h7
      exact KX 2 _ (by decide) hI (show xB S (mR S 70) from by first | (exact xB_x (xC_o (W := 75) hpre0).2)) (show aS 88 S = ab from by first | (exact (xC_o (W := 88) hpre0).1.trans hpre1)) (show (mI S 91) = fp91 from by first | (exact hpre2)) (show (mI S 92) = fp92 from by first | (exact hpre3))

