/-! from 95.k34 -/
/-! the collectors that sweep, the class (written by wip/tools/gen20.py) -/
theorem g_155_64_s_p79_0 {X : Nat × (Nat → Int32)} {d w : Nat} {S : ma_S} {Q : Option ma_V ⊕ Nat → ma_S → Prop} (i : Int32) (rt : Int32) (hd : 7 ≤ d) (hw : 134 ≤ w) (hS : zT S) (h : if i < 0 then (Q (.inr 2) (ma_bump S)) else (if (16 : Int32) ≤ i then (Q (.inr 2) (ma_bump S)) else (if rt < 0 then (Q (.inr 2) (ma_bump S)) else (if (16 : Int32) ≤ rt then (Q (.inr 2) (ma_bump S)) else (mR S 64 11 = some 79 ∧ (mR S 64 11 = some 79 ∧ ((0 ≤ i ∧ i.toNatClampNeg < 16) ∧ (if (mI S 73 i.toNatClampNeg) < 0 then (Q (.inl (some (.inl (-1 : Int32)))) S) else (if (512 : Int32) ≤ (mI S 73 i.toNatClampNeg) then (Q (.inl (some (.inl (-1 : Int32)))) S) else ((0 ≤ (mI S 73 i.toNatClampNeg) ∧ (mI S 73 i.toNatClampNeg).toNatClampNeg < 512) ∧ (((mR S 70 (mI S 73 i.toNatClampNeg).toNatClampNeg) = none → Q (.inl (some (.inl (-1 : Int32)))) S) ∧ (∀ c1, (mR S 70 (mI S 73 i.toNatClampNeg).toNatClampNeg) = some c1 → ma_wp X (d - 1) (w - 24) 145 0 [(0, .inr (.inr (some 64))), (1, .inr (.inr (some 79))), (2, .inl rt), (3, .inr (.inr (some c1)))] [] S (zo (fun v3 S2 => zT S2 ∧ ((126 ≤ c1 ∧ c1 < mN S2) ∧ (Q (.inl (some (.inl (mI S2 c1 0)))) S2))) (fun x S9 => Q (.inr x) S9)))))))))))))) : ma_wp X d w 155 0 [(0, .inr (.inr (some 64))), (1, .inl i), (2, .inl rt)] [] S Q := by
  refine zw_push hm_155 dX11_strong_0 (v := .inl i) rfl ?_
  refine zw_cs hm_155 dX11_strong_1 pn_11_109 sl_11_109 hm_142 [.inl i] [] rfl ⟨by omega, by omega⟩ rfl ?_
  show ma_wp X (d - 1) (w - 20) 142 0 [(0, .inl i)] [] S _
  refine zw_push hm_142 dX11_isSlot_0 (v := .inl i) rfl ?_
  refine zw_if0 hm_142 dX11_isSlot_1 (t := 14) rfl zc0_lt ?_ ?_
  · intro hc
    rw [if_pos hc] at h
    refine zw_push hm_142 dX11_isSlot_14 (v := .inl (0 : Int32)) rfl ?_
    refine zw_bret hm_142 dX11_isSlot_15 (by decide) ?_
    show ma_wp X d w 155 4 [(0, .inr (.inr (some 64))), (1, .inl i), (2, .inl rt)] [.inl (0 : Int32)] S _
    refine zw_if0 hm_155 dX11_strong_4 (t := 14) rfl zc0_eq (fun _ => ?_) (fun hc => absurd (by decide) hc)
    exact zw_thr hm_155 dX11_strong_14 dX11_strong_17 dX11_strong_18 dX11_strong_21 x_11_79_81 n_11_79 (by omega) (by show 0 + 81 ≤ w; omega) h
  · intro hc
    rw [if_neg hc] at h
    refine zw_push hm_142 dX11_isSlot_4 (v := .inl i) rfl ?_
    refine zw_push hm_142 dX11_isSlot_5 (v := .inl (16 : Int32)) rfl ?_
    refine zw_if2 hm_142 dX11_isSlot_7 (t := 14) rfl zc2_ge ?_ ?_
    · intro hc
      rw [if_pos hc] at h
      refine zw_push hm_142 dX11_isSlot_14 (v := .inl (0 : Int32)) rfl ?_
      refine zw_bret hm_142 dX11_isSlot_15 (by decide) ?_
      show ma_wp X d w 155 4 [(0, .inr (.inr (some 64))), (1, .inl i), (2, .inl rt)] [.inl (0 : Int32)] S _
      refine zw_if0 hm_155 dX11_strong_4 (t := 14) rfl zc0_eq (fun _ => ?_) (fun hc => absurd (by decide) hc)
      exact zw_thr hm_155 dX11_strong_14 dX11_strong_17 dX11_strong_18 dX11_strong_21 x_11_79_81 n_11_79 (by omega) (by show 0 + 81 ≤ w; omega) h
    · intro hc
      rw [if_neg hc] at h
      refine zw_push hm_142 dX11_isSlot_10 (v := .inl (1 : Int32)) rfl ?_
      refine zw_goto hm_142 dX11_isSlot_11 (t := 15) rfl ?_
      refine zw_bret hm_142 dX11_isSlot_15 (by decide) ?_
      show ma_wp X d w 155 4 [(0, .inr (.inr (some 64))), (1, .inl i), (2, .inl rt)] [.inl (1 : Int32)] S _
      refine zw_if0 hm_155 dX11_strong_4 (t := 14) rfl zc0_eq (fun hc => absurd hc (by decide)) (fun _ => ?_)
      refine zw_push hm_155 dX11_strong_7 (v := .inl rt) rfl ?_
      refine zw_cs hm_155 dX11_strong_8 pn_11_109 sl_11_109 hm_142 [.inl rt] [] rfl ⟨by omega, by omega⟩ rfl ?_
      show ma_wp X (d - 1) (w - 20) 142 0 [(0, .inl rt)] [] S _
      refine zw_push hm_142 dX11_isSlot_0 (v := .inl rt) rfl ?_
      refine zw_if0 hm_142 dX11_isSlot_1 (t := 14) rfl zc0_lt ?_ ?_
      · intro hc
        rw [if_pos hc] at h
        refine zw_push hm_142 dX11_isSlot_14 (v := .inl (0 : Int32)) rfl ?_
        refine zw_bret hm_142 dX11_isSlot_15 (by decide) ?_
        show ma_wp X d w 155 11 [(0, .inr (.inr (some 64))), (1, .inl i), (2, .inl rt)] [.inl (0 : Int32)] S _
        refine zw_if0 hm_155 dX11_strong_11 (t := 22) rfl zc0_ne (fun hc => absurd hc (by decide)) (fun _ => ?_)
        exact zw_thr hm_155 dX11_strong_14 dX11_strong_17 dX11_strong_18 dX11_strong_21 x_11_79_81 n_11_79 (by omega) (by show 0 + 81 ≤ w; omega) h
      · intro hc
        rw [if_neg hc] at h
        refine zw_push hm_142 dX11_isSlot_4 (v := .inl rt) rfl ?_
        refine zw_push hm_142 dX11_isSlot_5 (v := .inl (16 : Int32)) rfl ?_
        refine zw_if2 hm_142 dX11_isSlot_7 (t := 14) rfl zc2_ge ?_ ?_
        · intro hc
          rw [if_pos hc] at h
          refine zw_push hm_142 dX11_isSlot_14 (v := .inl (0 : Int32)) rfl ?_
          refine zw_bret hm_142 dX11_isSlot_15 (by decide) ?_
          show ma_wp X d w 155 11 [(0, .inr (.inr (some 64))), (1, .inl i), (2, .inl rt)] [.inl (0 : Int32)] S _
          refine zw_if0 hm_155 dX11_strong_11 (t := 22) rfl zc0_ne (fun hc => absurd hc (by decide)) (fun _ => ?_)
          exact zw_thr hm_155 dX11_strong_14 dX11_strong_17 dX11_strong_18 dX11_strong_21 x_11_79_81 n_11_79 (by omega) (by show 0 + 81 ≤ w; omega) h
        · intro hc
          rw [if_neg hc] at h
          refine zw_push hm_142 dX11_isSlot_10 (v := .inl (1 : Int32)) rfl ?_
          refine zw_goto hm_142 dX11_isSlot_11 (t := 15) rfl ?_
          refine zw_bret hm_142 dX11_isSlot_15 (by decide) ?_
          show ma_wp X d w 155 11 [(0, .inr (.inr (some 64))), (1, .inl i), (2, .inl rt)] [.inl (1 : Int32)] S _
          refine zw_if0 hm_155 dX11_strong_11 (t := 22) rfl zc0_ne (fun _ => ?_) (fun hc => absurd (by decide) hc)
          refine zw_push hm_155 dX11_strong_22 (v := .inr (.inr (some 64))) rfl ?_
          refine zw_cv hm_155 dX11_strong_23 v_11_119_11 hm_144 [] [] rfl (zT_rt hS s_64 rfl) ⟨by omega, by omega⟩ rfl ?_
          show ma_wp X (d - 1) (w - 20) 144 0 [(0, .inr (.inr (some 64)))] [] S _
          refine zw_push hm_144 dX11_needCollector_0 (v := .inr (.inr (some 64))) rfl ?_
          obtain ⟨hg, h⟩ := h
          refine zw_gf hm_144 dX11_needCollector_1 (v := .inr (.inr (some 79))) (zT_is hS s_64) (zT_t hS s_64) rfl f_11_98_11 (congrArg (fun z => Sum.inr (Sum.inr z)) hg) ?_
          refine zw_ifnonnull hm_144 dX11_needCollector_4 (t := 15) rfl (fun z => by cases z) (fun _ _ => ?_)
          refine zw_push hm_144 dX11_needCollector_15 (v := .inr (.inr (some 64))) rfl ?_
          obtain ⟨hg, h⟩ := h
          refine zw_gf hm_144 dX11_needCollector_16 (v := .inr (.inr (some 79))) (zT_is hS s_64) (zT_t hS s_64) rfl f_11_98_11 (congrArg (fun z => Sum.inr (Sum.inr z)) hg) ?_
          refine zw_aret hm_144 dX11_needCollector_19 ?_
          show ma_wp X d w 155 26 [(0, .inr (.inr (some 64))), (1, .inl i), (2, .inl rt)] [.inr (.inr (some 79))] S _
          refine zw_sto hm_155 dX11_strong_26 [(3, .inr (.inr (some 79))), (0, .inr (.inr (some 64))), (1, .inl i), (2, .inl rt)] rfl rfl rfl ?_
          refine zw_push hm_155 dX11_strong_27 (v := .inr (.inr (some 64))) rfl ?_
          refine zw_gf hm_155 dX11_strong_28 (v := .inr (.inr (some 69))) (zT_is hS s_64) (zT_t hS s_64) rfl f_11_26_11 (zT_f hS r_64_8) ?_
          refine zw_push hm_155 dX11_strong_31 (v := .inr (.inr (some 64))) rfl ?_
          refine zw_gf hm_155 dX11_strong_32 (v := .inr (.inr (some 69))) (zT_is hS s_64) (zT_t hS s_64) rfl f_11_26_11 (zT_f hS r_64_8) ?_
          refine zw_gf hm_155 dX11_strong_35 (v := .inr (.inr (some 73))) (zT_is hS s_69) (zT_t hS s_69) rfl f_11_173_7 (zT_f hS r_69_3) ?_
          refine zw_push hm_155 dX11_strong_38 (v := .inl i) rfl ?_
          obtain ⟨hg, h⟩ := h
          refine zw_ia hm_155 dX11_strong_39 (zT_is hS s_73) (zT_h hS s_73) rfl hg ?_
          show ma_wp X d w 155 40 [(3, .inr (.inr (some 79))), (0, .inr (.inr (some 64))), (1, .inl i), (2, .inl rt)] [.inl (mI S 73 i.toNatClampNeg), .inr (.inr (some 69))] S _
          refine zw_cv hm_155 dX11_strong_40 v_11_176_7 hm_81 [.inl (mI S 73 i.toNatClampNeg)] [] rfl (zT_rt hS s_69 rfl) ⟨by omega, by omega⟩ rfl ?_
          show ma_wp X (d - 1) (w - 21) 81 0 [(0, .inr (.inr (some 69))), (1, .inl (mI S 73 i.toNatClampNeg))] [] S _
          refine zw_push hm_81 dX7_thingAt_0 (v := .inl (mI S 73 i.toNatClampNeg)) rfl ?_
          refine zw_if0 hm_81 dX7_thingAt_1 (t := 20) rfl zc0_lt ?_ ?_
          · intro hc
            rw [if_pos hc] at h
            refine zw_push hm_81 dX7_thingAt_20 (v := .inr (.inr none)) rfl ?_
            refine zw_aret hm_81 dX7_thingAt_21 ?_
            show ma_wp X d w 155 43 [(3, .inr (.inr (some 79))), (0, .inr (.inr (some 64))), (1, .inl i), (2, .inl rt)] [.inr (.inr none)] S _
            refine zw_sto hm_155 dX11_strong_43 [(4, .inr (.inr none)), (3, .inr (.inr (some 79))), (0, .inr (.inr (some 64))), (1, .inl i), (2, .inl rt)] rfl rfl rfl ?_
            refine zw_push hm_155 dX11_strong_45 (v := .inr (.inr none)) rfl ?_
            refine zw_ifnonnull hm_155 dX11_strong_47 (t := 52) rfl (fun _ => ?_) (fun _ z => by cases z)
            refine zw_push hm_155 dX11_strong_50 (v := .inl (-1 : Int32)) rfl ?_
            exact zw_iret hm_155 dX11_strong_51 h
          · intro hc
            rw [if_neg hc] at h
            refine zw_push hm_81 dX7_thingAt_4 (v := .inl (mI S 73 i.toNatClampNeg)) rfl ?_
            refine zw_push hm_81 dX7_thingAt_5 (v := .inl (512 : Int32)) rfl ?_
            refine zw_if2 hm_81 dX7_thingAt_8 (t := 20) rfl zc2_ge ?_ ?_
            · intro hc
              rw [if_pos hc] at h
              refine zw_push hm_81 dX7_thingAt_20 (v := .inr (.inr none)) rfl ?_
              refine zw_aret hm_81 dX7_thingAt_21 ?_
              show ma_wp X d w 155 43 [(3, .inr (.inr (some 79))), (0, .inr (.inr (some 64))), (1, .inl i), (2, .inl rt)] [.inr (.inr none)] S _
              refine zw_sto hm_155 dX11_strong_43 [(4, .inr (.inr none)), (3, .inr (.inr (some 79))), (0, .inr (.inr (some 64))), (1, .inl i), (2, .inl rt)] rfl rfl rfl ?_
              refine zw_push hm_155 dX11_strong_45 (v := .inr (.inr none)) rfl ?_
              refine zw_ifnonnull hm_155 dX11_strong_47 (t := 52) rfl (fun _ => ?_) (fun _ z => by cases z)
              refine zw_push hm_155 dX11_strong_50 (v := .inl (-1 : Int32)) rfl ?_
              exact zw_iret hm_155 dX11_strong_51 h
            · intro hc
              rw [if_neg hc] at h
              refine zw_push hm_81 dX7_thingAt_11 (v := .inr (.inr (some 69))) rfl ?_
              refine zw_gf hm_81 dX7_thingAt_12 (v := .inr (.inr (some 70))) (zT_is hS s_69) (zT_t hS s_69) rfl f_7_11_7 (zT_f hS r_69_0) ?_
              refine zw_push hm_81 dX7_thingAt_15 (v := .inl (mI S 73 i.toNatClampNeg)) rfl ?_
              obtain ⟨hg, h⟩ := h
              refine zw_aa hm_81 dX7_thingAt_16 (zT_is hS s_70) (zT_h hS s_70) rfl rfl hg rfl ?_
              show ma_wp X (d - 1) (w - 21) 81 17 [(0, .inr (.inr (some 69))), (1, .inl (mI S 73 i.toNatClampNeg))] [.inr (.inr (mR S 70 (mI S 73 i.toNatClampNeg).toNatClampNeg))] S _
              refine zw_goto hm_81 dX7_thingAt_17 (t := 21) rfl ?_
              refine zw_aret hm_81 dX7_thingAt_21 ?_
              show ma_wp X d w 155 43 [(3, .inr (.inr (some 79))), (0, .inr (.inr (some 64))), (1, .inl i), (2, .inl rt)] [.inr (.inr (mR S 70 (mI S 73 i.toNatClampNeg).toNatClampNeg))] S _
              refine zw_sto hm_155 dX11_strong_43 [(4, .inr (.inr (mR S 70 (mI S 73 i.toNatClampNeg).toNatClampNeg))), (3, .inr (.inr (some 79))), (0, .inr (.inr (some 64))), (1, .inl i), (2, .inl rt)] rfl rfl rfl ?_
              refine zw_push hm_155 dX11_strong_45 (v := .inr (.inr (mR S 70 (mI S 73 i.toNatClampNeg).toNatClampNeg))) rfl ?_
              refine zw_ifnonnull hm_155 dX11_strong_47 (t := 52) rfl ?_ ?_
              · intro hc
                have h := h.1 hc
                (try rw [hc])
                show ma_wp X d w 155 50 [(4, .inr (.inr none)), (3, .inr (.inr (some 79))), (0, .inr (.inr (some 64))), (1, .inl i), (2, .inl rt)] [] S _
                refine zw_push hm_155 dX11_strong_50 (v := .inl (-1 : Int32)) rfl ?_
                exact zw_iret hm_155 dX11_strong_51 h
              · intro c1 hc
                have h := h.2 c1 hc
                (try rw [hc])
                show ma_wp X d w 155 52 [(4, .inr (.inr (some c1))), (3, .inr (.inr (some 79))), (0, .inr (.inr (some 64))), (1, .inl i), (2, .inl rt)] [] S _
                refine zw_push hm_155 dX11_strong_52 (v := .inr (.inr (some 64))) rfl ?_
                refine zw_push hm_155 dX11_strong_53 (v := .inr (.inr (some 79))) rfl ?_
                refine zw_push hm_155 dX11_strong_54 (v := .inl rt) rfl ?_
                refine zw_push hm_155 dX11_strong_55 (v := .inr (.inr (some c1))) rfl ?_
                refine zw_cv hm_155 dX11_strong_57 v_11_169_11 hm_145 [.inr (.inr (some c1)), .inl rt, .inr (.inr (some 79))] [] rfl (zT_rt hS s_64 rfl) ⟨by omega, by omega⟩ rfl (zw_mono h (zo_go ?_ ?_))
                · intro v3 S2 hv
                  obtain ⟨hS2, h⟩ := hv
                  refine zw_stk hm_155 dX11_strong_60 (st₉ := []) rfl rfl ?_
                  refine zw_push hm_155 dX11_strong_61 (v := .inr (.inr (some 79))) rfl ?_
                  refine zw_push hm_155 dX11_strong_62 (v := .inr (.inr (some c1))) rfl ?_
                  refine zw_cv hm_155 dX11_strong_64 v_11_179_8 hm_268 [.inr (.inr (some c1))] [] rfl (zT_rt hS2 s_79 rfl) ⟨by omega, by omega⟩ rfl ?_
                  show ma_wp X (d - 1) (w - 21) 268 0 [(0, .inr (.inr (some 79))), (1, .inr (.inr (some c1)))] [] S2 _
                  refine zw_vret hm_268 dX1_noteStrong_0 ?_
                  show ma_wp X d w 155 67 [(4, .inr (.inr (some c1))), (3, .inr (.inr (some 79))), (0, .inr (.inr (some 64))), (1, .inl i), (2, .inl rt)] [] S2 _
                  refine zw_push hm_155 dX11_strong_67 (v := .inr (.inr (some c1))) rfl ?_
                  obtain ⟨hg, h⟩ := h
                  refine zw_gf hm_155 dX11_strong_69 (v := .inl (mI S2 c1 0)) (zT_tis hS2 hg) (zT_tt hS2 hg) rfl f_11_182_9 rfl ?_
                  exact zw_iret hm_155 dX11_strong_72 h
                · intro x S9 hx
                  exact ⟨by decide, hx⟩
theorem sp_155_64_s_p79 {X : Nat × (Nat → Int32)} {d w : Nat} {f : Nat → Nat → Int32} {r : Nat → Nat → Option Nat} {C Z N : Nat} {Q : Option ma_V ⊕ Nat → ma_S → Prop} {ab : Nat→Nat→Int32} {fq : Nat→Int32} {S : ma_S} (i : Int32) (rt : Int32) (hd : 7 ≤ d) (hw : 134 ≤ w) (hI : zB f r C Z N S) (hr : r 64 11 = some 79) (hpre0 : xB S (mR S 70)) (hpre1 : aS 88 S = ab) (hpre2 : zfP 79 (mI S) = fq) (K : ∀ v S₉, zB f r C Z N S₉ → (True) → (xB S₉ (mR S₉ 70)) → ((0 ≤ i.toInt ∧ i.toInt ≤ 15) ∧ (0 ≤ rt.toInt ∧ rt.toInt ≤ 15) ∧ ((aNm ab (ab 73 i.toNatClampNeg) = -1 ∧ aS 88 S₉ = ab ∧ v = -1) ∨ (aNm ab (ab 73 i.toNatClampNeg) = ab 73 i.toNatClampNeg ∧ 0 ≤ (ab 73 i.toNatClampNeg).toInt ∧ aS 88 S₉ = aR0 ab rt (ab 73 i.toNatClampNeg) ∧ v = ab 73 i.toNatClampNeg))) → (zfP 79 (mI S₉) = fq) → Q (.inl (some (.inl v))) S₉) (KX : ∀ x S₉, (x = 2) → zB f r C Z N S₉ → (xB S₉ (mR S₉ 70)) → (aS 88 S₉ = ab) → (x = 2 ∧ ¬ ((0 ≤ i.toInt ∧ i.toInt ≤ 15) ∧ (0 ≤ rt.toInt ∧ rt.toInt ≤ 15))) → (zfP 79 (mI S₉) = fq) → Q (.inr x) (ma_bump S₉)) : ma_wp X d w 155 0 [(0, .inr (.inr (some 64))), (1, .inl i), (2, .inl rt)] [] S Q := by
  refine g_155_64_s_p79_0 i rt (by omega) (by omega) (zG_T hI) ?_
  have b1 := i_bd i
  have li2 : (0 : Int32).toInt = 0 := rfl
  refine zd (fun h3 => ?_) (fun h3 => ?_)
  · skip
    have g4 := i_lt h3
    exact KX 2 _ (by decide) hI (show xB S (mR S 70) from by first | (exact xB_x (xC_o (W := 75) hpre0).2)) (show aS 88 S = ab from by first | (exact (xC_o (W := 88) hpre0).1.trans hpre1)) (show 2 = 2 ∧ ¬ ((0 ≤ i.toInt ∧ i.toInt ≤ 15) ∧ (0 ≤ rt.toInt ∧ rt.toInt ≤ 15)) from by first | (exact ⟨rfl, by omega⟩)) (show zfP 79 (mI S) = fq from by first | (exact hpre2))
  · skip
    have g5 := i_nlt h3
    have li6 : (16 : Int32).toInt = 16 := rfl
    refine zd (fun h7 => ?_) (fun h7 => ?_)
    · skip
      have g8 := i_le h7
      exact KX 2 _ (by decide) hI (show xB S (mR S 70) from by first | (exact xB_x (xC_o (W := 75) hpre0).2)) (show aS 88 S = ab from by first | (exact (xC_o (W := 88) hpre0).1.trans hpre1)) (show 2 = 2 ∧ ¬ ((0 ≤ i.toInt ∧ i.toInt ≤ 15) ∧ (0 ≤ rt.toInt ∧ rt.toInt ≤ 15)) from by first | (exact ⟨rfl, by omega⟩)) (show zfP 79 (mI S) = fq from by first | (exact hpre2))
    · skip
      have g9 := i_nle h7
      have b10 := i_bd rt
      refine zd (fun h11 => ?_) (fun h11 => ?_)
      · skip
        have g12 := i_lt h11
        exact KX 2 _ (by decide) hI (show xB S (mR S 70) from by first | (exact xB_x (xC_o (W := 75) hpre0).2)) (show aS 88 S = ab from by first | (exact (xC_o (W := 88) hpre0).1.trans hpre1)) (show 2 = 2 ∧ ¬ ((0 ≤ i.toInt ∧ i.toInt ≤ 15) ∧ (0 ≤ rt.toInt ∧ rt.toInt ≤ 15)) from by first | (exact ⟨rfl, by omega⟩)) (show zfP 79 (mI S) = fq from by first | (exact hpre2))
      · skip
        have g13 := i_nlt h11
        refine zd (fun h14 => ?_) (fun h14 => ?_)
        · skip
          have g15 := i_le h14
          exact KX 2 _ (by decide) hI (show xB S (mR S 70) from by first | (exact xB_x (xC_o (W := 75) hpre0).2)) (show aS 88 S = ab from by first | (exact (xC_o (W := 88) hpre0).1.trans hpre1)) (show 2 = 2 ∧ ¬ ((0 ≤ i.toInt ∧ i.toInt ≤ 15) ∧ (0 ≤ rt.toInt ∧ rt.toInt ≤ 15)) from by first | (exact ⟨rfl, by omega⟩)) (show zfP 79 (mI S) = fq from by first | (exact hpre2))
        · skip
          have g16 := i_nle h14
          refine ⟨((zG_r hI (by decide)).trans hr), ?_⟩
          refine ⟨((zG_r hI (by decide)).trans hr), ?_⟩
          refine ⟨i_ix (by omega) (by omega), ?_⟩
          have b17 := i_bd (mI S 73 i.toNatClampNeg)
          refine zd (fun h18 => ?_) (fun h18 => ?_)
          · skip
            have g19 := i_lt h18
            have li20 : (-1 : Int32).toInt = -1 := rfl
            exact K ((-1 : Int32)) _ hI trivial (show xB S (mR S 70) from by first | (exact xB_x (xC_o (W := 75) hpre0).2)) (show (0 ≤ i.toInt ∧ i.toInt ≤ 15) ∧ (0 ≤ rt.toInt ∧ rt.toInt ≤ 15) ∧ ((aNm ab (ab 73 i.toNatClampNeg) = -1 ∧ aS 88 S = ab ∧ (-1 : Int32) = -1) ∨ (aNm ab (ab 73 i.toNatClampNeg) = ab 73 i.toNatClampNeg ∧ 0 ≤ (ab 73 i.toNatClampNeg).toInt ∧ aS 88 S = aR0 ab rt (ab 73 i.toNatClampNeg) ∧ (-1 : Int32) = ab 73 i.toNatClampNeg)) from by first | (have we : mI S 73 i.toNatClampNeg = ab 73 i.toNatClampNeg := (aS_I (W := 88) (S := S) (c := 73) (c₉ := 73) (k := i.toNatClampNeg) rfl rfl).symm.trans (congrFun (congrFun hpre1 73) i.toNatClampNeg); have wi := congrArg Int32.toInt we; refine ⟨⟨by omega, by omega⟩, ⟨by omega, by omega⟩, ?_⟩; exact Or.inl ⟨if_neg (fun q => by omega), hpre1, rfl⟩)) (show zfP 79 (mI S) = fq from by first | (exact hpre2))
          · skip
            have g21 := i_nlt h18
            have li22 : (512 : Int32).toInt = 512 := rfl
            refine zd (fun h23 => ?_) (fun h23 => ?_)
            · skip
              have g24 := i_le h23
              have li25 : (-1 : Int32).toInt = -1 := rfl
              exact K ((-1 : Int32)) _ hI trivial (show xB S (mR S 70) from by first | (exact xB_x (xC_o (W := 75) hpre0).2)) (show (0 ≤ i.toInt ∧ i.toInt ≤ 15) ∧ (0 ≤ rt.toInt ∧ rt.toInt ≤ 15) ∧ ((aNm ab (ab 73 i.toNatClampNeg) = -1 ∧ aS 88 S = ab ∧ (-1 : Int32) = -1) ∨ (aNm ab (ab 73 i.toNatClampNeg) = ab 73 i.toNatClampNeg ∧ 0 ≤ (ab 73 i.toNatClampNeg).toInt ∧ aS 88 S = aR0 ab rt (ab 73 i.toNatClampNeg) ∧ (-1 : Int32) = ab 73 i.toNatClampNeg)) from by first | (have we : mI S 73 i.toNatClampNeg = ab 73 i.toNatClampNeg := (aS_I (W := 88) (S := S) (c := 73) (c₉ := 73) (k := i.toNatClampNeg) rfl rfl).symm.trans (congrFun (congrFun hpre1 73) i.toNatClampNeg); have wi := congrArg Int32.toInt we; refine ⟨⟨by omega, by omega⟩, ⟨by omega, by omega⟩, ?_⟩; exact Or.inl ⟨if_neg (fun q => by omega), hpre1, rfl⟩)) (show zfP 79 (mI S) = fq from by first | (exact hpre2))
            · skip
              have g26 := i_nle h23
              refine ⟨i_ix (by omega) (by omega), ?_⟩
              refine ⟨fun hc => ?_, fun c1 hc => ?_⟩
              · skip
                have rn_c1 : zTa (mR S 70) (mI S 73 i.toNatClampNeg) = none := (ta_rd (y := (mI S 73 i.toNatClampNeg)) hpre0 (by omega) (by omega)).symm.trans hc
                have li27 : (-1 : Int32).toInt = -1 := rfl
                exact K ((-1 : Int32)) _ hI trivial (show xB S (mR S 70) from by first | (exact xB_x (xC_o (W := 75) hpre0).2)) (show (0 ≤ i.toInt ∧ i.toInt ≤ 15) ∧ (0 ≤ rt.toInt ∧ rt.toInt ≤ 15) ∧ ((aNm ab (ab 73 i.toNatClampNeg) = -1 ∧ aS 88 S = ab ∧ (-1 : Int32) = -1) ∨ (aNm ab (ab 73 i.toNatClampNeg) = ab 73 i.toNatClampNeg ∧ 0 ≤ (ab 73 i.toNatClampNeg).toInt ∧ aS 88 S = aR0 ab rt (ab 73 i.toNatClampNeg) ∧ (-1 : Int32) = ab 73 i.toNatClampNeg)) from by first | (have we : mI S 73 i.toNatClampNeg = ab 73 i.toNatClampNeg := (aS_I (W := 88) (S := S) (c := 73) (c₉ := 73) (k := i.toNatClampNeg) rfl rfl).symm.trans (congrFun (congrFun hpre1 73) i.toNatClampNeg); have wi := congrArg Int32.toInt we; have nn := nm_n (W := 88) hpre0 rn_c1; rw [hpre1, we] at nn; refine ⟨⟨by omega, by omega⟩, ⟨by omega, by omega⟩, ?_⟩; exact Or.inl ⟨nn, hpre1, rfl⟩)) (show zfP 79 (mI S) = fq from by first | (exact hpre2))
              · skip
                have th_c1 := (fun _ z => zG_70 hI (c := 70) (by decide) z) c1 hc
                have rg_c1 : zTa (mR S 70) (mI S 73 i.toNatClampNeg) = some c1 := (ta_rd (y := (mI S 73 i.toNatClampNeg)) hpre0 (by omega) (by omega)).symm.trans hc
                refine sp_145_64_79_s (ab := (aS 88 S)) (R := (mR S 70)) (y := ((mI S 73 i.toNatClampNeg))) (fq := (zfP 79 (mI S))) (rt) ((some c1)) (by omega) (by omega) (zB_dn_zJ79 hI) (fun _ z => by cases z; exact th_c1) (show xB S (mR S 70) from by first | (exact (xC_o (W := 75) hpre0).2)) (show aS 88 S = (aS 88 S) from by first | (exact rfl)) (show (some c1) = zTa (mR S 70) ((mI S 73 i.toNatClampNeg)) from by first | (exact rg_c1.symm)) (by omega) (by omega) (show zfP 79 (mI S) = (zfP 79 (mI S)) from by first | (exact rfl)) (fun v3 S2 hL_S2 hq_v3 rp0_S2 rp1_S2 rp2_S2 rp3_S2 => zo_n ⟨zG_T hL_S2, ?_⟩)
                have hI_S2 := zB_up_zJ79 hI hL_S2
                have rp0_S2 : xB S2 (mR S 70) := by
                  have z := rp0_S2
                  (try rw [show mI S 65 = f 65 from funext (fun k => zG_z hI rfl)] at z)
                  (try rw [show mI S 64 1 = f 64 1 from zG_z hI rfl] at z)
                  exact z
                have rp1_S2 : aS 88 S2 = aR0 (aS 88 S) rt ((mI S 73 i.toNatClampNeg)) := by
                  have z := rp1_S2
                  (try rw [show mI S 65 = f 65 from funext (fun k => zG_z hI rfl)] at z)
                  (try rw [show mI S 64 1 = f 64 1 from zG_z hI rfl] at z)
                  exact z
                have rp2_S2 : v3 = zTa (mR S 70) ((aS 88 S) 72 rt.toNatClampNeg) := by
                  have z := rp2_S2
                  (try rw [show mI S 65 = f 65 from funext (fun k => zG_z hI rfl)] at z)
                  (try rw [show mI S 64 1 = f 64 1 from zG_z hI rfl] at z)
                  exact z
                have rp3_S2 : zfP 79 (mI S2) = (zfP 79 (mI S)) := by
                  have z := rp3_S2
                  (try rw [show mI S 65 = f 65 from funext (fun k => zG_z hI rfl)] at z)
                  (try rw [show mI S 64 1 = f 64 1 from zG_z hI rfl] at z)
                  exact z
                refine ⟨zG_n hI_S2 th_c1, ?_⟩
                have f28 := zG_th hI_S2 th_c1
                exact K ((mI S2 c1 0)) _ hI_S2 trivial (show xB S2 (mR S2 70) from by first | (exact xB_x (xC_o (W := 75) rp0_S2).2)) (show (0 ≤ i.toInt ∧ i.toInt ≤ 15) ∧ (0 ≤ rt.toInt ∧ rt.toInt ≤ 15) ∧ ((aNm ab (ab 73 i.toNatClampNeg) = -1 ∧ aS 88 S2 = ab ∧ (mI S2 c1 0) = -1) ∨ (aNm ab (ab 73 i.toNatClampNeg) = ab 73 i.toNatClampNeg ∧ 0 ≤ (ab 73 i.toNatClampNeg).toInt ∧ aS 88 S2 = aR0 ab rt (ab 73 i.toNatClampNeg) ∧ (mI S2 c1 0) = ab 73 i.toNatClampNeg)) from by first | (have we : mI S 73 i.toNatClampNeg = ab 73 i.toNatClampNeg := (aS_I (W := 88) (S := S) (c := 73) (c₉ := 73) (k := i.toNatClampNeg) rfl rfl).symm.trans (congrFun (congrFun hpre1 73) i.toNatClampNeg); have wi := congrArg Int32.toInt we; have nn := nm_y (W := 88) hpre0 rg_c1; rw [hpre1, we] at nn; have w0 := (zTa_p rg_c1).1; have st := rp1_S2; rw [hpre1, we] at st; have tn := (xB_th (W := 88) rp0_S2 rg_c1).2.2.1; refine ⟨⟨by omega, by omega⟩, ⟨by omega, by omega⟩, ?_⟩; exact Or.inr ⟨nn, (by omega), st, tn.trans we⟩)) (show zfP 79 (mI S2) = fq from by first | (exact (rp3_S2.trans hpre2)))

/-! from 95.k37 -/
/-! the collectors that sweep, the class (written by wip/tools/gen20.py) -/
/-! ROW 87 IS NO MATTER OF A CLEANING -/
section O7
variable {a b c : Nat → Nat → Int32} {x y z i : Int32} {n k m : Nat} {p q : Int}
def zO7 (a b : Nat → Nat → Int32) : Prop := ∀ c k, c ≠ 87 → a c k = b c k
theorem o7_u (h : zO7 a b) : zO7 (ma_u a n k x) (ma_u b n k x) := fun c₉ k₉ q => by
  by_cases w : c₉ = n ∧ k₉ = k
  · rw [w.1, w.2, xu_s, xu_s]
  · rw [xu_o w, xu_o w]
    exact h c₉ k₉ q
theorem o7_cm (h : zO7 a b) : zO7 (aCm a y) (aCm b y) := by
  unfold aCm
  rw [h 126 _ (by decide), h 75 5 (by decide), h 130 _ (by decide), h 75 4 (by decide), h 77 _ (by decide)]
  split
  · exact o7_u (o7_u (o7_u h))
  · exact h
theorem o7_ref (h : zO7 a b) : aRef a m i = aRef b m i := by
  unfold aRef
  rw [h (1000 + m) _ (by omega), h 130 _ (by decide), h 71 _ (by decide)]
theorem o7_cwf : ∀ (f : Nat) (i : Int32) (a b : Nat → Nat → Int32), zO7 a b → zO7 (aCwf m f i a) (aCwf m f i b) := by
  intro f
  induction f with
  | zero => intro i a b h; exact h
  | succ f ih =>
    intro i a b h
    show zO7 (aCwf m f (i + 1) (aCm a (aRef a m i))) (aCwf m f (i + 1) (aCm b (aRef b m i)))
    rw [o7_ref h]
    exact ih _ _ _ (o7_cm h)
theorem o7_pop (h : zO7 a b) : zO7 (aPop a) (aPop b) := by
  unfold aPop
  rw [h 75 3 (by decide), h 76 _ (by decide), h 126 _ (by decide)]
  have s : ∀ z, zO7 (ma_u (ma_u a 75 3 (b 75 3 + 1)) 77 z 2) (ma_u (ma_u b 75 3 (b 75 3 + 1)) 77 z 2) := fun z => o7_u (o7_u h)
  split
  · unfold aCw
    rw [s _ 128 _ (by decide)]
    exact o7_cwf _ _ _ _ (s _)
  · exact o7_u h
theorem o7_sp : ∀ (f : Nat) (a b : Nat → Nat → Int32), zO7 a b → zO7 (aSp f a) (aSp f b) := by
  intro f
  induction f with
  | zero => intro a b h; exact h
  | succ f ih =>
    intro a b h
    show zO7 (if (a 75 3).toInt < (a 75 4).toInt then aSp f (aPop a) else a) (if (b 75 3).toInt < (b 75 4).toInt then aSp f (aPop b) else b)
    rw [h 75 3 (by decide), h 75 4 (by decide)]
    split
    · exact ih _ _ (o7_pop h)
    · exact h
theorem o7_hf : ∀ (f : Nat) (n : Int32) (a b : Nat → Nat → Int32), zO7 a b → zO7 (aHf f n a) (aHf f n b) := by
  intro f
  induction f with
  | zero => intro n a b h; exact h
  | succ f ih =>
    intro n a b h
    show zO7 (aHf f (n + 1) (if 0 ≤ n.toInt ∧ n.toInt < 512 ∧ a 126 n.toNatClampNeg ≠ 0 ∧ 0 < (a 133 n.toNatClampNeg).toInt then aCm a n else a)) (aHf f (n + 1) (if 0 ≤ n.toInt ∧ n.toInt < 512 ∧ b 126 n.toNatClampNeg ≠ 0 ∧ 0 < (b 133 n.toNatClampNeg).toInt then aCm b n else b))
    rw [h 126 _ (by decide), h 133 _ (by decide)]
    split
    · exact ih _ _ _ (o7_cm h)
    · exact ih _ _ _ h
theorem o7_wf : ∀ (f : Nat) (n : Int32) (a b : Nat → Nat → Int32), zO7 a b → zO7 (aWf f n a) (aWf f n b) := by
  intro f
  induction f with
  | zero =>
    intro n a b h
    show zO7 (aHo a 0) (aHo b 0)
    unfold aHo
    rw [h 69 6 (by decide)]
    exact o7_hf _ _ _ _ h
  | succ f ih =>
    intro n a b h
    show zO7 (aWf f (n + 1) (aCm a (a 74 n.toNatClampNeg))) (aWf f (n + 1) (aCm b (b 74 n.toNatClampNeg)))
    rw [h 74 _ (by decide)]
    exact ih _ _ _ (o7_cm h)
theorem o7_rf : ∀ (f : Nat) (n : Int32) (a b : Nat → Nat → Int32), zO7 a b → zO7 (aRf f n a) (aRf f n b) := by
  intro f
  induction f with
  | zero =>
    intro n a b h
    show zO7 (aWi a 0) (aWi b 0)
    unfold aWi
    rw [h 69 5 (by decide)]
    exact o7_wf _ _ _ _ h
  | succ f ih =>
    intro n a b h
    show zO7 (aRf f (n + 1) (aCm a (a 72 n.toNatClampNeg))) (aRf f (n + 1) (aCm b (b 72 n.toNatClampNeg)))
    rw [h 72 _ (by decide)]
    exact ih _ _ _ (o7_cm h)
theorem o7_ra (h : zO7 a b) : zO7 (aRA a) (aRA b) := by
  have w : zO7 (aWh a 0) (aWh b 0) := by
    unfold aWh
    refine o7_u (o7_u (o7_u (fun c₉ k₉ q => ?_)))
    unfold zFl
    rw [h c₉ k₉ q]
  exact o7_sp 512 _ _ (o7_rf _ _ _ _ w)
theorem o7_uw (h : zO7 a b) : zO7 (zUw a y p) (zUw b y p) := fun c₉ k₉ q => by
  unfold zUw
  rw [h 73 k₉ (by decide), h c₉ k₉ q]
theorem o7_gr (h : zO7 a b) : zO7 (aGr a y) (aGr b y) := by
  unfold aGr
  rw [h 69 5 (by decide)]
  split
  · exact o7_u (o7_u (o7_u (o7_uw h)))
  · exact o7_u (o7_uw h)
theorem o7_gf : ∀ (f : Nat) (n : Int32) (a b : Nat → Nat → Int32), zO7 a b → zO7 (aGf f n a) (aGf f n b) := by
  intro f
  induction f with
  | zero => intro n a b h; exact h
  | succ f ih =>
    intro n a b h
    have e : aGc a n ↔ aGc b n := by
      unfold aGc
      rw [h 126 _ (by decide), h 134 _ (by decide), h 75 5 (by decide), h 130 _ (by decide), h 77 _ (by decide)]
    by_cases w : aGc b n
    · rw [aGf_y w, aGf_y (e.mpr w)]
      exact ih _ _ _ (o7_sp 512 _ _ (o7_cm (o7_gr h)))
    · rw [aGf_n w, aGf_n (fun z => w (e.mp z))]
      exact ih _ _ _ h
theorem o7_rm (h : zO7 a b) : zO7 (aRm a y) (aRm b y) := by
  have f : ∀ p e : Int, zO7 (zFr (zUw a y 16) p e) (zFr (zUw b y 16) p e) := fun p e c₉ k₉ q => by
    unfold zFr
    rw [o7_uw h c₉ k₉ q]
  have g : ∀ (p e : Int) (m : Nat), zO7 (zNo (zFr (zUw a y 16) p e) m) (zNo (zFr (zUw b y 16) p e) m) := fun p e m c₉ k₉ q => by
    unfold zNo
    rw [f p e c₉ k₉ q]
  unfold aRm
  rw [h 130 _ (by decide), h 128 _ (by decide), h 69 8 (by decide), h 69 11 (by decide)]
  exact o7_u (o7_u (g _ _ _))
theorem o7_mf : ∀ (f : Nat) (n : Int32) (a b : Nat → Nat → Int32), zO7 a b → zO7 (aMf f n a) (aMf f n b) := by
  intro f
  induction f with
  | zero => intro n a b h; exact h
  | succ f ih =>
    intro n a b h
    have e : aMc a n ↔ aMc b n := by
      unfold aMc
      rw [h 126 _ (by decide), h 75 5 (by decide), h 130 _ (by decide), h 77 _ (by decide)]
    by_cases w : aMc b n
    · rw [aMf_y w, aMf_y (e.mpr w)]
      exact ih _ _ _ (o7_rm h)
    · rw [aMf_n w, aMf_n (fun z => w (e.mp z))]
      exact ih _ _ _ h
theorem o7_gw (h : zO7 a b) : zO7 (aGw a 0) (aGw b 0) := by
  unfold aGw
  rw [h 69 6 (by decide)]
  exact o7_gf _ _ _ _ h
theorem o7_sw (h : zO7 a b) : zO7 (aSw a) (aSw b) := by
  have g := o7_gw (o7_ra h)
  unfold aSw
  generalize aGw (aRA a) 0 = A at *
  generalize aGw (aRA b) 0 = B at *
  unfold aMv
  rw [g 69 6 (by decide)]
  exact o7_mf _ _ _ _ g
theorem sw_87 : aSw a 87 k = a 87 k := by
  unfold aSw aMv
  rw [aMf_87]
  unfold aGw
  rw [aGf_87]
  unfold aRA
  rw [aSp_o ⟨by decide, by decide, by decide⟩, aRo_o ⟨by decide, by decide, by decide⟩]
  unfold aWh
  rw [xu_o (by omega), xu_o (by omega), xu_o (by omega)]
  unfold zFl
  rw [if_neg (by omega)]
theorem sv_eq (h : zO7 a b) : aSv a = aSv b := by
  unfold aSv
  rw [o7_sw h 69 11 (by decide), o7_gw (o7_ra h) 69 11 (by decide)]
theorem T_sw {P : Nat} {S S₉ : ma_S} (h : aS 75 S₉ = aSw (aS 75 S)) (h2 : ∀ k, zfP P (mI S₉) k = zfP P (mI S) k) : aT P S₉ = aSw (aT P S) := by
  have o : zO7 (aS 75 S) (aT P S) := fun c k q => (aT_o q).symm
  funext c k
  by_cases w : c = 87
  · rw [w, sw_87]
    unfold aT
    rw [if_pos rfl, if_pos rfl, h2]
  · rw [aT_o w, h]
    exact o7_sw o c k w
theorem T_sv {P : Nat} {S : ma_S} : aSv (aS 75 S) = aSv (aT P S) := sv_eq (fun c k q => (aT_o q).symm)
theorem zf_79 {S S₉ : ma_S} (h : mI S₉ 79 = mI S 79) : ∀ k, zfP 79 (mI S₉) k = zfP 79 (mI S) k := fun k => by
  unfold zfP
  rw [if_pos rfl, if_pos rfl, h]
theorem zf_84 {S S₉ : ma_S} (h : mI S₉ 84 = mI S 84) : ∀ k, zfP 84 (mI S₉) k = zfP 84 (mI S) k := fun k => by
  unfold zfP
  have e : ¬ (84 : Nat) = 79 := by decide
  rw [if_neg e, if_neg e, h]
end O7
/-! ROOM WHERE IT IS SWEPT, and a new one there -/
def zRs (a : Nat → Nat → Int32) (z : Int) : Nat → Nat → Int32 := if aFt a z = -1 then aSw a else a
def zRp (a : Nat → Nat → Int32) (z : Int) : Int := aFt (zRs a z) z
section ZR
variable {a b : Nat → Nat → Int32} {z : Int} {y w pl x : Int32} {k : Nat}
theorem zRs_1 (h : aFt a z ≠ -1) : zRs a z = a := if_neg h
theorem zRs_2 (h : aFt a z = -1) : zRs a z = aSw a := if_pos h
theorem zRs_87 : zRs a z 87 k = a 87 k := by
  unfold zRs
  split
  · exact sw_87
  · rfl
def sMk (a : Nat → Nat → Int32) (kd wd : Int32) (L : Int64) (rt : Int32) : Nat → Nat → Int32 := if (a 69 6).toInt < 512 then (if zRp a (wd + 1).toInt = -1 then zRs a (wd + 1).toInt else aRt (aMd (aAd (zRs a (wd + 1).toInt) (zRs a (wd + 1).toInt 69 6) (zFn (zRs a (wd + 1).toInt 69 6) kd (wd + 1) (Int32.ofInt (zRp a (wd + 1).toInt))) L) (zRs a (wd + 1).toInt 69 6)) rt (zRs a (wd + 1).toInt 69 6)) else a
def sMn (a : Nat → Nat → Int32) (wd : Int32) : Int32 := if (a 69 6).toInt < 512 then (if zRp a (wd + 1).toInt = -1 then -1 else zRs a (wd + 1).toInt 69 6) else -1
theorem sMk_0 {kd wd rt : Int32} {L : Int64} (h : ¬ (a 69 6).toInt < 512) : sMk a kd wd L rt = a ∧ sMn a wd = -1 := ⟨if_neg h, if_neg h⟩
theorem sMk_1 {kd wd rt : Int32} {L : Int64} (h : (a 69 6).toInt < 512) (h1 : zRp a (wd + 1).toInt = -1) : sMk a kd wd L rt = zRs a (wd + 1).toInt ∧ sMn a wd = -1 := by
  unfold sMk sMn
  rw [if_pos h, if_pos h, if_pos h1, if_pos h1]
  exact ⟨rfl, rfl⟩
theorem sMk_2 {kd wd rt : Int32} {L : Int64} {b : Nat → Nat → Int32} (h : (a 69 6).toInt < 512) (e : b = zRs a (wd + 1).toInt) (h1 : pl.toInt = zRp a (wd + 1).toInt) (h2 : ¬ pl.toInt = -1) (hy : y = b 69 6) : sMk a kd wd L rt = aRt (aMd (aAd b y (zFn y kd (wd + 1) pl) L) y) rt y ∧ sMn a wd = y := by
  unfold sMk sMn
  rw [if_pos h, if_pos h, ← h1, if_neg h2, if_neg h2, ← e, hy, Int32.ofInt_toInt]
  exact ⟨rfl, rfl⟩
theorem Ne_o0 {aa : Nat → Nat → Int32} (hI : qI (zRs aa (w + 1).toInt)) (hR : qEq pl.toInt (zRp aa (w + 1).toInt)) (h0 : 0 ≤ pl.toInt) (hw : 0 ≤ w.toInt) (hw6 : w.toInt ≤ 60) (hy : zRs aa (w + 1).toInt 69 6 = y) (hy5 : y.toInt < 512) : qNe (zRs aa (w + 1).toInt) y w pl := by
  have e1 := i_p1 (i := w) (by omega)
  have q := qE hR
  unfold zRp at q
  have f := Ft_fs hI (z := (w + 1).toInt) (by omega) (by rw [← q]; omega)
  rw [← q] at f
  rw [e1] at f
  exact ⟨hI, hy.symm, hy5, ⟨hw, hw6⟩, by rw [e1]; exact f⟩
end ZR
theorem g_102_79_s_0 {X : Nat × (Nat → Int32)} {d w : Nat} {S : ma_S} {Q : Option ma_V ⊕ Nat → ma_S → Prop} (z : Int32) (hd : 5 ≤ d) (hw : 114 ≤ w) (hS : zT S) (h : ma_wp X (d - 1) (w - 21) 103 0 [(0, .inr (.inr (some 79))), (1, .inl z)] [] S (zi (fun v2 S1 => zT S1 ∧ (if v2 = (-1 : Int32) then (ma_wp X (d - 1) (w - 20) 109 0 [(0, .inr (.inr (some 79)))] [] S1 (zi (fun v4 S3 => zT S3 ∧ (ma_wp X (d - 1) (w - 21) 103 0 [(0, .inr (.inr (some 79))), (1, .inl z)] [] S3 (zi (fun v6 S5 => zT S5 ∧ (Q (.inl (some (.inl v6))) S5)) (fun x S9 => Q (.inr x) S9)))) (fun x S9 => Q (.inr x) S9))) else (Q (.inl (some (.inl v2))) S1))) (fun x S9 => Q (.inr x) S9))) : ma_wp X d w 102 0 [(0, .inr (.inr (some 79))), (1, .inl z)] [] S Q := by
  refine zw_push hm_102 dX8_findRoom_0 (v := .inr (.inr (some 79))) rfl ?_
  refine zw_push hm_102 dX8_findRoom_1 (v := .inl z) rfl ?_
  refine zw_cv hm_102 dX8_findRoom_2 v_8_21_8 hm_103 [.inl z] [] rfl (zT_rt hS s_79 rfl) ⟨by omega, by omega⟩ rfl (zw_mono h (zi_go ?_ ?_))
  · intro v2 S1 hv
    obtain ⟨hS1, h⟩ := hv
    refine zw_sto hm_102 dX8_findRoom_5 [(2, .inl v2), (0, .inr (.inr (some 79))), (1, .inl z)] rfl rfl rfl ?_
    refine zw_push hm_102 dX8_findRoom_6 (v := .inl v2) rfl ?_
    refine zw_push hm_102 dX8_findRoom_7 (v := .inl (-1 : Int32)) rfl ?_
    refine zw_if2 hm_102 dX8_findRoom_8 (t := 22) rfl zc2_ne ?_ ?_
    · intro hc
      rw [if_neg hc] at h
      refine zw_push hm_102 dX8_findRoom_22 (v := .inl v2) rfl ?_
      exact zw_iret hm_102 dX8_findRoom_23 h
    · intro hc
      rw [if_pos (Classical.not_not.mp hc)] at h
      refine zw_push hm_102 dX8_findRoom_11 (v := .inr (.inr (some 79))) rfl ?_
      refine zw_cv hm_102 dX8_findRoom_12 v_8_25_8 hm_109 [] [] rfl (zT_rt hS1 s_79 rfl) ⟨by omega, by omega⟩ rfl (zw_mono h (zi_go ?_ ?_))
      · intro v4 S3 hv
        obtain ⟨hS3, h⟩ := hv
        refine zw_stk hm_102 dX8_findRoom_15 (st₉ := []) rfl rfl ?_
        refine zw_push hm_102 dX8_findRoom_16 (v := .inr (.inr (some 79))) rfl ?_
        refine zw_push hm_102 dX8_findRoom_17 (v := .inl z) rfl ?_
        refine zw_cv hm_102 dX8_findRoom_18 v_8_21_8 hm_103 [.inl z] [] rfl (zT_rt hS3 s_79 rfl) ⟨by omega, by omega⟩ rfl (zw_mono h (zi_go ?_ ?_))
        · intro v6 S5 hv
          obtain ⟨hS5, h⟩ := hv
          refine zw_sto hm_102 dX8_findRoom_21 [(2, .inl v6), (0, .inr (.inr (some 79))), (1, .inl z)] rfl rfl rfl ?_
          refine zw_push hm_102 dX8_findRoom_22 (v := .inl v6) rfl ?_
          exact zw_iret hm_102 dX8_findRoom_23 h
        · intro x S9 hx
          exact ⟨by decide, hx⟩
      · intro x S9 hx
        exact ⟨by decide, hx⟩
  · intro x S9 hx
    exact ⟨by decide, hx⟩
theorem sp_102_79_s {X : Nat × (Nat → Int32)} {d w : Nat} {f : Nat → Nat → Int32} {r : Nat → Nat → Option Nat} {C Z N : Nat} {Q : Option ma_V ⊕ Nat → ma_S → Prop} {ab : Nat→Nat→Int32} {S : ma_S} (z : Int32) (hd : 5 ≤ d) (hw : 114 ≤ w) (hI : zJ79 f r C Z N S) (hpre0 : xB S (mR S 70)) (hpre1 : aT 79 S = ab) (K : ∀ v S₉, zJ79 f r C Z N S₉ → (-1 ≤ v.toInt ∧ v.toInt ≤ 1500) → (xB S₉ (mR S₉ 70)) → (aT 79 S₉ = zRs ab z.toInt ∧ v.toInt = zRp ab z.toInt) → Q (.inl (some (.inl v))) S₉) : ma_wp X d w 102 0 [(0, .inr (.inr (some 79))), (1, .inl z)] [] S Q := by
  refine g_102_79_s_0 z (by omega) (by omega) (zG_T hI) ?_
  have b1 := i_bd z
  refine sp_103_79_s (ab := (aT 79 S)) (z) (by omega) (by omega) hI (show xB S (mR S 70) from by first | (exact xB_x (xC_o (W := 75) hpre0).2)) (show aT 79 S = (aT 79 S) from by first | (exact rfl)) (fun v2 S1 hI_S1 hp_v2 rp0_S1 rp1_S1 rp2_S1 => zi_n ⟨zG_T hI_S1, ?_⟩)
  have rp0_S1 : xB S1 (mR S1 70) := rp0_S1
  have rp1_S1 : aT 79 S1 = (aT 79 S) := rp1_S1
  have rp2_S1 : v2.toInt = aFt (aT 79 S) z.toInt := rp2_S1
  have b2 := i_bd v2
  have li3 : (-1 : Int32).toInt = -1 := rfl
  refine zd (fun h4 => ?_) (fun h4 => ?_)
  · skip
    have g5 := i_eq h4
    refine sp_109_79_s (ab := (aS 75 S1)) (fp := (mI S1 79)) (by omega) (by omega) hI_S1 (show xB S1 (mR S1 70) from by first | (exact xB_x (xC_o (W := 75) rp0_S1).2)) (show aS 75 S1 = (aS 75 S1) from by first | (exact rfl)) (show (mI S1 79) = (mI S1 79) from by first | (exact rfl)) (fun v4 S3 hI_S3 hp_v4 rp0_S3 rp1_S3 rp2_S3 => zi_n ⟨zG_T hI_S3, ?_⟩)
    have rp0_S3 : xB S3 (mR S3 70) := rp0_S3
    have rp1_S3 : aS 75 S3 = aSw (aS 75 S1) ∧ v4 = aSv (aS 75 S1) := rp1_S3
    have rp2_S3 : (mI S3 79) = (mI S1 79) := rp2_S3
    refine sp_103_79_s (ab := (aT 79 S3)) (z) (by omega) (by omega) hI_S3 (show xB S3 (mR S3 70) from by first | (exact xB_x (xC_o (W := 75) rp0_S3).2)) (show aT 79 S3 = (aT 79 S3) from by first | (exact rfl)) (fun v6 S5 hI_S5 hp_v6 rp0_S5 rp1_S5 rp2_S5 => zi_n ⟨zG_T hI_S5, ?_⟩)
    have rp0_S5 : xB S5 (mR S5 70) := rp0_S5
    have rp1_S5 : aT 79 S5 = (aT 79 S3) := rp1_S5
    have rp2_S5 : v6.toInt = aFt (aT 79 S3) z.toInt := rp2_S5
    have b6 := i_bd v6
    exact K (v6) _ hI_S5 (by omega) (show xB S5 (mR S5 70) from by first | (exact xB_x (xC_o (W := 75) rp0_S5).2)) (show aT 79 S5 = zRs ab z.toInt ∧ v6.toInt = zRp ab z.toInt from by first | (have k1 := rp1_S1.trans hpre1; have v1 := rp2_S1; rw [hpre1] at v1; have k2 := (T_sw (P := 79) rp1_S3.1 (zf_79 rp2_S3)).trans (congrArg aSw k1); have k3 := rp1_S5.trans k2; have v3 := rp2_S5; rw [k2] at v3; have E := zRs_2 (a := ab) (z := z.toInt) (by rw [← v1]; omega); exact ⟨k3.trans E.symm, (by rw [zRp, E]; exact v3)⟩))
  · skip
    have g7 := i_ne h4
    exact K (v2) _ hI_S1 (by omega) (show xB S1 (mR S1 70) from by first | (exact xB_x (xC_o (W := 75) rp0_S1).2)) (show aT 79 S1 = zRs ab z.toInt ∧ v2.toInt = zRp ab z.toInt from by first | (have k1 := rp1_S1.trans hpre1; have v1 := rp2_S1; rw [hpre1] at v1; have E := zRs_1 (a := ab) (z := z.toInt) (by rw [← v1]; omega); exact ⟨k1.trans E.symm, (by rw [zRp, E]; exact v1)⟩))
theorem g_159_64_s_p79_0 {X : Nat × (Nat → Int32)} {d w : Nat} {S : ma_S} {Q : Option ma_V ⊕ Nat → ma_S → Prop}  (hd : 7 ≤ d) (hw : 179 ≤ w) (hS : zT S) (h : mR S 64 11 = some 79 ∧ (mR S 64 11 = some 79 ∧ (ma_wp X (d - 1) (w - 20) 109 0 [(0, .inr (.inr (some 79)))] [] S (zi (fun v2 S1 => zT S1 ∧ (Q (.inl (some (.inl v2))) S1)) (fun _ _ => False))))) : ma_wp X d w 159 0 [(0, .inr (.inr (some 64)))] [] S Q := by
  refine zw_push hm_159 dX11_clean_0 (v := .inr (.inr (some 64))) rfl ?_
  refine zw_cv hm_159 dX11_clean_1 v_11_119_11 hm_144 [] [] rfl (zT_rt hS s_64 rfl) ⟨by omega, by omega⟩ rfl ?_
  show ma_wp X (d - 1) (w - 20) 144 0 [(0, .inr (.inr (some 64)))] [] S _
  refine zw_push hm_144 dX11_needCollector_0 (v := .inr (.inr (some 64))) rfl ?_
  obtain ⟨hg, h⟩ := h
  refine zw_gf hm_144 dX11_needCollector_1 (v := .inr (.inr (some 79))) (zT_is hS s_64) (zT_t hS s_64) rfl f_11_98_11 (congrArg (fun z => Sum.inr (Sum.inr z)) hg) ?_
  refine zw_ifnonnull hm_144 dX11_needCollector_4 (t := 15) rfl (fun z => by cases z) (fun _ _ => ?_)
  refine zw_push hm_144 dX11_needCollector_15 (v := .inr (.inr (some 64))) rfl ?_
  obtain ⟨hg, h⟩ := h
  refine zw_gf hm_144 dX11_needCollector_16 (v := .inr (.inr (some 79))) (zT_is hS s_64) (zT_t hS s_64) rfl f_11_98_11 (congrArg (fun z => Sum.inr (Sum.inr z)) hg) ?_
  refine zw_aret hm_144 dX11_needCollector_19 ?_
  show ma_wp X d w 159 4 [(0, .inr (.inr (some 64)))] [.inr (.inr (some 79))] S _
  refine zw_cv hm_159 dX11_clean_4 v_11_207_8 hm_109 [] [] rfl (zT_rt hS s_79 rfl) ⟨by omega, by omega⟩ rfl (zw_mono h (zi_go ?_ ?_))
  · intro v2 S1 hv
    obtain ⟨hS1, h⟩ := hv
    exact zw_iret hm_159 dX11_clean_7 h
  · intro x S9 hx
    exact hx.elim
theorem sp_159_64_s_p79 {X : Nat × (Nat → Int32)} {d w : Nat} {f : Nat → Nat → Int32} {r : Nat → Nat → Option Nat} {C Z N : Nat} {Q : Option ma_V ⊕ Nat → ma_S → Prop} {ab : Nat→Nat→Int32} {S : ma_S}  (hd : 7 ≤ d) (hw : 179 ≤ w) (hI : zB f r C Z N S) (hr : r 64 11 = some 79) (hpre0 : xB S (mR S 70)) (hpre1 : aT 79 S = ab) (K : ∀ v S₉, zB f r C Z N S₉ → (True) → (xB S₉ (mR S₉ 70)) → (aT 79 S₉ = aSw ab ∧ v = aSv ab) → Q (.inl (some (.inl v))) S₉) : ma_wp X d w 159 0 [(0, .inr (.inr (some 64)))] [] S Q := by
  refine g_159_64_s_p79_0  (by omega) (by omega) (zG_T hI) ?_
  refine ⟨((zG_r hI (by decide)).trans hr), ?_⟩
  refine ⟨((zG_r hI (by decide)).trans hr), ?_⟩
  refine sp_109_79_s (ab := (aS 75 S)) (fp := (mI S 79)) (by omega) (by omega) (zB_dn_zJ79 hI) (show xB S (mR S 70) from by first | (exact xB_x (xC_o (W := 75) hpre0).2)) (show aS 75 S = (aS 75 S) from by first | (exact rfl)) (show (mI S 79) = (mI S 79) from by first | (exact rfl)) (fun v2 S1 hL_S1 hp_v2 rp0_S1 rp1_S1 rp2_S1 => zi_n ⟨zG_T hL_S1, ?_⟩)
  have hI_S1 := zB_up_zJ79 hI hL_S1
  have rp0_S1 : xB S1 (mR S1 70) := by
    have z := rp0_S1
    (try rw [show mI S 65 = f 65 from funext (fun k => zG_z hI rfl)] at z)
    (try rw [show mI S 64 1 = f 64 1 from zG_z hI rfl] at z)
    exact z
  have rp1_S1 : aS 75 S1 = aSw (aS 75 S) ∧ v2 = aSv (aS 75 S) := by
    have z := rp1_S1
    (try rw [show mI S 65 = f 65 from funext (fun k => zG_z hI rfl)] at z)
    (try rw [show mI S 64 1 = f 64 1 from zG_z hI rfl] at z)
    exact z
  have rp2_S1 : (mI S1 79) = (mI S 79) := by
    have z := rp2_S1
    (try rw [show mI S 65 = f 65 from funext (fun k => zG_z hI rfl)] at z)
    (try rw [show mI S 64 1 = f 64 1 from zG_z hI rfl] at z)
    exact z
  have b1 := i_bd v2
  exact K (v2) _ hI_S1 trivial (show xB S1 (mR S1 70) from by first | (exact xB_x (xC_o (W := 75) rp0_S1).2)) (show aT 79 S1 = aSw ab ∧ v2 = aSv ab from by first | (have z := rp1_S1; refine ⟨(T_sw z.1 (zf_79 rp2_S1)).trans (congrArg aSw hpre1), z.2.trans (T_sv.trans (congrArg aSv hpre1))⟩))
/-! A NEW ONE UNDER SWEEP: aT behind what makes it -/
section K3
variable {P : Nat} {S S₉ : ma_S} {R : Nat → Option Nat} {x y i : Int32} {c k : Nat} {a b : Nat → Nat → Int32} {F : Nat → Int32} {L : Int64}
theorem aT_p (hR : xB S R) : aT 79 (ma_put S 79 4 (.inl x)) = ma_u (aT 79 S) 87 2 x := by
  have e := (xC_n (W := 75) (c := 79) (k := 4) (x := x) (xC_o hR) ⟨by decide, Or.inl ⟨rfl, rfl⟩⟩).1
  funext c k
  show (if c = 87 then zfP 79 (mI (ma_put S 79 4 (.inl x))) k else aS 75 (ma_put S 79 4 (.inl x)) c k) = if c = 87 ∧ k = 2 then x else (if c = 87 then zfP 79 (mI S) k else aS 75 S c k)
  rw [e]
  by_cases w : c = 87
  · rw [if_pos w, if_pos w]
    by_cases w2 : k = 2
    · rw [if_pos ⟨w, w2⟩, w2]
      rfl
    · rw [if_neg (fun q => w2 q.2)]
      unfold zfP
      rw [if_pos rfl, if_pos rfl]
      have e2 : mI (ma_put S 79 4 (.inl x)) 79 (k + 2) = mI S 79 (k + 2) := by
        show (if 79 = 79 ∧ k + 2 = 4 then x else mI S 79 (k + 2)) = mI S 79 (k + 2)
        rw [if_neg (by omega)]
      rw [e2]
  · rw [if_neg w, if_neg w, if_neg (fun q => w q.1)]
theorem o7_ad (h : zO7 a b) : zO7 (aAd a y F L) (aAd b y F L) := by
  have n0 : ∀ m : Nat, zO7 (zNw a m F L) (zNw b m F L) := fun m c₉ k₉ q => by
    unfold zNw
    rw [h c₉ k₉ q]
  have n1 : ∀ (d e : Nat → Nat → Int32) (p j : Int), zO7 d e → zO7 (zIw d p L j) (zIw e p L j) := fun d e p j o c₉ k₉ q => by
    unfold zIw
    rw [o c₉ k₉ q]
  unfold aAd
  rw [h 69 6 (by decide), h 69 8 (by decide)]
  exact o7_u (o7_u (n1 _ _ _ _ (o7_u (n0 _))))
theorem ad_87 : aAd a y F L 87 k = a 87 k := by
  unfold aAd
  rw [xu_o (by omega), xu_o (by omega)]
  unfold zIw
  rw [if_neg (by omega), xu_o (by omega)]
  unfold zNw
  rw [if_neg (by omega), if_neg (by omega), if_neg (by omega)]
theorem T_of (h : zO7 (aS 75 S₉) b) (h7 : ∀ k, b 87 k = zfP P (mI S₉) k) : aT P S₉ = b := by
  funext c k
  by_cases w : c = 87
  · rw [w, h7]
    exact if_pos rfl
  · rw [aT_o w]
    exact h c k w
theorem T_o7 : zO7 (aS 75 S) (aT P S) := fun c k q => (aT_o q).symm
theorem T_7 : aT P S 87 k = zfP P (mI S) k := if_pos rfl
theorem T_ad (h : aS 75 S₉ = aAd (aS 75 S) y F L) (h2 : ∀ k, zfP P (mI S₉) k = zfP P (mI S) k) : aT P S₉ = aAd (aT P S) y F L := T_of (by rw [h]; exact o7_ad T_o7) (fun k => by rw [ad_87, T_7, h2])
theorem T_r0 (h : aS 75 S₉ = aR0 (aS 75 S) i y) (h2 : ∀ k, zfP P (mI S₉) k = zfP P (mI S) k) : aT P S₉ = aR0 (aT P S) i y := by
  refine T_of ?_ (fun k => ?_)
  · rw [h]
    unfold aR0
    have e : aNm (aT P S) y = aNm (aS 75 S) y := by
      unfold aNm
      rw [aT_o (c := 126) (by decide)]
    rw [e]
    exact o7_u T_o7
  · unfold aR0
    rw [xu_o (by omega), T_7, h2]
theorem T_8 : aT P S 87 8 = 0 := by
  rw [T_7]
  rfl
theorem r0_rt (h : a 87 8 = 0) : aR0 a i y = aRt a i y := by
  unfold aR0 aRt
  rw [NC_0 (by rw [xu_o (by omega)]; exact h)]
theorem T_th {nu kd sz pl : Int32} {rr : Int64} (hN : 126 ≤ mN S) (hr : ∀ n c, mR S 70 n = some c → c < mN S) : aT 79 (zTh S nu kd sz rr pl) = aT 79 S := by
  refine T_of ?_ (fun k => ?_)
  · rw [mk_a (Or.inl rfl) hN hr]
    exact T_o7
  · rw [T_7]
    unfold zfP
    rw [if_pos rfl, if_pos rfl, zTh_lo (by decide) hN]
end K3

/-! from 95.k38 -/
/-! the collectors that sweep, the class (written by wip/tools/gen20.py) -/
theorem g_145_64_79_s7_0 {X : Nat × (Nat → Int32)} {d w : Nat} {S : ma_S} {Q : Option ma_V ⊕ Nat → ma_S → Prop} (i : Int32) (x : Option Nat) (hd : 5 ≤ d) (hw : 110 ≤ w) (hS : zT S) (h : ma_wp X (d - 1) (w - 23) 92 0 [(0, .inr (.inr (some 69))), (1, .inl i), (2, .inr (.inr x))] [] S (zo (fun v2 S1 => zT S1 ∧ (Q (.inl (some (.inr (.inr v2)))) S1)) (fun x S9 => Q (.inr x) S9))) : ma_wp X d w 145 0 [(0, .inr (.inr (some 64))), (1, .inr (.inr (some 79))), (2, .inl i), (3, .inr (.inr x))] [] S Q := by
  refine zw_push hm_145 dX11_changeRoot_0 (v := .inr (.inr (some 64))) rfl ?_
  refine zw_gf hm_145 dX11_changeRoot_1 (v := .inr (.inr (some 69))) (zT_is hS s_64) (zT_t hS s_64) rfl f_11_26_11 (zT_f hS r_64_8) ?_
  refine zw_push hm_145 dX11_changeRoot_4 (v := .inl i) rfl ?_
  refine zw_push hm_145 dX11_changeRoot_5 (v := .inr (.inr x)) rfl ?_
  refine zw_cv hm_145 dX11_changeRoot_6 v_11_379_7 hm_92 [.inr (.inr x), .inl i] [] rfl (zT_rt hS s_69 rfl) ⟨by omega, by omega⟩ rfl (zw_mono h (zo_go ?_ ?_))
  · intro v2 S1 hv
    obtain ⟨hS1, h⟩ := hv
    refine zw_sto hm_145 dX11_changeRoot_9 [(4, .inr (.inr v2)), (0, .inr (.inr (some 64))), (1, .inr (.inr (some 79))), (2, .inl i), (3, .inr (.inr x))] rfl rfl rfl ?_
    refine zw_push hm_145 dX11_changeRoot_11 (v := .inr (.inr (some 79))) rfl ?_
    refine zw_push hm_145 dX11_changeRoot_12 (v := .inr (.inr v2)) rfl ?_
    refine zw_push hm_145 dX11_changeRoot_14 (v := .inr (.inr x)) rfl ?_
    refine zw_cv hm_145 dX11_changeRoot_15 v_11_153_8 hm_265 [.inr (.inr x), .inr (.inr v2)] [] rfl (zT_rt hS1 s_79 rfl) ⟨by omega, by omega⟩ rfl ?_
    show ma_wp X (d - 1) (w - 22) 265 0 [(0, .inr (.inr (some 79))), (1, .inr (.inr v2)), (2, .inr (.inr x))] [] S1 _
    refine zw_vret hm_265 dX1_noteChange_0 ?_
    show ma_wp X d w 145 18 [(4, .inr (.inr v2)), (0, .inr (.inr (some 64))), (1, .inr (.inr (some 79))), (2, .inl i), (3, .inr (.inr x))] [] S1 _
    refine zw_push hm_145 dX11_changeRoot_18 (v := .inr (.inr (some 79))) rfl ?_
    refine zw_push hm_145 dX11_changeRoot_19 (v := .inr (.inr v2)) rfl ?_
    refine zw_cv hm_145 dX11_changeRoot_21 v_11_157_8 hm_266 [.inr (.inr v2)] [] rfl (zT_rt hS1 s_79 rfl) ⟨by omega, by omega⟩ rfl ?_
    show ma_wp X (d - 1) (w - 21) 266 0 [(0, .inr (.inr (some 79))), (1, .inr (.inr v2))] [] S1 _
    refine zw_vret hm_266 dX1_noteFewer_0 ?_
    show ma_wp X d w 145 24 [(4, .inr (.inr v2)), (0, .inr (.inr (some 64))), (1, .inr (.inr (some 79))), (2, .inl i), (3, .inr (.inr x))] [] S1 _
    refine zw_push hm_145 dX11_changeRoot_24 (v := .inr (.inr v2)) rfl ?_
    exact zw_aret hm_145 dX11_changeRoot_26 h
  · intro x S9 hx
    exact ⟨by decide, hx⟩
theorem sp_145_64_79_s7 {X : Nat × (Nat → Int32)} {d w : Nat} {f : Nat → Nat → Int32} {r : Nat → Nat → Option Nat} {C Z N : Nat} {Q : Option ma_V ⊕ Nat → ma_S → Prop} {ab : Nat→Nat→Int32} {R : zRT} {y : Int32} {fp : Nat→Int32} {S : ma_S} (i : Int32) (x : Option Nat) (hd : 5 ≤ d) (hw : 110 ≤ w) (hI : zJ79 f r C Z N S) (hq_x : ∀ c, x = some c → 126 ≤ c ∧ c < N) (hpre0 : xB S R) (hpre1 : aS 75 S = ab) (hpre2 : x = zTa R y) (hpre3 : 0 ≤ i.toInt) (hpre4 : i.toInt ≤ 15) (hpre5 : (mI S 79) = fp) (K : ∀ v S₉, zJ79 f r C Z N S₉ → (∀ c, v = some c → 126 ≤ c ∧ c < N) → (xB S₉ R) → (aS 75 S₉ = aR0 ab i y) → ((mI S₉ 79) = fp) → Q (.inl (some (.inr (.inr v)))) S₉) : ma_wp X d w 145 0 [(0, .inr (.inr (some 64))), (1, .inr (.inr (some 79))), (2, .inl i), (3, .inr (.inr x))] [] S Q := by
  refine g_145_64_79_s7_0 i x (by omega) (by omega) (zG_T hI) ?_
  have b1 := i_bd i
  refine sp_92_69_s (ab := (aS 75 S)) (R := R) (W := 75) (y := (y)) (i) (x) (by omega) (by omega) (zJ79_dn hI) hq_x (show xB S R from by first | (exact (xC_o (W := 75) hpre0).2)) (show aS 75 S = (aS 75 S) from by first | (exact rfl)) (show xW 75 from by first | (exact xW88) | (exact xW75)) (show x = zTa R (y) from by first | (exact hpre2)) (by omega) (by omega) (fun v2 S1 hL_S1 hq_v2 rp0_S1 rp1_S1 rp2_S1 => zo_n ⟨zG_T hL_S1, ?_⟩)
  have hI_S1 := zJ79_up hI hL_S1
  have rp0_S1 : xB S1 R := by
    have z := rp0_S1
    (try rw [show mI S 65 = f 65 from funext (fun k => zG_z hI rfl)] at z)
    (try rw [show mI S 64 1 = f 64 1 from zG_z hI rfl] at z)
    exact z
  have rp1_S1 : aS 75 S1 = ma_u (aS 75 S) 72 i.toNatClampNeg (aNm (aS 75 S) (y)) := by
    have z := rp1_S1
    (try rw [show mI S 65 = f 65 from funext (fun k => zG_z hI rfl)] at z)
    (try rw [show mI S 64 1 = f 64 1 from zG_z hI rfl] at z)
    exact z
  have rp2_S1 : v2 = zTa R ((aS 75 S) 72 i.toNatClampNeg) := by
    have z := rp2_S1
    (try rw [show mI S 65 = f 65 from funext (fun k => zG_z hI rfl)] at z)
    (try rw [show mI S 64 1 = f 64 1 from zG_z hI rfl] at z)
    exact z
  exact K (v2) _ hI_S1 hq_v2 (show xB S1 R from by first | (exact (xC_o (W := 75) rp0_S1).2)) (show aS 75 S1 = aR0 ab i y from by first | (rw [rp1_S1, hpre1]; rfl)) (show (mI S1 79) = fp from by first | (exact ((show mI S1 79 = mI S 79 from funext (fun _ => zG_z hL_S1 rfl)).trans hpre5)))
theorem g_110_79_s7_0 {X : Nat × (Nat → Int32)} {d w : Nat} {S : ma_S} {Q : Option ma_V ⊕ Nat → ma_S → Prop} (t : Nat) (hd : 0 ≤ d) (hw : 0 ≤ w) (hS : zT S) (h : (126 ≤ t ∧ t < mN S) ∧ ((126 ≤ t ∧ t < mN S) ∧ (Q (.inl none) (ma_put S 79 4 (.inl ((mI S t 4) + (mI S t 2))))))) : ma_wp X d w 110 0 [(0, .inr (.inr (some 79))), (1, .inr (.inr (some t)))] [] S Q := by
  refine zw_push hm_110 dX8_noteMade_0 (v := .inr (.inr (some 79))) rfl ?_
  refine zw_push hm_110 dX8_noteMade_1 (v := .inr (.inr (some t))) rfl ?_
  obtain ⟨hg, h⟩ := h
  refine zw_gf hm_110 dX8_noteMade_2 (v := .inl (mI S t 4)) (zT_tis hS hg) (zT_tt hS hg) rfl f_8_29_9 rfl ?_
  refine zw_push hm_110 dX8_noteMade_5 (v := .inr (.inr (some t))) rfl ?_
  obtain ⟨hg, h⟩ := h
  refine zw_gf hm_110 dX8_noteMade_6 (v := .inl (mI S t 2)) (zT_tis hS hg) (zT_tt hS hg) rfl f_8_34_9 rfl ?_
  refine zw_stk hm_110 dX8_noteMade_9 (st₉ := [.inl ((mI S t 4) + (mI S t 2)), .inr (.inr (some 79))]) rfl rfl ?_
  refine zw_pf hm_110 dX8_noteMade_10 (zT_is hS s_79) (zT_t hS s_79) p_8_18_8 zk_int ?_
  exact zw_vret hm_110 dX8_noteMade_13 h
theorem sp_110_79_s7 {X : Nat × (Nat → Int32)} {d w : Nat} {f : Nat → Nat → Int32} {r : Nat → Nat → Option Nat} {C Z N : Nat} {Q : Option ma_V ⊕ Nat → ma_S → Prop} {ab : Nat→Nat→Int32} {R : zRT} {y : Int32} {S : ma_S} (t : Nat) (hd : 0 ≤ d) (hw : 0 ≤ w) (hI : zJ79 f r C Z N S) (th_t : 126 ≤ t ∧ t < N) (hpre0 : xB S R) (hpre1 : aT 79 S = ab) (hpre2 : zTa R y = some t) (K : ∀ S₉, zJ79 f r C Z N S₉ → (xB S₉ R) → (aT 79 S₉ = ma_u ab 87 2 (ab 130 y.toNatClampNeg + ab 128 y.toNatClampNeg)) → Q (.inl none) S₉) : ma_wp X d w 110 0 [(0, .inr (.inr (some 79))), (1, .inr (.inr (some t)))] [] S Q := by
  refine g_110_79_s7_0 t (by omega) (by omega) (zG_T hI) ?_
  refine ⟨zG_n hI th_t, ?_⟩
  refine ⟨zG_n hI th_t, ?_⟩
  have f2 := zG_th hI th_t
  have f3 := zG_th hI th_t
  first | have e4 : ((mI S t 4) + (mI S t 2)).toInt = (mI S t 4).toInt + (mI S t 2).toInt := i_add (by omega) (by omega) | have b5 := i_bd ((mI S t 4) + (mI S t 2))
  have hI1 : zJ79 f r C Z N (ma_put S 79 4 (.inl ((mI S t 4) + (mI S t 2)))) := zG_sp hI (0) (400000) rfl (by decide) (by decide) (by decide) trivial (by omega) (by omega)
  exact K _ hI1 (show xB (ma_put S 79 4 (.inl ((mI S t 4) + (mI S t 2)))) R from by first | (exact (xC_n (c := 79) (k := 4) (x := ((mI S t 4) + (mI S t 2))) (xC_o (W := 75) hpre0) ⟨by decide, Or.inl ⟨rfl, rfl⟩⟩).2)) (show aT 79 (ma_put S 79 4 (.inl ((mI S t 4) + (mI S t 2)))) = ma_u ab 87 2 (ab 130 y.toNatClampNeg + ab 128 y.toNatClampNeg) from by first | (have ty := xB_th (W := 75) hpre0 hpre2; have f2 : mI S t 2 = ab 128 y.toNatClampNeg := (by rw [← hpre1, aT_o (by decide)]; exact ty.2.2.2.2.1); have f4 : mI S t 4 = ab 130 y.toNatClampNeg := (by rw [← hpre1, aT_o (by decide)]; exact ty.2.2.2.2.2.1); refine (aT_p hpre0).trans ?_; rw [f2, f4, hpre1]))
theorem g_143_64_s7_64 {X : Nat × (Nat → Int32)} {d w : Nat} {S : ma_S} {Q : Option ma_V ⊕ Nat → ma_S → Prop} (l5 : Int32) (l8 : Nat) (hd : 7 ≤ d) (hw : 182 ≤ w) (hS : zT S) (h : ma_wp X (d - 1) (w - 23) 91 0 [(0, .inr (.inr (some 69))), (1, .inr (.inr (some l8)))] [] S (zv (fun S1 => zT S1 ∧ (ma_wp X (d - 1) (w - 21) 110 0 [(0, .inr (.inr (some 79))), (1, .inr (.inr (some l8)))] [] S1 (zv (fun S3 => zT S3 ∧ (ma_wp X (d - 1) (w - 24) 145 0 [(0, .inr (.inr (some 64))), (1, .inr (.inr (some 79))), (2, .inl l5), (3, .inr (.inr (some l8)))] [] S3 (zo (fun v6 S5 => zT S5 ∧ ((126 ≤ l8 ∧ l8 < mN S5) ∧ (Q (.inl (some (.inl (mI S5 l8 0)))) S5))) (fun x S9 => Q (.inr x) S9)))) (fun _ _ => False)))) (fun x S9 => Q (.inr x) S9))) : ma_wp X d w 143 64 [(0, .inr (.inr (some 64))), (5, .inl l5), (6, .inr (.inr (some 79))), (8, .inr (.inr (some l8)))] [] S Q := by
  refine zw_push hm_143 dX11_addObject_64 (v := .inr (.inr (some 64))) rfl ?_
  refine zw_gf hm_143 dX11_addObject_65 (v := .inr (.inr (some 69))) (zT_is hS s_64) (zT_t hS s_64) rfl f_11_26_11 (zT_f hS r_64_8) ?_
  refine zw_push hm_143 dX11_addObject_68 (v := .inr (.inr (some l8))) rfl ?_
  refine zw_cv hm_143 dX11_addObject_70 v_11_373_7 hm_91 [.inr (.inr (some l8))] [] rfl (zT_rt hS s_69 rfl) ⟨by omega, by omega⟩ rfl (zw_mono h (zv_go ?_ ?_))
  · intro S1 hv
    obtain ⟨hS1, h⟩ := hv
    refine zw_push hm_143 dX11_addObject_73 (v := .inr (.inr (some 79))) rfl ?_
    refine zw_push hm_143 dX11_addObject_75 (v := .inr (.inr (some l8))) rfl ?_
    refine zw_cv hm_143 dX11_addObject_77 v_11_376_8 hm_110 [.inr (.inr (some l8))] [] rfl (zT_rt hS1 s_79 rfl) ⟨by omega, by omega⟩ rfl (zw_mono h (zv_go ?_ ?_))
    · intro S3 hv
      obtain ⟨hS3, h⟩ := hv
      refine zw_push hm_143 dX11_addObject_80 (v := .inr (.inr (some 64))) rfl ?_
      refine zw_push hm_143 dX11_addObject_81 (v := .inr (.inr (some 79))) rfl ?_
      refine zw_push hm_143 dX11_addObject_83 (v := .inl l5) rfl ?_
      refine zw_push hm_143 dX11_addObject_85 (v := .inr (.inr (some l8))) rfl ?_
      refine zw_cv hm_143 dX11_addObject_87 v_11_169_11 hm_145 [.inr (.inr (some l8)), .inl l5, .inr (.inr (some 79))] [] rfl (zT_rt hS3 s_64 rfl) ⟨by omega, by omega⟩ rfl (zw_mono h (zo_go ?_ ?_))
      · intro v6 S5 hv
        obtain ⟨hS5, h⟩ := hv
        refine zw_stk hm_143 dX11_addObject_90 (st₉ := []) rfl rfl ?_
        refine zw_push hm_143 dX11_addObject_91 (v := .inr (.inr (some l8))) rfl ?_
        obtain ⟨hg, h⟩ := h
        refine zw_gf hm_143 dX11_addObject_93 (v := .inl (mI S5 l8 0)) (zT_tis hS5 hg) (zT_tt hS5 hg) rfl f_11_182_9 rfl ?_
        exact zw_iret hm_143 dX11_addObject_96 h
      · intro x S9 hx
        exact ⟨by decide, hx⟩
    · intro x S9 hx
      exact hx.elim
  · intro x S9 hx
    exact ⟨by decide, hx⟩
theorem sg_143_64_s7_64 {X : Nat × (Nat → Int32)} {d w : Nat} {f : Nat → Nat → Int32} {r : Nat → Nat → Option Nat} {C Z N : Nat} {Q : Option ma_V ⊕ Nat → ma_S → Prop} {ab : Nat→Nat→Int32} {R : zRT} {y : Int32} {I0 : Nat→Int32} {L0 : Int64} {S : ma_S} (l5 : Int32) (l8 : Nat) (hd : 7 ≤ d) (hw : 182 ≤ w) (hI : zB f r C Z N S) (th_l8 : 126 ≤ l8 ∧ l8 < N) (hpre0 : (mI S 69 6).toInt ≤ 511) (hpre1 : xB S R) (hpre2 : aT 79 S = ab) (hpre3 : mI S l8 = I0) (hpre4 : mL S l8 3 = L0) (hpre5 : I0 0 = y) (hpre6 : (0 ≤ (I0 0).toInt ∧ (I0 0).toInt ≤ 511) ∧ (1 ≤ (I0 2).toInt ∧ (I0 2).toInt ≤ 61) ∧ 0 ≤ (I0 4).toInt ∧ (I0 4).toInt + (I0 2).toInt ≤ 4500) (hpre7 : 0 ≤ y.toInt ∧ y.toInt < 512) (hpre8 : 0 ≤ l5.toInt) (hpre9 : l5.toInt ≤ 15) (K : ∀ v S₉, zB f r C Z N S₉ → (True) → (xB S₉ (mR S₉ 70)) → (aT 79 S₉ = aRt (aMd (aAd ab y I0 L0) y) l5 y ∧ v = y) → Q (.inl (some (.inl v))) S₉) : ma_wp X d w 143 64 [(0, .inr (.inr (some 64))), (5, .inl l5), (6, .inr (.inr (some 79))), (8, .inr (.inr (some l8)))] [] S Q := by
  refine g_143_64_s7_64 l5 l8 (by omega) (by omega) (zG_T hI) ?_
  have f1 := zG_s hI (0) (512) (c := 69) (k := 6) (by decide)
  refine sp_91_69_s (ab := (aS 75 S)) (R := R) (W := 75) (y := y) (I0 := I0) (L0 := L0) (u := l8) l8 (by omega) (by omega) (zB_dn_zS hI) th_l8 (show (mI S 69 6).toInt ≤ 511 from by omega) (show xB S R from by first | (exact (xC_o (W := 75) hpre1).2)) (show aS 75 S = (aS 75 S) from by first | (exact rfl)) (show xW 75 from by first | (exact xW88) | (exact xW75)) (show mI S l8 = I0 from by first | (exact rfl) | (exact hpre3)) (show mL S l8 3 = L0 from by first | (exact rfl) | (exact hpre4)) (show I0 0 = y from by first | (exact rfl) | (exact hpre5)) (show (0 ≤ (I0 0).toInt ∧ (I0 0).toInt ≤ 511) ∧ (1 ≤ (I0 2).toInt ∧ (I0 2).toInt ≤ 61) ∧ 0 ≤ (I0 4).toInt ∧ (I0 4).toInt + (I0 2).toInt ≤ 4500 from by first | (exact hpre6) | (omega)) (show l8 = l8 from by first | (exact rfl)) (fun S1 hL_S1 rp0_S1 rp1_S1 => zv_n ⟨zG_T hL_S1, ?_⟩)
  have hI_S1 := zB_up_zS hI hL_S1
  have rp0_S1 : xB S1 (zRu R y.toNatClampNeg (some l8)) := by
    have z := rp0_S1
    (try rw [show mI S 65 = f 65 from funext (fun k => zG_z hI rfl)] at z)
    (try rw [show mI S 64 1 = f 64 1 from zG_z hI rfl] at z)
    exact z
  have rp1_S1 : aS 75 S1 = aAd (aS 75 S) y I0 L0 := by
    have z := rp1_S1
    (try rw [show mI S 65 = f 65 from funext (fun k => zG_z hI rfl)] at z)
    (try rw [show mI S 64 1 = f 64 1 from zG_z hI rfl] at z)
    exact z
  refine sp_110_79_s7 (ab := (aT 79 S1)) (R := (zRu R y.toNatClampNeg (some l8))) (y := (y)) l8 (by omega) (by omega) (zB_dn_zJ79 hI_S1) th_l8 (show xB S1 (zRu R y.toNatClampNeg (some l8)) from by first | (exact (xC_o (W := 75) rp0_S1).2)) (show aT 79 S1 = (aT 79 S1) from by first | (exact rfl)) (show zTa (zRu R y.toNatClampNeg (some l8)) (y) = some l8 from by first | (exact (zTa_u (R := R) (c := l8) hpre7.1 hpre7.2))) (fun S3 hL_S3 rp0_S3 rp1_S3 => zv_n ⟨zG_T hL_S3, ?_⟩)
  have hI_S3 := zB_up_zJ79 hI_S1 hL_S3
  have rp0_S3 : xB S3 (zRu R y.toNatClampNeg (some l8)) := by
    have z := rp0_S3
    (try rw [show mI S1 65 = f 65 from funext (fun k => zG_z hI_S1 rfl)] at z)
    (try rw [show mI S1 64 1 = f 64 1 from zG_z hI_S1 rfl] at z)
    exact z
  have rp1_S3 : aT 79 S3 = ma_u (aT 79 S1) 87 2 ((aT 79 S1) 130 (y).toNatClampNeg + (aT 79 S1) 128 (y).toNatClampNeg) := by
    have z := rp1_S3
    (try rw [show mI S1 65 = f 65 from funext (fun k => zG_z hI_S1 rfl)] at z)
    (try rw [show mI S1 64 1 = f 64 1 from zG_z hI_S1 rfl] at z)
    exact z
  have b2 := i_bd l5
  refine sp_145_64_79_s7 (ab := (aS 75 S3)) (R := (zRu R y.toNatClampNeg (some l8))) (y := (y)) (fp := (mI S3 79)) (l5) ((some l8)) (by omega) (by omega) (zB_dn_zJ79 hI_S3) (fun _ z => by cases z; exact th_l8) (show xB S3 (zRu R y.toNatClampNeg (some l8)) from by first | (exact (xC_o (W := 75) rp0_S3).2)) (show aS 75 S3 = (aS 75 S3) from by first | (exact rfl)) (show (some l8) = zTa (zRu R y.toNatClampNeg (some l8)) (y) from by first | (exact (zTa_u (R := R) (c := l8) hpre7.1 hpre7.2).symm)) (by omega) (by omega) (show (mI S3 79) = (mI S3 79) from by first | (exact rfl)) (fun v6 S5 hL_S5 hq_v6 rp0_S5 rp1_S5 rp2_S5 => zo_n ⟨zG_T hL_S5, ?_⟩)
  have hI_S5 := zB_up_zJ79 hI_S3 hL_S5
  have rp0_S5 : xB S5 (zRu R y.toNatClampNeg (some l8)) := by
    have z := rp0_S5
    (try rw [show mI S3 65 = f 65 from funext (fun k => zG_z hI_S3 rfl)] at z)
    (try rw [show mI S3 64 1 = f 64 1 from zG_z hI_S3 rfl] at z)
    exact z
  have rp1_S5 : aS 75 S5 = aR0 (aS 75 S3) l5 (y) := by
    have z := rp1_S5
    (try rw [show mI S3 65 = f 65 from funext (fun k => zG_z hI_S3 rfl)] at z)
    (try rw [show mI S3 64 1 = f 64 1 from zG_z hI_S3 rfl] at z)
    exact z
  have rp2_S5 : (mI S5 79) = (mI S3 79) := by
    have z := rp2_S5
    (try rw [show mI S3 65 = f 65 from funext (fun k => zG_z hI_S3 rfl)] at z)
    (try rw [show mI S3 64 1 = f 64 1 from zG_z hI_S3 rfl] at z)
    exact z
  refine ⟨zG_n hI_S5 th_l8, ?_⟩
  have f3 := zG_th hI_S5 th_l8
  exact K ((mI S5 l8 0)) _ hI_S5 trivial (show xB S5 (mR S5 70) from by first | (exact xB_x (xC_o (W := 75) rp0_S5).2)) (show aT 79 S5 = aRt (aMd (aAd ab y I0 L0) y) l5 y ∧ (mI S5 l8 0) = y from by first | (have ty := xB_th (W := 75) rp0_S5 (zTa_u (R := R) (c := l8) hpre7.1 hpre7.2); have s1 := T_ad (P := 79) rp1_S1 (zf_79 (show mI S1 79 = mI S 79 from funext (fun _ => zG_z hL_S1 rfl))); rw [hpre2] at s1; have s2 := rp1_S3; have s3 := T_r0 (P := 79) rp1_S5 (zf_79 rp2_S5); rw [r0_rt T_8, s2, ← aMd_n T_8, s1] at s3; exact ⟨s3, ty.2.2.1⟩))
theorem g_143_64_s7_p79_0 {X : Nat × (Nat → Int32)} {d w : Nat} {S : ma_S} {Q : Option ma_V ⊕ Nat → ma_S → Prop} (kd : Int32) (wd : Int32) (rf : Int64) (rt : Int32) (hd : 7 ≤ d) (hw : 182 ≤ w) (hS : zT S) (h : mR S 64 11 = some 79 ∧ (mR S 64 11 = some 79 ∧ (if (512 : Int32) ≤ (mI S 69 6) then (Q (.inl (some (.inl (-1 : Int32)))) S) else (ma_wp X (d - 1) (w - 22) 102 0 [(0, .inr (.inr (some 79))), (1, .inl (wd + (1 : Int32)))] [] S (zi (fun v2 S1 => zT S1 ∧ (if v2 = (-1 : Int32) then (Q (.inl (some (.inl (-1 : Int32)))) S1) else (ma_wp X d w 143 41 [(0, .inr (.inr (some 64))), (1, .inl kd), (2, .inl wd), (3, .inr (.inl rf)), (5, .inl rt), (6, .inr (.inr (some 79))), (7, .inl v2)] [] S1 Q))) (fun _ _ => False)))))) : ma_wp X d w 143 0 [(0, .inr (.inr (some 64))), (1, .inl kd), (2, .inl wd), (3, .inr (.inl rf)), (5, .inl rt)] [] S Q := by
  refine zw_push hm_143 dX11_addObject_0 (v := .inr (.inr (some 64))) rfl ?_
  refine zw_cv hm_143 dX11_addObject_1 v_11_119_11 hm_144 [] [] rfl (zT_rt hS s_64 rfl) ⟨by omega, by omega⟩ rfl ?_
  show ma_wp X (d - 1) (w - 20) 144 0 [(0, .inr (.inr (some 64)))] [] S _
  refine zw_push hm_144 dX11_needCollector_0 (v := .inr (.inr (some 64))) rfl ?_
  obtain ⟨hg, h⟩ := h
  refine zw_gf hm_144 dX11_needCollector_1 (v := .inr (.inr (some 79))) (zT_is hS s_64) (zT_t hS s_64) rfl f_11_98_11 (congrArg (fun z => Sum.inr (Sum.inr z)) hg) ?_
  refine zw_ifnonnull hm_144 dX11_needCollector_4 (t := 15) rfl (fun z => by cases z) (fun _ _ => ?_)
  refine zw_push hm_144 dX11_needCollector_15 (v := .inr (.inr (some 64))) rfl ?_
  obtain ⟨hg, h⟩ := h
  refine zw_gf hm_144 dX11_needCollector_16 (v := .inr (.inr (some 79))) (zT_is hS s_64) (zT_t hS s_64) rfl f_11_98_11 (congrArg (fun z => Sum.inr (Sum.inr z)) hg) ?_
  refine zw_aret hm_144 dX11_needCollector_19 ?_
  show ma_wp X d w 143 4 [(0, .inr (.inr (some 64))), (1, .inl kd), (2, .inl wd), (3, .inr (.inl rf)), (5, .inl rt)] [.inr (.inr (some 79))] S _
  refine zw_sto hm_143 dX11_addObject_4 [(6, .inr (.inr (some 79))), (0, .inr (.inr (some 64))), (1, .inl kd), (2, .inl wd), (3, .inr (.inl rf)), (5, .inl rt)] rfl rfl rfl ?_
  refine zw_push hm_143 dX11_addObject_6 (v := .inr (.inr (some 64))) rfl ?_
  refine zw_gf hm_143 dX11_addObject_7 (v := .inr (.inr (some 69))) (zT_is hS s_64) (zT_t hS s_64) rfl f_11_26_11 (zT_f hS r_64_8) ?_
  refine zw_gf hm_143 dX11_addObject_10 (v := .inl (mI S 69 6)) (zT_is hS s_69) (zT_t hS s_69) rfl f_11_244_7 rfl ?_
  refine zw_push hm_143 dX11_addObject_13 (v := .inl (512 : Int32)) rfl ?_
  refine zw_if2 hm_143 dX11_addObject_16 (t := 30) rfl zc2_ge ?_ ?_
  · intro hc
    rw [if_pos hc] at h
    refine zw_push hm_143 dX11_addObject_30 (v := .inl (-1 : Int32)) rfl ?_
    refine zw_sto hm_143 dX11_addObject_31 [(7, .inl (-1 : Int32)), (6, .inr (.inr (some 79))), (0, .inr (.inr (some 64))), (1, .inl kd), (2, .inl wd), (3, .inr (.inl rf)), (5, .inl rt)] rfl rfl rfl ?_
    refine zw_push hm_143 dX11_addObject_33 (v := .inl (-1 : Int32)) rfl ?_
    refine zw_push hm_143 dX11_addObject_35 (v := .inl (-1 : Int32)) rfl ?_
    refine zw_if2 hm_143 dX11_addObject_36 (t := 41) rfl zc2_ne (fun hc => absurd hc (by decide)) (fun _ => ?_)
    refine zw_push hm_143 dX11_addObject_39 (v := .inl (-1 : Int32)) rfl ?_
    exact zw_iret hm_143 dX11_addObject_40 h
  · intro hc
    rw [if_neg hc] at h
    refine zw_push hm_143 dX11_addObject_19 (v := .inr (.inr (some 79))) rfl ?_
    refine zw_push hm_143 dX11_addObject_21 (v := .inl wd) rfl ?_
    refine zw_push hm_143 dX11_addObject_22 (v := .inl (1 : Int32)) rfl ?_
    refine zw_stk hm_143 dX11_addObject_23 (st₉ := [.inl (wd + (1 : Int32)), .inr (.inr (some 79))]) rfl rfl ?_
    refine zw_cv hm_143 dX11_addObject_24 v_11_367_8 hm_102 [.inl (wd + (1 : Int32))] [] rfl (zT_rt hS s_79 rfl) ⟨by omega, by omega⟩ rfl (zw_mono h (zi_go ?_ ?_))
    · intro v2 S1 hv
      obtain ⟨hS1, h⟩ := hv
      refine zw_goto hm_143 dX11_addObject_27 (t := 31) rfl ?_
      refine zw_sto hm_143 dX11_addObject_31 [(7, .inl v2), (6, .inr (.inr (some 79))), (0, .inr (.inr (some 64))), (1, .inl kd), (2, .inl wd), (3, .inr (.inl rf)), (5, .inl rt)] rfl rfl rfl ?_
      refine zw_push hm_143 dX11_addObject_33 (v := .inl v2) rfl ?_
      refine zw_push hm_143 dX11_addObject_35 (v := .inl (-1 : Int32)) rfl ?_
      refine zw_if2 hm_143 dX11_addObject_36 (t := 41) rfl zc2_ne ?_ ?_
      · intro hc
        rw [if_neg hc] at h
        exact zw_sub (ma_nd_of (ks := [0, 1, 2, 3, 5, 6, 7]) rfl (by decide)) (ma_nd_of (ks := [7, 6, 0, 1, 2, 3, 5]) rfl (by decide)) (ma_le_cons rfl (ma_le_cons rfl (ma_le_cons rfl (ma_le_cons rfl (ma_le_cons rfl (ma_le_cons rfl (ma_le_cons rfl (ma_le_nil _)))))))) h
      · intro hc
        rw [if_pos (Classical.not_not.mp hc)] at h
        refine zw_push hm_143 dX11_addObject_39 (v := .inl (-1 : Int32)) rfl ?_
        exact zw_iret hm_143 dX11_addObject_40 h
    · intro x S9 hx
      exact hx.elim
theorem sp_143_64_s7_p79 {X : Nat × (Nat → Int32)} {d w : Nat} {f : Nat → Nat → Int32} {r : Nat → Nat → Option Nat} {C Z N : Nat} {Q : Option ma_V ⊕ Nat → ma_S → Prop} {ab : Nat→Nat→Int32} {S : ma_S} (kd : Int32) (wd : Int32) (rf : Int64) (rt : Int32) (hd : 7 ≤ d) (hw : 182 ≤ w) (hI : zB f r C Z N S) (hr : r 64 11 = some 79) (hpre0 : 0 ≤ wd.toInt) (hpre1 : wd.toInt ≤ 60) (hpre2 : 0 ≤ rt.toInt) (hpre3 : rt.toInt ≤ 15) (hpre4 : xB S (mR S 70)) (hpre5 : aT 79 S = ab) (K : ∀ v S₉ r₉ C₉ Z₉ N₉, (∀ c k, c < 126 → r₉ c k = r c k) → C₉ ≤ C + 1 → Z₉ ≤ Z + 9 → (N ≤ N₉) → zB f r₉ C₉ Z₉ N₉ S₉ → (True) → (xB S₉ (mR S₉ 70)) → (aT 79 S₉ = sMk ab kd wd rf rt ∧ v = sMn ab wd) → Q (.inl (some (.inl v))) S₉) : ma_wp X d w 143 0 [(0, .inr (.inr (some 64))), (1, .inl kd), (2, .inl wd), (3, .inr (.inl rf)), (5, .inl rt)] [] S Q := by
  refine g_143_64_s7_p79_0 kd wd rf rt (by omega) (by omega) (zG_T hI) ?_
  refine ⟨((zG_r hI (by decide)).trans hr), ?_⟩
  refine ⟨((zG_r hI (by decide)).trans hr), ?_⟩
  have li1 : (512 : Int32).toInt = 512 := rfl
  have f2 := zG_s hI (0) (512) (c := 69) (k := 6) (by decide)
  refine zd (fun h3 => ?_) (fun h3 => ?_)
  · skip
    have g4 := i_le h3
    have li5 : (-1 : Int32).toInt = -1 := rfl
    exact K ((-1 : Int32)) _ _ _ _ _ (fun _ _ _ => rfl) (by omega) (by omega) (Nat.le_refl _) hI trivial (show xB S (mR S 70) from by first | (exact xB_x (xC_o (W := 75) hpre4).2)) (show aT 79 S = sMk ab kd wd rf rt ∧ (-1 : Int32) = sMn ab wd from by first | (have z := sMk_0 (a := ab) (kd := kd) (wd := wd) (rt := rt) (L := rf) (by rw [← hpre5, (show aT 79 S 69 6 = mI S 69 6 from (aT_o (by decide)).trans (aS_I (W := 75) (S := S) (c := 69) (c₉ := 69) (k := 6) rfl rfl))]; omega); exact ⟨hpre5.trans z.1.symm, z.2.symm⟩))
  · skip
    have g6 := i_nle h3
    have b7 := i_bd wd
    first | have e8 : (wd + (1 : Int32)).toInt = wd.toInt + (1) := i_addk rfl (by omega) (by omega) | have b9 := i_bd (wd + (1 : Int32))
    refine sp_102_79_s (ab := (aT 79 S)) ((wd + (1 : Int32))) (by omega) (by omega) (zB_dn_zJ79 hI) (show xB S (mR S 70) from by first | (exact xB_x (xC_o (W := 75) hpre4).2)) (show aT 79 S = (aT 79 S) from by first | (exact rfl)) (fun v2 S1 hL_S1 hp_v2 rp0_S1 rp1_S1 => zi_n ⟨zG_T hL_S1, ?_⟩)
    have hI_S1 := zB_up_zJ79 hI hL_S1
    have rp0_S1 : xB S1 (mR S1 70) := by
      have z := rp0_S1
      (try rw [show mI S 65 = f 65 from funext (fun k => zG_z hI rfl)] at z)
      (try rw [show mI S 64 1 = f 64 1 from zG_z hI rfl] at z)
      exact z
    have rp1_S1 : aT 79 S1 = zRs (aT 79 S) (wd + (1 : Int32)).toInt ∧ v2.toInt = zRp (aT 79 S) (wd + (1 : Int32)).toInt := by
      have z := rp1_S1
      (try rw [show mI S 65 = f 65 from funext (fun k => zG_z hI rfl)] at z)
      (try rw [show mI S 64 1 = f 64 1 from zG_z hI rfl] at z)
      exact z
    have b10 := i_bd v2
    have li11 : (-1 : Int32).toInt = -1 := rfl
    refine zd (fun h12 => ?_) (fun h12 => ?_)
    · skip
      have g13 := i_eq h12
      exact K ((-1 : Int32)) _ _ _ _ _ (fun _ _ _ => rfl) (by omega) (by omega) (Nat.le_refl _) hI_S1 trivial (show xB S1 (mR S1 70) from by first | (exact xB_x (xC_o (W := 75) rp0_S1).2)) (show aT 79 S1 = sMk ab kd wd rf rt ∧ (-1 : Int32) = sMn ab wd from by first | (have wd1 : (wd + (1 : Int32)).toInt = wd.toInt + 1 := i_addk rfl (by omega) (by omega); have rs := rp1_S1; rw [hpre5] at rs; have z := sMk_1 (a := ab) (kd := kd) (wd := wd) (rt := rt) (L := rf) (by rw [← hpre5, (show aT 79 S 69 6 = mI S 69 6 from (aT_o (by decide)).trans (aS_I (W := 75) (S := S) (c := 69) (c₉ := 69) (k := 6) rfl rfl))]; omega) (by omega); exact ⟨rs.1.trans z.1.symm, z.2.symm⟩))
    · skip
      have g14 := i_ne h12
      have b15 := i_bd rt
      have q16 : (mI S1 69 6).toInt = (mI S 69 6).toInt := zG_zi (f := mI S) hL_S1 rfl
      have f17 := zG_s hI_S1 (0) (512) (c := 69) (k := 6) (by decide)
      have hN2 : 126 ≤ mN S1 := (zG_T hI_S1).2.1
      have hr2 : ∀ n c, mR S1 70 n = some c → c < mN S1 := fun n c q => by have z := zG_70 hI_S1 (by decide) q; rw [zG_N hI_S1]; exact z.2
      have wd1 : (wd + (1 : Int32)).toInt = wd.toInt + 1 := i_addk rfl (by omega) (by omega)
      have hy : (mI S1 69 6) = aT 79 S1 69 6 := (show aT 79 S1 69 6 = mI S1 69 6 from (aT_o (by decide)).trans (aS_I (W := 75) (S := S1) (c := 69) (c₉ := 69) (k := 6) rfl rfl)).symm
      have rs := rp1_S1
      have mk2 := sMk_2 (a := ab) (b := aT 79 S1) (kd := kd) (wd := wd) (rt := rt) (L := rf) (pl := v2) (y := (mI S1 69 6)) (by rw [← hpre5, (show aT 79 S 69 6 = mI S 69 6 from (aT_o (by decide)).trans (aS_I (W := 75) (S := S) (c := 69) (c₉ := 69) (k := 6) rfl rfl))]; omega) (by rw [← hpre5]; exact rs.1) (by rw [← hpre5]; exact rs.2) (by omega) hy
      exact mk_143s (p := 79) (by omega) (by omega) hI_S1 (by show 0 ≤ (mI S1 69 6).toInt; omega) (by show (mI S1 69 6).toInt ≤ 511; omega) (by omega) (by omega) (by omega) (by omega) (fun Sn hn hj => sg_143_64_s7_64 (ab := aT 79 S1) (R := mR S1 70) (y := (mI S1 69 6)) (I0 := (zFn (mI S1 69 6) kd (wd + (1 : Int32)) v2)) (L0 := rf) (rt) N (by omega) (by omega) hn ⟨Nat.le_trans (zG_T hI_S1).2.1 (Nat.le_of_eq (zG_N hI_S1)), Nat.lt_succ_self _⟩ (by rw [hj, zTh_lo (by decide) hN2]; omega) (by rw [hj]; exact mk_B rp0_S1 hN2 hr2) (by rw [hj]; exact T_th hN2 hr2) (by rw [hj]; have q := zTh_eq (S := S1) (nu := (mI S1 69 6)) (kd := kd) (sz := wd + (1 : Int32)) (rr := rf) (pl := v2); rw [zG_N hI_S1] at q; exact q) (by rw [hj]; have q := zTh_L3 (S := S1) (nu := (mI S1 69 6)) (kd := kd) (sz := wd + (1 : Int32)) (rr := rf) (pl := v2); rw [zG_N hI_S1] at q; exact q) rfl (show (0 ≤ (mI S1 69 6).toInt ∧ (mI S1 69 6).toInt ≤ 511) ∧ (1 ≤ (wd + (1 : Int32)).toInt ∧ (wd + (1 : Int32)).toInt ≤ 61) ∧ 0 ≤ v2.toInt ∧ v2.toInt + (wd + (1 : Int32)).toInt ≤ 4500 by omega) ⟨by omega, by omega⟩ (by omega) (by omega) (fun v9 S9 h9 h10 q0 q1 => K v9 S9 _ _ _ _ (zrN_lo (zG_T hI_S1) (zG_N hI_S1)) (by omega) (by omega) (by omega) h9 h10 q0 (by rw [mk2.1, mk2.2]; exact q1)))

/-! from 95.k39 -/
/-! the collectors that sweep, the class (written by wip/tools/gen20.py) -/
theorem g_141_64_s7_p79_0 {X : Nat × (Nat → Int32)} {d w : Nat} {S : ma_S} {Q : Option ma_V ⊕ Nat → ma_S → Prop} (ki : Int32) (rt : Int32) (hd : 8 ≤ d) (hw : 232 ≤ w) (hS : zT S) (h : if ki < 0 then (Q (.inr 2) (ma_bump S)) else (if (mI S 64 7) ≤ ki then (Q (.inr 2) (ma_bump S)) else (if rt < 0 then (Q (.inr 2) (ma_bump S)) else (if (16 : Int32) ≤ rt then (Q (.inr 2) (ma_bump S)) else ((0 ≤ ki ∧ ki.toNatClampNeg < 16) ∧ ((0 ≤ ki ∧ ki.toNatClampNeg < 16) ∧ (ma_wp X (d - 1) (w - 28) 143 0 [(0, .inr (.inr (some 64))), (1, .inl ki), (2, .inl (mI S 67 ki.toNatClampNeg)), (3, .inr (.inl ((mI S 68 ki.toNatClampNeg).toInt64))), (5, .inl rt)] [] S (zi (fun v2 S1 => zT S1 ∧ (Q (.inl (some (.inl v2))) S1)) (fun x S9 => Q (.inr x) S9))))))))) : ma_wp X d w 141 0 [(0, .inr (.inr (some 64))), (1, .inl ki), (2, .inl rt)] [] S Q := by
  refine zw_push hm_141 dX11_make_0 (v := .inl ki) rfl ?_
  refine zw_if0 hm_141 dX11_make_1 (t := 19) rfl zc0_lt ?_ ?_
  · intro hc
    rw [if_pos hc] at h
    exact zw_thr hm_141 dX11_make_19 dX11_make_22 dX11_make_23 dX11_make_26 x_11_79_81 n_11_79 (by omega) (by show 0 + 81 ≤ w; omega) h
  · intro hc
    rw [if_neg hc] at h
    refine zw_push hm_141 dX11_make_4 (v := .inl ki) rfl ?_
    refine zw_push hm_141 dX11_make_5 (v := .inr (.inr (some 64))) rfl ?_
    refine zw_gf hm_141 dX11_make_6 (v := .inl (mI S 64 7)) (zT_is hS s_64) (zT_t hS s_64) rfl f_11_82_11 rfl ?_
    refine zw_if2 hm_141 dX11_make_9 (t := 19) rfl zc2_ge ?_ ?_
    · intro hc
      rw [if_pos hc] at h
      exact zw_thr hm_141 dX11_make_19 dX11_make_22 dX11_make_23 dX11_make_26 x_11_79_81 n_11_79 (by omega) (by show 0 + 81 ≤ w; omega) h
    · intro hc
      rw [if_neg hc] at h
      refine zw_push hm_141 dX11_make_12 (v := .inl rt) rfl ?_
      refine zw_cs hm_141 dX11_make_13 pn_11_109 sl_11_109 hm_142 [.inl rt] [] rfl ⟨by omega, by omega⟩ rfl ?_
      show ma_wp X (d - 1) (w - 20) 142 0 [(0, .inl rt)] [] S _
      refine zw_push hm_142 dX11_isSlot_0 (v := .inl rt) rfl ?_
      refine zw_if0 hm_142 dX11_isSlot_1 (t := 14) rfl zc0_lt ?_ ?_
      · intro hc
        rw [if_pos hc] at h
        refine zw_push hm_142 dX11_isSlot_14 (v := .inl (0 : Int32)) rfl ?_
        refine zw_bret hm_142 dX11_isSlot_15 (by decide) ?_
        show ma_wp X d w 141 16 [(0, .inr (.inr (some 64))), (1, .inl ki), (2, .inl rt)] [.inl (0 : Int32)] S _
        refine zw_if0 hm_141 dX11_make_16 (t := 27) rfl zc0_ne (fun hc => absurd hc (by decide)) (fun _ => ?_)
        exact zw_thr hm_141 dX11_make_19 dX11_make_22 dX11_make_23 dX11_make_26 x_11_79_81 n_11_79 (by omega) (by show 0 + 81 ≤ w; omega) h
      · intro hc
        rw [if_neg hc] at h
        refine zw_push hm_142 dX11_isSlot_4 (v := .inl rt) rfl ?_
        refine zw_push hm_142 dX11_isSlot_5 (v := .inl (16 : Int32)) rfl ?_
        refine zw_if2 hm_142 dX11_isSlot_7 (t := 14) rfl zc2_ge ?_ ?_
        · intro hc
          rw [if_pos hc] at h
          refine zw_push hm_142 dX11_isSlot_14 (v := .inl (0 : Int32)) rfl ?_
          refine zw_bret hm_142 dX11_isSlot_15 (by decide) ?_
          show ma_wp X d w 141 16 [(0, .inr (.inr (some 64))), (1, .inl ki), (2, .inl rt)] [.inl (0 : Int32)] S _
          refine zw_if0 hm_141 dX11_make_16 (t := 27) rfl zc0_ne (fun hc => absurd hc (by decide)) (fun _ => ?_)
          exact zw_thr hm_141 dX11_make_19 dX11_make_22 dX11_make_23 dX11_make_26 x_11_79_81 n_11_79 (by omega) (by show 0 + 81 ≤ w; omega) h
        · intro hc
          rw [if_neg hc] at h
          refine zw_push hm_142 dX11_isSlot_10 (v := .inl (1 : Int32)) rfl ?_
          refine zw_goto hm_142 dX11_isSlot_11 (t := 15) rfl ?_
          refine zw_bret hm_142 dX11_isSlot_15 (by decide) ?_
          show ma_wp X d w 141 16 [(0, .inr (.inr (some 64))), (1, .inl ki), (2, .inl rt)] [.inl (1 : Int32)] S _
          refine zw_if0 hm_141 dX11_make_16 (t := 27) rfl zc0_ne (fun _ => ?_) (fun hc => absurd (by decide) hc)
          refine zw_push hm_141 dX11_make_27 (v := .inr (.inr (some 64))) rfl ?_
          refine zw_push hm_141 dX11_make_28 (v := .inl ki) rfl ?_
          refine zw_push hm_141 dX11_make_29 (v := .inr (.inr (some 64))) rfl ?_
          refine zw_gf hm_141 dX11_make_30 (v := .inr (.inr (some 67))) (zT_is hS s_64) (zT_t hS s_64) rfl f_11_17_11 (zT_f hS r_64_5) ?_
          refine zw_push hm_141 dX11_make_33 (v := .inl ki) rfl ?_
          obtain ⟨hg, h⟩ := h
          refine zw_ia hm_141 dX11_make_34 (zT_is hS s_67) (zT_h hS s_67) rfl hg ?_
          show ma_wp X d w 141 35 [(0, .inr (.inr (some 64))), (1, .inl ki), (2, .inl rt)] [.inl (mI S 67 ki.toNatClampNeg), .inl ki, .inr (.inr (some 64))] S _
          refine zw_push hm_141 dX11_make_35 (v := .inr (.inr (some 64))) rfl ?_
          refine zw_gf hm_141 dX11_make_36 (v := .inr (.inr (some 68))) (zT_is hS s_64) (zT_t hS s_64) rfl f_11_20_11 (zT_f hS r_64_6) ?_
          refine zw_push hm_141 dX11_make_39 (v := .inl ki) rfl ?_
          obtain ⟨hg, h⟩ := h
          refine zw_ia hm_141 dX11_make_40 (zT_is hS s_68) (zT_h hS s_68) rfl hg ?_
          show ma_wp X d w 141 41 [(0, .inr (.inr (some 64))), (1, .inl ki), (2, .inl rt)] [.inl (mI S 68 ki.toNatClampNeg), .inl (mI S 67 ki.toNatClampNeg), .inl ki, .inr (.inr (some 64))] S _
          refine zw_stk hm_141 dX11_make_41 (st₉ := [.inr (.inl ((mI S 68 ki.toNatClampNeg).toInt64)), .inl (mI S 67 ki.toNatClampNeg), .inl ki, .inr (.inr (some 64))]) rfl rfl ?_
          refine zw_push hm_141 dX11_make_42 (v := .inl rt) rfl ?_
          refine zw_cv hm_141 dX11_make_43 v_11_113_11 hm_143 [.inl rt, .inr (.inl ((mI S 68 ki.toNatClampNeg).toInt64)), .inl (mI S 67 ki.toNatClampNeg), .inl ki] [] rfl (zT_rt hS s_64 rfl) ⟨by omega, by omega⟩ rfl (zw_mono h (zi_go ?_ ?_))
          · intro v2 S1 hv
            obtain ⟨hS1, h⟩ := hv
            exact zw_iret hm_141 dX11_make_46 h
          · intro x S9 hx
            exact ⟨by decide, hx⟩
theorem sp_141_64_s7_p79 {X : Nat × (Nat → Int32)} {d w : Nat} {f : Nat → Nat → Int32} {r : Nat → Nat → Option Nat} {C Z N : Nat} {Q : Option ma_V ⊕ Nat → ma_S → Prop} {ab : Nat→Nat→Int32} {S : ma_S} (ki : Int32) (rt : Int32) (hd : 8 ≤ d) (hw : 232 ≤ w) (hI : zB f r C Z N S) (hr : r 64 11 = some 79) (hpre0 : xB S (mR S 70)) (hpre1 : aT 79 S = ab) (K : ∀ v S₉ r₉ C₉ Z₉ N₉, (∀ c k, c < 126 → r₉ c k = r c k) → C₉ ≤ C + 1 → Z₉ ≤ Z + 9 → (N ≤ N₉) → zB f r₉ C₉ Z₉ N₉ S₉ → (True) → (xB S₉ (mR S₉ 70)) → ((0 ≤ ki.toInt ∧ ki.toInt < (f 64 7).toInt ∧ 0 ≤ rt.toInt ∧ rt.toInt ≤ 15) ∧ aT 79 S₉ = sMk ab ki (f 67 ki.toNatClampNeg) (f 68 ki.toNatClampNeg).toInt64 rt ∧ v = sMn ab (f 67 ki.toNatClampNeg)) → Q (.inl (some (.inl v))) S₉) (KX : ∀ x S₉, (x = 2) → zB f r C Z N S₉ → (xB S₉ (mR S₉ 70)) → (aT 79 S₉ = ab) → (x = 2 ∧ ¬ (0 ≤ ki.toInt ∧ ki.toInt < (f 64 7).toInt ∧ 0 ≤ rt.toInt ∧ rt.toInt ≤ 15)) → Q (.inr x) (ma_bump S₉)) : ma_wp X d w 141 0 [(0, .inr (.inr (some 64))), (1, .inl ki), (2, .inl rt)] [] S Q := by
  refine g_141_64_s7_p79_0 ki rt (by omega) (by omega) (zG_T hI) ?_
  have b1 := i_bd ki
  have li2 : (0 : Int32).toInt = 0 := rfl
  refine zd (fun h3 => ?_) (fun h3 => ?_)
  · skip
    have g4 := i_lt h3
    exact KX 2 _ (by decide) hI (show xB S (mR S 70) from by first | (exact xB_x (xC_o (W := 75) hpre0).2)) (show aT 79 S = ab from by first | (exact hpre1)) (show 2 = 2 ∧ ¬ (0 ≤ ki.toInt ∧ ki.toInt < (f 64 7).toInt ∧ 0 ≤ rt.toInt ∧ rt.toInt ≤ 15) from by first | (have f7 : (mI S 64 7).toInt = (f 64 7).toInt := zG_zi hI rfl; exact ⟨rfl, by omega⟩))
  · skip
    have g5 := i_nlt h3
    have f6 := zG_s hI (0) (16) (c := 64) (k := 7) (by decide)
    refine zd (fun h7 => ?_) (fun h7 => ?_)
    · skip
      have g8 := i_le h7
      exact KX 2 _ (by decide) hI (show xB S (mR S 70) from by first | (exact xB_x (xC_o (W := 75) hpre0).2)) (show aT 79 S = ab from by first | (exact hpre1)) (show 2 = 2 ∧ ¬ (0 ≤ ki.toInt ∧ ki.toInt < (f 64 7).toInt ∧ 0 ≤ rt.toInt ∧ rt.toInt ≤ 15) from by first | (have f7 : (mI S 64 7).toInt = (f 64 7).toInt := zG_zi hI rfl; exact ⟨rfl, by omega⟩))
    · skip
      have g9 := i_nle h7
      have b10 := i_bd rt
      refine zd (fun h11 => ?_) (fun h11 => ?_)
      · skip
        have g12 := i_lt h11
        exact KX 2 _ (by decide) hI (show xB S (mR S 70) from by first | (exact xB_x (xC_o (W := 75) hpre0).2)) (show aT 79 S = ab from by first | (exact hpre1)) (show 2 = 2 ∧ ¬ (0 ≤ ki.toInt ∧ ki.toInt < (f 64 7).toInt ∧ 0 ≤ rt.toInt ∧ rt.toInt ≤ 15) from by first | (have f7 : (mI S 64 7).toInt = (f 64 7).toInt := zG_zi hI rfl; exact ⟨rfl, by omega⟩))
      · skip
        have g13 := i_nlt h11
        have li14 : (16 : Int32).toInt = 16 := rfl
        refine zd (fun h15 => ?_) (fun h15 => ?_)
        · skip
          have g16 := i_le h15
          exact KX 2 _ (by decide) hI (show xB S (mR S 70) from by first | (exact xB_x (xC_o (W := 75) hpre0).2)) (show aT 79 S = ab from by first | (exact hpre1)) (show 2 = 2 ∧ ¬ (0 ≤ ki.toInt ∧ ki.toInt < (f 64 7).toInt ∧ 0 ≤ rt.toInt ∧ rt.toInt ≤ 15) from by first | (have f7 : (mI S 64 7).toInt = (f 64 7).toInt := zG_zi hI rfl; exact ⟨rfl, by omega⟩))
        · skip
          have g17 := i_nle h15
          refine ⟨i_ix (by omega) (by omega), ?_⟩
          refine ⟨i_ix (by omega) (by omega), ?_⟩
          first | have f18 := zG_a hI 16 (0) (8) (c := 67) (k := ki.toNatClampNeg) (by decide) (i_ix (n := 16) (by omega) (by omega)).2 | have b19 := i_bd (mI S 67 ki.toNatClampNeg)
          refine sp_143_64_s7_p79 (ab := (aT 79 S)) (ki) ((mI S 67 ki.toNatClampNeg)) (((mI S 68 ki.toNatClampNeg).toInt64)) (rt) (by omega) (by omega) hI hr (by omega) (by omega) (by omega) (by omega) (show xB S (mR S 70) from by first | (exact xB_x (xC_o (W := 75) hpre0).2)) (show aT 79 S = (aT 79 S) from by first | (exact rfl)) (fun v2 S1 r₉ C₉ Z₉ N₉ sl1 sl2 sl3 sl4 hI_S1 hp_v2 rp0_S1 rp1_S1 => zi_n ⟨zG_T hI_S1, ?_⟩)
          have rp0_S1 : xB S1 (mR S1 70) := rp0_S1
          have rp1_S1 : aT 79 S1 = sMk (aT 79 S) ki (mI S 67 ki.toNatClampNeg) (((mI S 68 ki.toNatClampNeg).toInt64)) rt ∧ v2 = sMn (aT 79 S) (mI S 67 ki.toNatClampNeg) := rp1_S1
          have b20 := i_bd v2
          exact K (v2) _ _ _ _ _ sl1 sl2 sl3 sl4 hI_S1 trivial (show xB S1 (mR S1 70) from by first | (exact xB_x (xC_o (W := 75) rp0_S1).2)) (show (0 ≤ ki.toInt ∧ ki.toInt < (f 64 7).toInt ∧ 0 ≤ rt.toInt ∧ rt.toInt ≤ 15) ∧ aT 79 S1 = sMk ab ki (f 67 ki.toNatClampNeg) (f 68 ki.toNatClampNeg).toInt64 rt ∧ v2 = sMn ab (f 67 ki.toNatClampNeg) from by first | (exfalso; omega) | (have f7 : (mI S 64 7).toInt = (f 64 7).toInt := zG_zi hI rfl; have q := rp1_S1; rw [hpre1, show mI S 67 ki.toNatClampNeg = f 67 ki.toNatClampNeg from zG_z hI rfl, show mI S 68 ki.toNatClampNeg = f 68 ki.toNatClampNeg from zG_z hI rfl] at q; exact ⟨⟨by omega, by omega, by omega, by omega⟩, q⟩))
theorem g_147_64_s7_p79_0 {X : Nat × (Nat → Int32)} {d w : Nat} {S : ma_S} {Q : Option ma_V ⊕ Nat → ma_S → Prop} (b : Int32) (n : Int32) (rt : Int32) (hd : 8 ≤ d) (hw : 232 ≤ w) (hS : zT S) (h : if n < 0 then (Q (.inr 2) (ma_bump S)) else (if (60 : Int32) < n then (Q (.inr 2) (ma_bump S)) else (if rt < 0 then (Q (.inr 2) (ma_bump S)) else (if (16 : Int32) ≤ rt then (Q (.inr 2) (ma_bump S)) else (if b = 0 then (ma_wp X (d - 1) (w - 28) 143 0 [(0, .inr (.inr (some 64))), (1, .inl (17 : Int32)), (2, .inl n), (3, .inr (.inl (0 : Int64))), (5, .inl rt)] [] S (zi (fun v2 S1 => zT S1 ∧ (Q (.inl (some (.inl v2))) S1)) (fun x S9 => Q (.inr x) S9))) else (ma_wp X (d - 1) (w - 28) 143 0 [(0, .inr (.inr (some 64))), (1, .inl (16 : Int32)), (2, .inl n), (3, .inr (.inl (-1 : Int64))), (5, .inl rt)] [] S (zi (fun v4 S3 => zT S3 ∧ (Q (.inl (some (.inl v4))) S3)) (fun x S9 => Q (.inr x) S9)))))))) : ma_wp X d w 147 0 [(0, .inr (.inr (some 64))), (1, .inl b), (2, .inl n), (3, .inl rt)] [] S Q := by
  refine zw_push hm_147 dX11_row_0 (v := .inl n) rfl ?_
  refine zw_if0 hm_147 dX11_row_1 (t := 17) rfl zc0_lt ?_ ?_
  · intro hc
    rw [if_pos hc] at h
    exact zw_thr hm_147 dX11_row_17 dX11_row_20 dX11_row_21 dX11_row_24 x_11_79_81 n_11_79 (by omega) (by show 0 + 81 ≤ w; omega) h
  · intro hc
    rw [if_neg hc] at h
    refine zw_push hm_147 dX11_row_4 (v := .inl n) rfl ?_
    refine zw_push hm_147 dX11_row_5 (v := .inl (60 : Int32)) rfl ?_
    refine zw_if2 hm_147 dX11_row_7 (t := 17) rfl zc2_gt ?_ ?_
    · intro hc
      rw [if_pos hc] at h
      exact zw_thr hm_147 dX11_row_17 dX11_row_20 dX11_row_21 dX11_row_24 x_11_79_81 n_11_79 (by omega) (by show 0 + 81 ≤ w; omega) h
    · intro hc
      rw [if_neg hc] at h
      refine zw_push hm_147 dX11_row_10 (v := .inl rt) rfl ?_
      refine zw_cs hm_147 dX11_row_11 pn_11_109 sl_11_109 hm_142 [.inl rt] [] rfl ⟨by omega, by omega⟩ rfl ?_
      show ma_wp X (d - 1) (w - 20) 142 0 [(0, .inl rt)] [] S _
      refine zw_push hm_142 dX11_isSlot_0 (v := .inl rt) rfl ?_
      refine zw_if0 hm_142 dX11_isSlot_1 (t := 14) rfl zc0_lt ?_ ?_
      · intro hc
        rw [if_pos hc] at h
        refine zw_push hm_142 dX11_isSlot_14 (v := .inl (0 : Int32)) rfl ?_
        refine zw_bret hm_142 dX11_isSlot_15 (by decide) ?_
        show ma_wp X d w 147 14 [(0, .inr (.inr (some 64))), (1, .inl b), (2, .inl n), (3, .inl rt)] [.inl (0 : Int32)] S _
        refine zw_if0 hm_147 dX11_row_14 (t := 25) rfl zc0_ne (fun hc => absurd hc (by decide)) (fun _ => ?_)
        exact zw_thr hm_147 dX11_row_17 dX11_row_20 dX11_row_21 dX11_row_24 x_11_79_81 n_11_79 (by omega) (by show 0 + 81 ≤ w; omega) h
      · intro hc
        rw [if_neg hc] at h
        refine zw_push hm_142 dX11_isSlot_4 (v := .inl rt) rfl ?_
        refine zw_push hm_142 dX11_isSlot_5 (v := .inl (16 : Int32)) rfl ?_
        refine zw_if2 hm_142 dX11_isSlot_7 (t := 14) rfl zc2_ge ?_ ?_
        · intro hc
          rw [if_pos hc] at h
          refine zw_push hm_142 dX11_isSlot_14 (v := .inl (0 : Int32)) rfl ?_
          refine zw_bret hm_142 dX11_isSlot_15 (by decide) ?_
          show ma_wp X d w 147 14 [(0, .inr (.inr (some 64))), (1, .inl b), (2, .inl n), (3, .inl rt)] [.inl (0 : Int32)] S _
          refine zw_if0 hm_147 dX11_row_14 (t := 25) rfl zc0_ne (fun hc => absurd hc (by decide)) (fun _ => ?_)
          exact zw_thr hm_147 dX11_row_17 dX11_row_20 dX11_row_21 dX11_row_24 x_11_79_81 n_11_79 (by omega) (by show 0 + 81 ≤ w; omega) h
        · intro hc
          rw [if_neg hc] at h
          refine zw_push hm_142 dX11_isSlot_10 (v := .inl (1 : Int32)) rfl ?_
          refine zw_goto hm_142 dX11_isSlot_11 (t := 15) rfl ?_
          refine zw_bret hm_142 dX11_isSlot_15 (by decide) ?_
          show ma_wp X d w 147 14 [(0, .inr (.inr (some 64))), (1, .inl b), (2, .inl n), (3, .inl rt)] [.inl (1 : Int32)] S _
          refine zw_if0 hm_147 dX11_row_14 (t := 25) rfl zc0_ne (fun _ => ?_) (fun hc => absurd (by decide) hc)
          refine zw_push hm_147 dX11_row_25 (v := .inl b) rfl ?_
          refine zw_if0 hm_147 dX11_row_26 (t := 43) rfl zc0_eq ?_ ?_
          · intro hc
            rw [if_pos hc] at h
            refine zw_push hm_147 dX11_row_43 (v := .inr (.inr (some 64))) rfl ?_
            refine zw_push hm_147 dX11_row_44 (v := .inl (17 : Int32)) rfl ?_
            refine zw_push hm_147 dX11_row_46 (v := .inl n) rfl ?_
            refine zw_push hm_147 dX11_row_47 (v := .inr (.inl (0 : Int64))) rfl ?_
            refine zw_push hm_147 dX11_row_48 (v := .inl rt) rfl ?_
            refine zw_cv hm_147 dX11_row_49 v_11_113_11 hm_143 [.inl rt, .inr (.inl (0 : Int64)), .inl n, .inl (17 : Int32)] [] rfl (zT_rt hS s_64 rfl) ⟨by omega, by omega⟩ rfl (zw_mono h (zi_go ?_ ?_))
            · intro v2 S1 hv
              obtain ⟨hS1, h⟩ := hv
              exact zw_iret hm_147 dX11_row_52 h
            · intro x S9 hx
              exact ⟨by decide, hx⟩
          · intro hc
            rw [if_neg hc] at h
            refine zw_push hm_147 dX11_row_29 (v := .inr (.inr (some 64))) rfl ?_
            refine zw_push hm_147 dX11_row_30 (v := .inl (16 : Int32)) rfl ?_
            refine zw_push hm_147 dX11_row_32 (v := .inl n) rfl ?_
            refine zw_l2 hm_147 dX11_row_33 l2_11_117 ?_
            refine zw_push hm_147 dX11_row_36 (v := .inl rt) rfl ?_
            refine zw_cv hm_147 dX11_row_37 v_11_113_11 hm_143 [.inl rt, .inr (.inl (-1 : Int64)), .inl n, .inl (16 : Int32)] [] rfl (zT_rt hS s_64 rfl) ⟨by omega, by omega⟩ rfl (zw_mono h (zi_go ?_ ?_))
            · intro v4 S3 hv
              obtain ⟨hS3, h⟩ := hv
              refine zw_goto hm_147 dX11_row_40 (t := 52) rfl ?_
              exact zw_iret hm_147 dX11_row_52 h
            · intro x S9 hx
              exact ⟨by decide, hx⟩
theorem sp_147_64_s7_p79 {X : Nat × (Nat → Int32)} {d w : Nat} {f : Nat → Nat → Int32} {r : Nat → Nat → Option Nat} {C Z N : Nat} {Q : Option ma_V ⊕ Nat → ma_S → Prop} {ab : Nat→Nat→Int32} {S : ma_S} (b : Int32) (n : Int32) (rt : Int32) (hd : 8 ≤ d) (hw : 232 ≤ w) (hI : zB f r C Z N S) (hr : r 64 11 = some 79) (hpre0 : 0 ≤ b.toInt) (hpre1 : b.toInt ≤ 1) (hpre2 : xB S (mR S 70)) (hpre3 : aT 79 S = ab) (K : ∀ v S₉ r₉ C₉ Z₉ N₉, (∀ c k, c < 126 → r₉ c k = r c k) → C₉ ≤ C + 1 → Z₉ ≤ Z + 9 → (N ≤ N₉) → zB f r₉ C₉ Z₉ N₉ S₉ → (True) → (xB S₉ (mR S₉ 70)) → ((0 ≤ n.toInt ∧ n.toInt ≤ 60 ∧ 0 ≤ rt.toInt ∧ rt.toInt ≤ 15) ∧ aT 79 S₉ = (if b = 0 then sMk ab 17 n 0 rt else sMk ab 16 n (-1) rt) ∧ v = sMn ab n) → Q (.inl (some (.inl v))) S₉) (KX : ∀ x S₉, (x = 2) → zB f r C Z N S₉ → (xB S₉ (mR S₉ 70)) → (aT 79 S₉ = ab) → (x = 2 ∧ ¬ (0 ≤ n.toInt ∧ n.toInt ≤ 60 ∧ 0 ≤ rt.toInt ∧ rt.toInt ≤ 15)) → Q (.inr x) (ma_bump S₉)) : ma_wp X d w 147 0 [(0, .inr (.inr (some 64))), (1, .inl b), (2, .inl n), (3, .inl rt)] [] S Q := by
  refine g_147_64_s7_p79_0 b n rt (by omega) (by omega) (zG_T hI) ?_
  have b1 := i_bd n
  have li2 : (0 : Int32).toInt = 0 := rfl
  refine zd (fun h3 => ?_) (fun h3 => ?_)
  · skip
    have g4 := i_lt h3
    exact KX 2 _ (by decide) hI (show xB S (mR S 70) from by first | (exact xB_x (xC_o (W := 75) hpre2).2)) (show aT 79 S = ab from by first | (exact hpre3)) (show 2 = 2 ∧ ¬ (0 ≤ n.toInt ∧ n.toInt ≤ 60 ∧ 0 ≤ rt.toInt ∧ rt.toInt ≤ 15) from by first | (exact ⟨rfl, by omega⟩))
  · skip
    have g5 := i_nlt h3
    have li6 : (60 : Int32).toInt = 60 := rfl
    refine zd (fun h7 => ?_) (fun h7 => ?_)
    · skip
      have g8 := i_lt h7
      exact KX 2 _ (by decide) hI (show xB S (mR S 70) from by first | (exact xB_x (xC_o (W := 75) hpre2).2)) (show aT 79 S = ab from by first | (exact hpre3)) (show 2 = 2 ∧ ¬ (0 ≤ n.toInt ∧ n.toInt ≤ 60 ∧ 0 ≤ rt.toInt ∧ rt.toInt ≤ 15) from by first | (exact ⟨rfl, by omega⟩))
    · skip
      have g9 := i_nlt h7
      have b10 := i_bd rt
      refine zd (fun h11 => ?_) (fun h11 => ?_)
      · skip
        have g12 := i_lt h11
        exact KX 2 _ (by decide) hI (show xB S (mR S 70) from by first | (exact xB_x (xC_o (W := 75) hpre2).2)) (show aT 79 S = ab from by first | (exact hpre3)) (show 2 = 2 ∧ ¬ (0 ≤ n.toInt ∧ n.toInt ≤ 60 ∧ 0 ≤ rt.toInt ∧ rt.toInt ≤ 15) from by first | (exact ⟨rfl, by omega⟩))
      · skip
        have g13 := i_nlt h11
        have li14 : (16 : Int32).toInt = 16 := rfl
        refine zd (fun h15 => ?_) (fun h15 => ?_)
        · skip
          have g16 := i_le h15
          exact KX 2 _ (by decide) hI (show xB S (mR S 70) from by first | (exact xB_x (xC_o (W := 75) hpre2).2)) (show aT 79 S = ab from by first | (exact hpre3)) (show 2 = 2 ∧ ¬ (0 ≤ n.toInt ∧ n.toInt ≤ 60 ∧ 0 ≤ rt.toInt ∧ rt.toInt ≤ 15) from by first | (exact ⟨rfl, by omega⟩))
        · skip
          have g17 := i_nle h15
          have b18 := i_bd b
          refine zd (fun h19 => ?_) (fun h19 => ?_)
          · skip
            have g20 := i_eq h19
            have li21 : (17 : Int32).toInt = 17 := rfl
            refine sp_143_64_s7_p79 (ab := (aT 79 S)) ((17 : Int32)) (n) ((0 : Int64)) (rt) (by omega) (by omega) hI hr (by omega) (by omega) (by omega) (by omega) (show xB S (mR S 70) from by first | (exact xB_x (xC_o (W := 75) hpre2).2)) (show aT 79 S = (aT 79 S) from by first | (exact rfl)) (fun v2 S1 r₉ C₉ Z₉ N₉ sl1 sl2 sl3 sl4 hI_S1 hp_v2 rp0_S1 rp1_S1 => zi_n ⟨zG_T hI_S1, ?_⟩)
            have rp0_S1 : xB S1 (mR S1 70) := rp0_S1
            have rp1_S1 : aT 79 S1 = sMk (aT 79 S) (17 : Int32) n (0 : Int64) rt ∧ v2 = sMn (aT 79 S) n := rp1_S1
            have b22 := i_bd v2
            exact K (v2) _ _ _ _ _ sl1 sl2 sl3 sl4 hI_S1 trivial (show xB S1 (mR S1 70) from by first | (exact xB_x (xC_o (W := 75) rp0_S1).2)) (show (0 ≤ n.toInt ∧ n.toInt ≤ 60 ∧ 0 ≤ rt.toInt ∧ rt.toInt ≤ 15) ∧ aT 79 S1 = (if b = 0 then sMk ab 17 n 0 rt else sMk ab 16 n (-1) rt) ∧ v2 = sMn ab n from by first | (exfalso; omega) | (have q := rp1_S1; rw [hpre3] at q; refine ⟨⟨by omega, by omega, by omega, by omega⟩, ?_⟩; rw [if_pos (by assumption)]; exact q) | (have q := rp1_S1; rw [hpre3] at q; refine ⟨⟨by omega, by omega, by omega, by omega⟩, ?_⟩; rw [if_neg (by assumption)]; exact q))
          · skip
            have g23 := i_ne h19
            refine sp_143_64_s7_p79 (ab := (aT 79 S)) ((16 : Int32)) (n) ((-1 : Int64)) (rt) (by omega) (by omega) hI hr (by omega) (by omega) (by omega) (by omega) (show xB S (mR S 70) from by first | (exact xB_x (xC_o (W := 75) hpre2).2)) (show aT 79 S = (aT 79 S) from by first | (exact rfl)) (fun v4 S3 r₉ C₉ Z₉ N₉ sl1 sl2 sl3 sl4 hI_S3 hp_v4 rp0_S3 rp1_S3 => zi_n ⟨zG_T hI_S3, ?_⟩)
            have rp0_S3 : xB S3 (mR S3 70) := rp0_S3
            have rp1_S3 : aT 79 S3 = sMk (aT 79 S) (16 : Int32) n (-1 : Int64) rt ∧ v4 = sMn (aT 79 S) n := rp1_S3
            have b24 := i_bd v4
            exact K (v4) _ _ _ _ _ sl1 sl2 sl3 sl4 hI_S3 trivial (show xB S3 (mR S3 70) from by first | (exact xB_x (xC_o (W := 75) rp0_S3).2)) (show (0 ≤ n.toInt ∧ n.toInt ≤ 60 ∧ 0 ≤ rt.toInt ∧ rt.toInt ≤ 15) ∧ aT 79 S3 = (if b = 0 then sMk ab 17 n 0 rt else sMk ab 16 n (-1) rt) ∧ v4 = sMn ab n from by first | (exfalso; omega) | (have q := rp1_S3; rw [hpre3] at q; refine ⟨⟨by omega, by omega, by omega, by omega⟩, ?_⟩; rw [if_pos (by assumption)]; exact q) | (have q := rp1_S3; rw [hpre3] at q; refine ⟨⟨by omega, by omega, by omega, by omega⟩, ?_⟩; rw [if_neg (by assumption)]; exact q))

/-! from 95.k40 -/
/-! the collectors that sweep, the class (written by wip/tools/gen20.py) -/
theorem g_111_79_s_0 {X : Nat × (Nat → Int32)} {d w : Nat} {S : ma_S} {Q : Option ma_V ⊕ Nat → ma_S → Prop} (i : Int32) (hd : 2 ≤ d) (hw : 45 ≤ w) (hS : zT S) (h : ma_wp X (d - 1) (w - 23) 105 0 [(0, .inr (.inr (some 79))), (1, .inl (0 : Int32))] [] S (zi (fun v2 S1 => zT S1 ∧ (ma_wp X d w 111 8 [(0, .inr (.inr (some 79))), (2, .inl i), (3, .inl v2)] [] S1 Q)) (fun x S9 => Q (.inr x) S9))) : ma_wp X d w 111 0 [(0, .inr (.inr (some 79))), (1, .inl i)] [] S Q := by
  refine zw_push hm_111 dX8_blockPlace_0 (v := .inl i) rfl ?_
  refine zw_sto hm_111 dX8_blockPlace_1 [(2, .inl i), (0, .inr (.inr (some 79))), (1, .inl i)] rfl rfl rfl ?_
  refine zw_push hm_111 dX8_blockPlace_2 (v := .inr (.inr (some 79))) rfl ?_
  refine zw_push hm_111 dX8_blockPlace_3 (v := .inl (0 : Int32)) rfl ?_
  refine zw_cv hm_111 dX8_blockPlace_4 v_8_40_8 hm_105 [.inl (0 : Int32)] [] rfl (zT_rt hS s_79 rfl) ⟨by omega, by omega⟩ rfl (zw_mono h (zi_go ?_ ?_))
  · intro v2 S1 hv
    obtain ⟨hS1, h⟩ := hv
    refine zw_sto hm_111 dX8_blockPlace_7 [(3, .inl v2), (2, .inl i), (0, .inr (.inr (some 79))), (1, .inl i)] rfl rfl rfl ?_
    exact zw_sub (ma_nd_of (ks := [0, 2, 3]) rfl (by decide)) (ma_nd_of (ks := [3, 2, 0, 1]) rfl (by decide)) (ma_le_cons rfl (ma_le_cons rfl (ma_le_cons rfl (ma_le_nil _)))) h
  · intro x S9 hx
    exact ⟨by decide, hx⟩
theorem g_111_79_s_8 {X : Nat × (Nat → Int32)} {d w : Nat} {S : ma_S} {Q : Option ma_V ⊕ Nat → ma_S → Prop} (l2 : Int32) (l3 : Int32) (hd : 2 ≤ d) (hw : 45 ≤ w) (hS : zT S) (h : if l2 < 0 then (Q (.inl (some (.inl (-1 : Int32)))) S) else (if (mI S 79 2) ≤ l3 then (Q (.inl (some (.inl (-1 : Int32)))) S) else (if l2 = 0 then (Q (.inl (some (.inl l3))) S) else (ma_wp X (d - 1) (w - 22) 106 0 [(0, .inr (.inr (some 79))), (1, .inl l3)] [] S (zi (fun v2 S1 => zT S1 ∧ (ma_wp X (d - 1) (w - 23) 105 0 [(0, .inr (.inr (some 79))), (1, .inl v2)] [] S1 (zi (fun v4 S3 => zT S3 ∧ (ma_wp X d w 111 8 [(0, .inr (.inr (some 79))), (2, .inl (l2 + (-1 : Int32))), (3, .inl v4)] [] S3 Q)) (fun x S9 => Q (.inr x) S9)))) (fun x S9 => Q (.inr x) S9)))))) : ma_wp X d w 111 8 [(0, .inr (.inr (some 79))), (2, .inl l2), (3, .inl l3)] [] S Q := by
  refine zw_push hm_111 dX8_blockPlace_8 (v := .inl l2) rfl ?_
  refine zw_if0 hm_111 dX8_blockPlace_9 (t := 42) rfl zc0_lt ?_ ?_
  · intro hc
    rw [if_pos hc] at h
    refine zw_push hm_111 dX8_blockPlace_42 (v := .inl (-1 : Int32)) rfl ?_
    exact zw_iret hm_111 dX8_blockPlace_43 h
  · intro hc
    rw [if_neg hc] at h
    refine zw_push hm_111 dX8_blockPlace_12 (v := .inl l3) rfl ?_
    refine zw_push hm_111 dX8_blockPlace_13 (v := .inr (.inr (some 79))) rfl ?_
    refine zw_gf hm_111 dX8_blockPlace_14 (v := .inl (mI S 79 2)) (zT_is hS s_79) (zT_t hS s_79) rfl f_8_9_8 rfl ?_
    refine zw_if2 hm_111 dX8_blockPlace_17 (t := 42) rfl zc2_ge ?_ ?_
    · intro hc
      rw [if_pos hc] at h
      refine zw_push hm_111 dX8_blockPlace_42 (v := .inl (-1 : Int32)) rfl ?_
      exact zw_iret hm_111 dX8_blockPlace_43 h
    · intro hc
      rw [if_neg hc] at h
      refine zw_push hm_111 dX8_blockPlace_20 (v := .inl l2) rfl ?_
      refine zw_if0 hm_111 dX8_blockPlace_21 (t := 26) rfl zc0_ne ?_ ?_
      · intro hc
        rw [if_neg hc] at h
        refine zw_sto hm_111 dX8_blockPlace_26 [(2, .inl (l2 + (-1 : Int32))), (0, .inr (.inr (some 79))), (3, .inl l3)] rfl rfl rfl ?_
        refine zw_push hm_111 dX8_blockPlace_29 (v := .inr (.inr (some 79))) rfl ?_
        refine zw_push hm_111 dX8_blockPlace_30 (v := .inr (.inr (some 79))) rfl ?_
        refine zw_push hm_111 dX8_blockPlace_31 (v := .inl l3) rfl ?_
        refine zw_cv hm_111 dX8_blockPlace_32 v_8_43_8 hm_106 [.inl l3] [.inr (.inr (some 79))] rfl (zT_rt hS s_79 rfl) ⟨by omega, by omega⟩ rfl (zw_mono h (zi_go ?_ ?_))
        · intro v2 S1 hv
          obtain ⟨hS1, h⟩ := hv
          refine zw_cv hm_111 dX8_blockPlace_35 v_8_40_8 hm_105 [.inl v2] [] rfl (zT_rt hS1 s_79 rfl) ⟨by omega, by omega⟩ rfl (zw_mono h (zi_go ?_ ?_))
          · intro v4 S3 hv
            obtain ⟨hS3, h⟩ := hv
            refine zw_sto hm_111 dX8_blockPlace_38 [(3, .inl v4), (2, .inl (l2 + (-1 : Int32))), (0, .inr (.inr (some 79)))] rfl rfl rfl ?_
            refine zw_goto hm_111 dX8_blockPlace_39 (t := 8) rfl ?_
            exact zw_sub (ma_nd_of (ks := [0, 2, 3]) rfl (by decide)) (ma_nd_of (ks := [3, 2, 0]) rfl (by decide)) (ma_le_cons rfl (ma_le_cons rfl (ma_le_cons rfl (ma_le_nil _)))) h
          · intro x S9 hx
            exact ⟨by decide, hx⟩
        · intro x S9 hx
          exact ⟨by decide, hx⟩
      · intro hc
        rw [if_pos (Classical.not_not.mp hc)] at h
        refine zw_push hm_111 dX8_blockPlace_24 (v := .inl l3) rfl ?_
        exact zw_iret hm_111 dX8_blockPlace_25 h
theorem lp_111_79_s_8 {X : Nat × (Nat → Int32)} {d w : Nat} {f : Nat → Nat → Int32} {r : Nat → Nat → Option Nat} {C Z N : Nat} {Q : Option ma_V ⊕ Nat → ma_S → Prop} {ab : Nat→Nat→Int32} {i : Int32} {S : ma_S} (hd : 2 ≤ d) (hw : 45 ≤ w) (K : ∀ v S₉, S₉ = S → (-1 ≤ v.toInt ∧ v.toInt ≤ 1500) → (v.toInt = (if i.toInt < 0 then -1 else aBk ab i.toInt.toNat (aN ab 0))) → Q (.inl (some (.inl v))) S₉) : ∀ (n : Nat) (l2 : Int32) (l3 : Int32), (l2.toInt).toNat = n → zJ79 f r C Z N S → (0 ≤ l3.toInt) → (l3.toInt ≤ 1500) → (xB S (mR S 70)) → (aT 79 S = ab) → ((if l2.toInt < 0 then -1 else aBk ab l2.toInt.toNat l3.toInt) = (if i.toInt < 0 then -1 else aBk ab i.toInt.toNat (aN ab 0))) → ma_wp X d w 111 8 [(0, .inr (.inr (some 79))), (2, .inl l2), (3, .inl l3)] [] S Q := by
  intro n
  induction n using Nat.strongRecOn with
  | _ n IH =>
    intro l2 l3 hmu hI  hi0 hi1 hi2 hi3 hi4
    refine g_111_79_s_8 l2 l3 (by omega) (by omega) (zG_T hI) ?_
    have li1 : (0 : Int32).toInt = 0 := rfl
    refine zd (fun h2 => ?_) (fun h2 => ?_)
    · skip
      have g3 := i_lt h2
      have li4 : (-1 : Int32).toInt = -1 := rfl
      exact K ((-1 : Int32)) _ rfl (by omega) (show (-1 : Int32).toInt = (if i.toInt < 0 then -1 else aBk ab i.toInt.toNat (aN ab 0)) from by first | (exact bk_e1 (by omega) hi4 rfl) | (have r0 := (congrArg Int32.toInt (show aT 79 S 87 0 = mI S 79 2 from rfl)); rw [hi3] at r0; exact bk_e2 (by assumption) (by omega) hi4 rfl) | (have r0 := (congrArg Int32.toInt (show aT 79 S 87 0 = mI S 79 2 from rfl)); rw [hi3] at r0; exact bk_e3 (by omega) hi4 rfl))
    · skip
      have g5 := i_nlt h2
      have f6 := zG_s hI (0) (1500) (c := 79) (k := 2) (by decide)
      refine zd (fun h7 => ?_) (fun h7 => ?_)
      · skip
        have g8 := i_le h7
        have li9 : (-1 : Int32).toInt = -1 := rfl
        exact K ((-1 : Int32)) _ rfl (by omega) (show (-1 : Int32).toInt = (if i.toInt < 0 then -1 else aBk ab i.toInt.toNat (aN ab 0)) from by first | (exact bk_e1 (by omega) hi4 rfl) | (have r0 := (congrArg Int32.toInt (show aT 79 S 87 0 = mI S 79 2 from rfl)); rw [hi3] at r0; exact bk_e2 (by assumption) (by omega) hi4 rfl) | (have r0 := (congrArg Int32.toInt (show aT 79 S 87 0 = mI S 79 2 from rfl)); rw [hi3] at r0; exact bk_e3 (by omega) hi4 rfl))
      · skip
        have g10 := i_nle h7
        refine zd (fun h11 => ?_) (fun h11 => ?_)
        · skip
          have g12 := i_eq h11
          exact K (l3) _ rfl (by omega) (show l3.toInt = (if i.toInt < 0 then -1 else aBk ab i.toInt.toNat (aN ab 0)) from by first | (exact bk_e1 (by omega) hi4 rfl) | (have r0 := (congrArg Int32.toInt (show aT 79 S 87 0 = mI S 79 2 from rfl)); rw [hi3] at r0; exact bk_e2 (by assumption) (by omega) hi4 rfl) | (have r0 := (congrArg Int32.toInt (show aT 79 S 87 0 = mI S 79 2 from rfl)); rw [hi3] at r0; exact bk_e3 (by omega) hi4 rfl))
        · skip
          have g13 := i_ne h11
          refine sp_106_79_s (ab := (aT 79 S)) (l3) (by omega) (by omega) hI (show xB S (mR S 70) from by first | (exact xB_x (xC_o (W := 75) hi2).2)) (show aT 79 S = (aT 79 S) from by first | (exact rfl) | (exact hi3)) (by omega) (by omega) (fun v2 S1 eS_S1 hp_v2 rp0_S1 => zi_n ⟨(by rw [eS_S1]; exact zG_T hI), ?_⟩)
          replace eS_S1 := eS_S1.symm; subst eS_S1
          have rp0_S1 : v2.toInt = aE (aT 79 S) l3.toInt := rp0_S1
          refine sp_105_79_s (ab := (aT 79 S)) (v2) (by omega) (by omega) hI (show xB S (mR S 70) from by first | (exact xB_x (xC_o (W := 75) hi2).2)) (show aT 79 S = (aT 79 S) from by first | (exact rfl) | (exact hi3)) (by omega) (fun v4 S3 eS_S3 hp_v4 rp0_S3 => zi_n ⟨(by rw [eS_S3]; exact zG_T hI), ?_⟩)
          replace eS_S3 := eS_S3.symm; subst eS_S3
          have rp0_S3 : v4.toInt = aN (aT 79 S) v2.toInt := rp0_S3
          first | have e14 : (l2 + (-1 : Int32)).toInt = l2.toInt + (-1) := i_addk rfl (by omega) (by omega) | have b15 := i_bd (l2 + (-1 : Int32))
          exact IH _ (by exact mu_dec hmu (by assumption) (by omega)) ((l2 + (-1 : Int32))) (v4) rfl hI (by omega) (by omega) (show xB S (mR S 70) from by first | (exact xB_x (xC_o (W := 75) hi2).2)) (show aT 79 S = ab from by first | (exact hi3)) (show (if ((l2 + (-1 : Int32))).toInt < 0 then -1 else aBk ab ((l2 + (-1 : Int32))).toInt.toNat (v4).toInt) = (if i.toInt < 0 then -1 else aBk ab i.toInt.toNat (aN ab 0)) from by first | (have r0 := (congrArg Int32.toInt (show aT 79 S 87 0 = mI S 79 2 from rfl)); rw [hi3] at r0; have e1 := rp0_S1; rw [hi3] at e1; have e2 := rp0_S3; rw [hi3, e1] at e2; exact bk_go (by omega) (by assumption) (by omega) hi4 e2))
theorem sp_111_79_s {X : Nat × (Nat → Int32)} {d w : Nat} {f : Nat → Nat → Int32} {r : Nat → Nat → Option Nat} {C Z N : Nat} {Q : Option ma_V ⊕ Nat → ma_S → Prop} {ab : Nat→Nat→Int32} {S : ma_S} (i : Int32) (hd : 2 ≤ d) (hw : 45 ≤ w) (hI : zJ79 f r C Z N S) (hpre0 : xB S (mR S 70)) (hpre1 : aT 79 S = ab) (K : ∀ v S₉, S₉ = S → (-1 ≤ v.toInt ∧ v.toInt ≤ 1500) → (v.toInt = (if i.toInt < 0 then -1 else aBk ab i.toInt.toNat (aN ab 0))) → Q (.inl (some (.inl v))) S₉) : ma_wp X d w 111 0 [(0, .inr (.inr (some 79))), (1, .inl i)] [] S Q := by
  refine g_111_79_s_0 i (by omega) (by omega) (zG_T hI) ?_
  have li1 : (0 : Int32).toInt = 0 := rfl
  refine sp_105_79_s (ab := (aT 79 S)) ((0 : Int32)) (by omega) (by omega) hI (show xB S (mR S 70) from by first | (exact xB_x (xC_o (W := 75) hpre0).2)) (show aT 79 S = (aT 79 S) from by first | (exact rfl) | (exact hpre1)) (by omega) (fun v2 S1 eS_S1 hp_v2 rp0_S1 => zi_n ⟨(by rw [eS_S1]; exact zG_T hI), ?_⟩)
  replace eS_S1 := eS_S1.symm; subst eS_S1
  have rp0_S1 : v2.toInt = aN (aT 79 S) (0 : Int32).toInt := rp0_S1
  exact lp_111_79_s_8 (by omega) (by omega) K _ (i) (v2) rfl hI (by omega) (by omega) (show xB S (mR S 70) from by first | (exact xB_x (xC_o (W := 75) hpre0).2)) (show aT 79 S = ab from by first | (exact hpre1)) (show (if (i).toInt < 0 then -1 else aBk ab (i).toInt.toNat (v2).toInt) = (if i.toInt < 0 then -1 else aBk ab i.toInt.toNat (aN ab 0)) from by first | (have q := rp0_S1; rw [hpre1, show (0 : Int32).toInt = 0 from rfl] at q; rw [q]))
theorem g_111_84_s_0 {X : Nat × (Nat → Int32)} {d w : Nat} {S : ma_S} {Q : Option ma_V ⊕ Nat → ma_S → Prop} (i : Int32) (hd : 2 ≤ d) (hw : 45 ≤ w) (hS : zT S) (h : ma_wp X (d - 1) (w - 23) 105 0 [(0, .inr (.inr (some 84))), (1, .inl (0 : Int32))] [] S (zi (fun v2 S1 => zT S1 ∧ (ma_wp X d w 111 8 [(0, .inr (.inr (some 84))), (2, .inl i), (3, .inl v2)] [] S1 Q)) (fun x S9 => Q (.inr x) S9))) : ma_wp X d w 111 0 [(0, .inr (.inr (some 84))), (1, .inl i)] [] S Q := by
  refine zw_push hm_111 dX8_blockPlace_0 (v := .inl i) rfl ?_
  refine zw_sto hm_111 dX8_blockPlace_1 [(2, .inl i), (0, .inr (.inr (some 84))), (1, .inl i)] rfl rfl rfl ?_
  refine zw_push hm_111 dX8_blockPlace_2 (v := .inr (.inr (some 84))) rfl ?_
  refine zw_push hm_111 dX8_blockPlace_3 (v := .inl (0 : Int32)) rfl ?_
  refine zw_cv hm_111 dX8_blockPlace_4 v_8_40_2 hm_105 [.inl (0 : Int32)] [] rfl (zT_rt hS s_84 rfl) ⟨by omega, by omega⟩ rfl (zw_mono h (zi_go ?_ ?_))
  · intro v2 S1 hv
    obtain ⟨hS1, h⟩ := hv
    refine zw_sto hm_111 dX8_blockPlace_7 [(3, .inl v2), (2, .inl i), (0, .inr (.inr (some 84))), (1, .inl i)] rfl rfl rfl ?_
    exact zw_sub (ma_nd_of (ks := [0, 2, 3]) rfl (by decide)) (ma_nd_of (ks := [3, 2, 0, 1]) rfl (by decide)) (ma_le_cons rfl (ma_le_cons rfl (ma_le_cons rfl (ma_le_nil _)))) h
  · intro x S9 hx
    exact ⟨by decide, hx⟩
theorem g_111_84_s_8 {X : Nat × (Nat → Int32)} {d w : Nat} {S : ma_S} {Q : Option ma_V ⊕ Nat → ma_S → Prop} (l2 : Int32) (l3 : Int32) (hd : 2 ≤ d) (hw : 45 ≤ w) (hS : zT S) (h : if l2 < 0 then (Q (.inl (some (.inl (-1 : Int32)))) S) else (if (mI S 84 0) ≤ l3 then (Q (.inl (some (.inl (-1 : Int32)))) S) else (if l2 = 0 then (Q (.inl (some (.inl l3))) S) else (ma_wp X (d - 1) (w - 22) 106 0 [(0, .inr (.inr (some 84))), (1, .inl l3)] [] S (zi (fun v2 S1 => zT S1 ∧ (ma_wp X (d - 1) (w - 23) 105 0 [(0, .inr (.inr (some 84))), (1, .inl v2)] [] S1 (zi (fun v4 S3 => zT S3 ∧ (ma_wp X d w 111 8 [(0, .inr (.inr (some 84))), (2, .inl (l2 + (-1 : Int32))), (3, .inl v4)] [] S3 Q)) (fun x S9 => Q (.inr x) S9)))) (fun x S9 => Q (.inr x) S9)))))) : ma_wp X d w 111 8 [(0, .inr (.inr (some 84))), (2, .inl l2), (3, .inl l3)] [] S Q := by
  refine zw_push hm_111 dX8_blockPlace_8 (v := .inl l2) rfl ?_
  refine zw_if0 hm_111 dX8_blockPlace_9 (t := 42) rfl zc0_lt ?_ ?_
  · intro hc
    rw [if_pos hc] at h
    refine zw_push hm_111 dX8_blockPlace_42 (v := .inl (-1 : Int32)) rfl ?_
    exact zw_iret hm_111 dX8_blockPlace_43 h
  · intro hc
    rw [if_neg hc] at h
    refine zw_push hm_111 dX8_blockPlace_12 (v := .inl l3) rfl ?_
    refine zw_push hm_111 dX8_blockPlace_13 (v := .inr (.inr (some 84))) rfl ?_
    refine zw_gf hm_111 dX8_blockPlace_14 (v := .inl (mI S 84 0)) (zT_is hS s_84) (zT_t hS s_84) rfl f_8_9_2 rfl ?_
    refine zw_if2 hm_111 dX8_blockPlace_17 (t := 42) rfl zc2_ge ?_ ?_
    · intro hc
      rw [if_pos hc] at h
      refine zw_push hm_111 dX8_blockPlace_42 (v := .inl (-1 : Int32)) rfl ?_
      exact zw_iret hm_111 dX8_blockPlace_43 h
    · intro hc
      rw [if_neg hc] at h
      refine zw_push hm_111 dX8_blockPlace_20 (v := .inl l2) rfl ?_
      refine zw_if0 hm_111 dX8_blockPlace_21 (t := 26) rfl zc0_ne ?_ ?_
      · intro hc
        rw [if_neg hc] at h
        refine zw_sto hm_111 dX8_blockPlace_26 [(2, .inl (l2 + (-1 : Int32))), (0, .inr (.inr (some 84))), (3, .inl l3)] rfl rfl rfl ?_
        refine zw_push hm_111 dX8_blockPlace_29 (v := .inr (.inr (some 84))) rfl ?_
        refine zw_push hm_111 dX8_blockPlace_30 (v := .inr (.inr (some 84))) rfl ?_
        refine zw_push hm_111 dX8_blockPlace_31 (v := .inl l3) rfl ?_
        refine zw_cv hm_111 dX8_blockPlace_32 v_8_43_2 hm_106 [.inl l3] [.inr (.inr (some 84))] rfl (zT_rt hS s_84 rfl) ⟨by omega, by omega⟩ rfl (zw_mono h (zi_go ?_ ?_))
        · intro v2 S1 hv
          obtain ⟨hS1, h⟩ := hv
          refine zw_cv hm_111 dX8_blockPlace_35 v_8_40_2 hm_105 [.inl v2] [] rfl (zT_rt hS1 s_84 rfl) ⟨by omega, by omega⟩ rfl (zw_mono h (zi_go ?_ ?_))
          · intro v4 S3 hv
            obtain ⟨hS3, h⟩ := hv
            refine zw_sto hm_111 dX8_blockPlace_38 [(3, .inl v4), (2, .inl (l2 + (-1 : Int32))), (0, .inr (.inr (some 84)))] rfl rfl rfl ?_
            refine zw_goto hm_111 dX8_blockPlace_39 (t := 8) rfl ?_
            exact zw_sub (ma_nd_of (ks := [0, 2, 3]) rfl (by decide)) (ma_nd_of (ks := [3, 2, 0]) rfl (by decide)) (ma_le_cons rfl (ma_le_cons rfl (ma_le_cons rfl (ma_le_nil _)))) h
          · intro x S9 hx
            exact ⟨by decide, hx⟩
        · intro x S9 hx
          exact ⟨by decide, hx⟩
      · intro hc
        rw [if_pos (Classical.not_not.mp hc)] at h
        refine zw_push hm_111 dX8_blockPlace_24 (v := .inl l3) rfl ?_
        exact zw_iret hm_111 dX8_blockPlace_25 h
theorem lp_111_84_s_8 {X : Nat × (Nat → Int32)} {d w : Nat} {f : Nat → Nat → Int32} {r : Nat → Nat → Option Nat} {C Z N : Nat} {Q : Option ma_V ⊕ Nat → ma_S → Prop} {ab : Nat→Nat→Int32} {i : Int32} {S : ma_S} (hd : 2 ≤ d) (hw : 45 ≤ w) (K : ∀ v S₉, S₉ = S → (-1 ≤ v.toInt ∧ v.toInt ≤ 1500) → (v.toInt = (if i.toInt < 0 then -1 else aBk ab i.toInt.toNat (aN ab 0))) → Q (.inl (some (.inl v))) S₉) : ∀ (n : Nat) (l2 : Int32) (l3 : Int32), (l2.toInt).toNat = n → zJ84 f r C Z N S → (0 ≤ l3.toInt) → (l3.toInt ≤ 1500) → (xB S (mR S 70)) → (aT 84 S = ab) → ((if l2.toInt < 0 then -1 else aBk ab l2.toInt.toNat l3.toInt) = (if i.toInt < 0 then -1 else aBk ab i.toInt.toNat (aN ab 0))) → ma_wp X d w 111 8 [(0, .inr (.inr (some 84))), (2, .inl l2), (3, .inl l3)] [] S Q := by
  intro n
  induction n using Nat.strongRecOn with
  | _ n IH =>
    intro l2 l3 hmu hI  hi0 hi1 hi2 hi3 hi4
    refine g_111_84_s_8 l2 l3 (by omega) (by omega) (zG_T hI) ?_
    have li1 : (0 : Int32).toInt = 0 := rfl
    refine zd (fun h2 => ?_) (fun h2 => ?_)
    · skip
      have g3 := i_lt h2
      have li4 : (-1 : Int32).toInt = -1 := rfl
      exact K ((-1 : Int32)) _ rfl (by omega) (show (-1 : Int32).toInt = (if i.toInt < 0 then -1 else aBk ab i.toInt.toNat (aN ab 0)) from by first | (exact bk_e1 (by omega) hi4 rfl) | (have r0 := (congrArg Int32.toInt (show aT 84 S 87 0 = mI S 84 0 from rfl)); rw [hi3] at r0; exact bk_e2 (by assumption) (by omega) hi4 rfl) | (have r0 := (congrArg Int32.toInt (show aT 84 S 87 0 = mI S 84 0 from rfl)); rw [hi3] at r0; exact bk_e3 (by omega) hi4 rfl))
    · skip
      have g5 := i_nlt h2
      have f6 := zG_s hI (0) (1500) (c := 84) (k := 0) (by decide)
      refine zd (fun h7 => ?_) (fun h7 => ?_)
      · skip
        have g8 := i_le h7
        have li9 : (-1 : Int32).toInt = -1 := rfl
        exact K ((-1 : Int32)) _ rfl (by omega) (show (-1 : Int32).toInt = (if i.toInt < 0 then -1 else aBk ab i.toInt.toNat (aN ab 0)) from by first | (exact bk_e1 (by omega) hi4 rfl) | (have r0 := (congrArg Int32.toInt (show aT 84 S 87 0 = mI S 84 0 from rfl)); rw [hi3] at r0; exact bk_e2 (by assumption) (by omega) hi4 rfl) | (have r0 := (congrArg Int32.toInt (show aT 84 S 87 0 = mI S 84 0 from rfl)); rw [hi3] at r0; exact bk_e3 (by omega) hi4 rfl))
      · skip
        have g10 := i_nle h7
        refine zd (fun h11 => ?_) (fun h11 => ?_)
        · skip
          have g12 := i_eq h11
          exact K (l3) _ rfl (by omega) (show l3.toInt = (if i.toInt < 0 then -1 else aBk ab i.toInt.toNat (aN ab 0)) from by first | (exact bk_e1 (by omega) hi4 rfl) | (have r0 := (congrArg Int32.toInt (show aT 84 S 87 0 = mI S 84 0 from rfl)); rw [hi3] at r0; exact bk_e2 (by assumption) (by omega) hi4 rfl) | (have r0 := (congrArg Int32.toInt (show aT 84 S 87 0 = mI S 84 0 from rfl)); rw [hi3] at r0; exact bk_e3 (by omega) hi4 rfl))
        · skip
          have g13 := i_ne h11
          refine sp_106_84_s (ab := (aT 84 S)) (l3) (by omega) (by omega) hI (show xB S (mR S 70) from by first | (exact xB_x (xC_o (W := 75) hi2).2)) (show aT 84 S = (aT 84 S) from by first | (exact rfl) | (exact hi3)) (by omega) (by omega) (fun v2 S1 eS_S1 hp_v2 rp0_S1 => zi_n ⟨(by rw [eS_S1]; exact zG_T hI), ?_⟩)
          replace eS_S1 := eS_S1.symm; subst eS_S1
          have rp0_S1 : v2.toInt = aE (aT 84 S) l3.toInt := rp0_S1
          refine sp_105_84_s (ab := (aT 84 S)) (v2) (by omega) (by omega) hI (show xB S (mR S 70) from by first | (exact xB_x (xC_o (W := 75) hi2).2)) (show aT 84 S = (aT 84 S) from by first | (exact rfl) | (exact hi3)) (by omega) (fun v4 S3 eS_S3 hp_v4 rp0_S3 => zi_n ⟨(by rw [eS_S3]; exact zG_T hI), ?_⟩)
          replace eS_S3 := eS_S3.symm; subst eS_S3
          have rp0_S3 : v4.toInt = aN (aT 84 S) v2.toInt := rp0_S3
          first | have e14 : (l2 + (-1 : Int32)).toInt = l2.toInt + (-1) := i_addk rfl (by omega) (by omega) | have b15 := i_bd (l2 + (-1 : Int32))
          exact IH _ (by exact mu_dec hmu (by assumption) (by omega)) ((l2 + (-1 : Int32))) (v4) rfl hI (by omega) (by omega) (show xB S (mR S 70) from by first | (exact xB_x (xC_o (W := 75) hi2).2)) (show aT 84 S = ab from by first | (exact hi3)) (show (if ((l2 + (-1 : Int32))).toInt < 0 then -1 else aBk ab ((l2 + (-1 : Int32))).toInt.toNat (v4).toInt) = (if i.toInt < 0 then -1 else aBk ab i.toInt.toNat (aN ab 0)) from by first | (have r0 := (congrArg Int32.toInt (show aT 84 S 87 0 = mI S 84 0 from rfl)); rw [hi3] at r0; have e1 := rp0_S1; rw [hi3] at e1; have e2 := rp0_S3; rw [hi3, e1] at e2; exact bk_go (by omega) (by assumption) (by omega) hi4 e2))
theorem sp_111_84_s {X : Nat × (Nat → Int32)} {d w : Nat} {f : Nat → Nat → Int32} {r : Nat → Nat → Option Nat} {C Z N : Nat} {Q : Option ma_V ⊕ Nat → ma_S → Prop} {ab : Nat→Nat→Int32} {S : ma_S} (i : Int32) (hd : 2 ≤ d) (hw : 45 ≤ w) (hI : zJ84 f r C Z N S) (hpre0 : xB S (mR S 70)) (hpre1 : aT 84 S = ab) (K : ∀ v S₉, S₉ = S → (-1 ≤ v.toInt ∧ v.toInt ≤ 1500) → (v.toInt = (if i.toInt < 0 then -1 else aBk ab i.toInt.toNat (aN ab 0))) → Q (.inl (some (.inl v))) S₉) : ma_wp X d w 111 0 [(0, .inr (.inr (some 84))), (1, .inl i)] [] S Q := by
  refine g_111_84_s_0 i (by omega) (by omega) (zG_T hI) ?_
  have li1 : (0 : Int32).toInt = 0 := rfl
  refine sp_105_84_s (ab := (aT 84 S)) ((0 : Int32)) (by omega) (by omega) hI (show xB S (mR S 70) from by first | (exact xB_x (xC_o (W := 75) hpre0).2)) (show aT 84 S = (aT 84 S) from by first | (exact rfl) | (exact hpre1)) (by omega) (fun v2 S1 eS_S1 hp_v2 rp0_S1 => zi_n ⟨(by rw [eS_S1]; exact zG_T hI), ?_⟩)
  replace eS_S1 := eS_S1.symm; subst eS_S1
  have rp0_S1 : v2.toInt = aN (aT 84 S) (0 : Int32).toInt := rp0_S1
  exact lp_111_84_s_8 (by omega) (by omega) K _ (i) (v2) rfl hI (by omega) (by omega) (show xB S (mR S 70) from by first | (exact xB_x (xC_o (W := 75) hpre0).2)) (show aT 84 S = ab from by first | (exact hpre1)) (show (if (i).toInt < 0 then -1 else aBk ab (i).toInt.toNat (v2).toInt) = (if i.toInt < 0 then -1 else aBk ab i.toInt.toNat (aN ab 0)) from by first | (have q := rp0_S1; rw [hpre1, show (0 : Int32).toInt = 0 from rfl] at q; rw [q]))

/-! from 95.k41 -/
/-! the collectors that sweep, the class (written by wip/tools/gen20.py) -/
theorem g_162_64_s7_p79_0 {X : Nat × (Nat → Int32)} {d w : Nat} {S : ma_S} {Q : Option ma_V ⊕ Nat → ma_S → Prop} (i : Int32) (pa : Int32) (hd : 7 ≤ d) (hw : 109 ≤ w) (hS : zT S) (h : if pa < 0 then (Q (.inr 2) (ma_bump S)) else (if pa ≤ (1 : Int32) then (mR S 64 11 = some 79 ∧ (mR S 64 11 = some 79 ∧ (ma_wp X (d - 1) (w - 23) 111 0 [(0, .inr (.inr (some 79))), (1, .inl i)] [] S (zi (fun v2 S1 => zT S1 ∧ (if v2 = (-1 : Int32) then (Q (.inr 1) (ma_bump S1)) else (if pa = 0 then (Q (.inl (some (.inl v2))) S1) else (ma_wp X (d - 1) (w - 22) 106 0 [(0, .inr (.inr (some 79))), (1, .inl v2)] [] S1 (zi (fun v4 S3 => zT S3 ∧ (Q (.inl (some (.inl (v4 - v2)))) S3)) (fun x S9 => Q (.inr x) S9)))))) (fun x S9 => Q (.inr x) S9))))) else (Q (.inr 2) (ma_bump S)))) : ma_wp X d w 162 0 [(0, .inr (.inr (some 64))), (1, .inl i), (2, .inl pa)] [] S Q := by
  refine zw_push hm_162 dX11_block_0 (v := .inl pa) rfl ?_
  refine zw_if0 hm_162 dX11_block_1 (t := 9) rfl zc0_lt ?_ ?_
  · intro hc
    rw [if_pos hc] at h
    exact zw_thr hm_162 dX11_block_9 dX11_block_12 dX11_block_13 dX11_block_16 x_11_79_81 n_11_79 (by omega) (by show 0 + 81 ≤ w; omega) h
  · intro hc
    rw [if_neg hc] at h
    refine zw_push hm_162 dX11_block_4 (v := .inl pa) rfl ?_
    refine zw_push hm_162 dX11_block_5 (v := .inl (1 : Int32)) rfl ?_
    refine zw_if2 hm_162 dX11_block_6 (t := 17) rfl zc2_le ?_ ?_
    · intro hc
      rw [if_pos hc] at h
      refine zw_push hm_162 dX11_block_17 (v := .inr (.inr (some 64))) rfl ?_
      refine zw_cv hm_162 dX11_block_18 v_11_119_11 hm_144 [] [] rfl (zT_rt hS s_64 rfl) ⟨by omega, by omega⟩ rfl ?_
      show ma_wp X (d - 1) (w - 20) 144 0 [(0, .inr (.inr (some 64)))] [] S _
      refine zw_push hm_144 dX11_needCollector_0 (v := .inr (.inr (some 64))) rfl ?_
      obtain ⟨hg, h⟩ := h
      refine zw_gf hm_144 dX11_needCollector_1 (v := .inr (.inr (some 79))) (zT_is hS s_64) (zT_t hS s_64) rfl f_11_98_11 (congrArg (fun z => Sum.inr (Sum.inr z)) hg) ?_
      refine zw_ifnonnull hm_144 dX11_needCollector_4 (t := 15) rfl (fun z => by cases z) (fun _ _ => ?_)
      refine zw_push hm_144 dX11_needCollector_15 (v := .inr (.inr (some 64))) rfl ?_
      obtain ⟨hg, h⟩ := h
      refine zw_gf hm_144 dX11_needCollector_16 (v := .inr (.inr (some 79))) (zT_is hS s_64) (zT_t hS s_64) rfl f_11_98_11 (congrArg (fun z => Sum.inr (Sum.inr z)) hg) ?_
      refine zw_aret hm_144 dX11_needCollector_19 ?_
      show ma_wp X d w 162 21 [(0, .inr (.inr (some 64))), (1, .inl i), (2, .inl pa)] [.inr (.inr (some 79))] S _
      refine zw_sto hm_162 dX11_block_21 [(4, .inr (.inr (some 79))), (0, .inr (.inr (some 64))), (1, .inl i), (2, .inl pa)] rfl rfl rfl ?_
      refine zw_push hm_162 dX11_block_23 (v := .inr (.inr (some 79))) rfl ?_
      refine zw_iof hm_162 dX11_block_25 (zT_is hS s_79) (zT_t hS s_79) rfl ct_11_41_8 (v := (1 : Int32)) rfl ?_
      refine zw_if0 hm_162 dX11_block_28 (t := 77) rfl zc0_eq (fun hc => absurd hc (by decide)) (fun _ => ?_)
      refine zw_push hm_162 dX11_block_31 (v := .inr (.inr (some 79))) rfl ?_
      refine zw_cast hm_162 dX11_block_33 (zT_is hS s_79) (zT_t hS s_79) rfl ct_11_41_8 ?_
      refine zw_sto hm_162 dX11_block_36 [(3, .inr (.inr (some 79))), (4, .inr (.inr (some 79))), (0, .inr (.inr (some 64))), (1, .inl i), (2, .inl pa)] rfl rfl rfl ?_
      refine zw_push hm_162 dX11_block_37 (v := .inr (.inr (some 79))) rfl ?_
      refine zw_push hm_162 dX11_block_38 (v := .inl i) rfl ?_
      refine zw_cv hm_162 dX11_block_39 v_11_232_8 hm_111 [.inl i] [] rfl (zT_rt hS s_79 rfl) ⟨by omega, by omega⟩ rfl (zw_mono h (zi_go ?_ ?_))
      · intro v2 S1 hv
        obtain ⟨hS1, h⟩ := hv
        refine zw_sto hm_162 dX11_block_42 [(4, .inl v2), (3, .inr (.inr (some 79))), (0, .inr (.inr (some 64))), (1, .inl i), (2, .inl pa)] rfl rfl rfl ?_
        refine zw_push hm_162 dX11_block_44 (v := .inl v2) rfl ?_
        refine zw_push hm_162 dX11_block_46 (v := .inl (-1 : Int32)) rfl ?_
        refine zw_if2 hm_162 dX11_block_47 (t := 58) rfl zc2_ne ?_ ?_
        · intro hc
          rw [if_neg hc] at h
          refine zw_push hm_162 dX11_block_58 (v := .inl pa) rfl ?_
          refine zw_if0 hm_162 dX11_block_59 (t := 67) rfl zc0_ne ?_ ?_
          · intro hc
            rw [if_neg hc] at h
            refine zw_push hm_162 dX11_block_67 (v := .inr (.inr (some 79))) rfl ?_
            refine zw_push hm_162 dX11_block_68 (v := .inl v2) rfl ?_
            refine zw_cv hm_162 dX11_block_70 v_11_235_8 hm_106 [.inl v2] [] rfl (zT_rt hS1 s_79 rfl) ⟨by omega, by omega⟩ rfl (zw_mono h (zi_go ?_ ?_))
            · intro v4 S3 hv
              obtain ⟨hS3, h⟩ := hv
              refine zw_push hm_162 dX11_block_73 (v := .inl v2) rfl ?_
              refine zw_stk hm_162 dX11_block_75 (st₉ := [.inl (v4 - v2)]) rfl rfl ?_
              exact zw_iret hm_162 dX11_block_76 h
            · intro x S9 hx
              exact ⟨by decide, hx⟩
          · intro hc
            rw [if_pos (Classical.not_not.mp hc)] at h
            refine zw_push hm_162 dX11_block_62 (v := .inl v2) rfl ?_
            refine zw_goto hm_162 dX11_block_64 (t := 76) rfl ?_
            exact zw_iret hm_162 dX11_block_76 h
        · intro hc
          rw [if_pos (Classical.not_not.mp hc)] at h
          exact zw_thr hm_162 dX11_block_50 dX11_block_53 dX11_block_54 dX11_block_57 x_11_72_74 n_11_72 (by omega) (by show 0 + 81 ≤ w; omega) h
      · intro x S9 hx
        exact ⟨by decide, hx⟩
    · intro hc
      rw [if_neg hc] at h
      exact zw_thr hm_162 dX11_block_9 dX11_block_12 dX11_block_13 dX11_block_16 x_11_79_81 n_11_79 (by omega) (by show 0 + 81 ≤ w; omega) h
theorem sp_162_64_s7_p79 {X : Nat × (Nat → Int32)} {d w : Nat} {f : Nat → Nat → Int32} {r : Nat → Nat → Option Nat} {C Z N : Nat} {Q : Option ma_V ⊕ Nat → ma_S → Prop} {ab : Nat→Nat→Int32} {S : ma_S} (i : Int32) (pa : Int32) (hd : 7 ≤ d) (hw : 109 ≤ w) (hI : zB f r C Z N S) (hr : r 64 11 = some 79) (hpre0 : xB S (mR S 70)) (hpre1 : aT 79 S = ab) (K : ∀ v S₉, zB f r C Z N S₉ → (True) → (xB S₉ (mR S₉ 70)) → (aT 79 S₉ = ab) → ((0 ≤ pa.toInt ∧ pa.toInt ≤ 1) ∧ (if i.toInt < 0 then -1 else aBk ab i.toInt.toNat (aN ab 0)) ≠ -1 ∧ ((pa.toInt = 0 ∧ v.toInt = (if i.toInt < 0 then -1 else aBk ab i.toInt.toNat (aN ab 0))) ∨ (pa.toInt = 1 ∧ v.toInt = aE ab (if i.toInt < 0 then -1 else aBk ab i.toInt.toNat (aN ab 0)) - (if i.toInt < 0 then -1 else aBk ab i.toInt.toNat (aN ab 0))))) → Q (.inl (some (.inl v))) S₉) (KX : ∀ x S₉, (x = 1 ∨ x = 2) → zB f r C Z N S₉ → (xB S₉ (mR S₉ 70)) → (aT 79 S₉ = ab) → ((x = 2 ∧ ¬ (0 ≤ pa.toInt ∧ pa.toInt ≤ 1)) ∨ (x = 1 ∧ (0 ≤ pa.toInt ∧ pa.toInt ≤ 1) ∧ (if i.toInt < 0 then -1 else aBk ab i.toInt.toNat (aN ab 0)) = -1)) → Q (.inr x) (ma_bump S₉)) : ma_wp X d w 162 0 [(0, .inr (.inr (some 64))), (1, .inl i), (2, .inl pa)] [] S Q := by
  refine g_162_64_s7_p79_0 i pa (by omega) (by omega) (zG_T hI) ?_
  have li1 : (0 : Int32).toInt = 0 := rfl
  refine zd (fun h2 => ?_) (fun h2 => ?_)
  · skip
    have g3 := i_lt h2
    exact KX 2 _ (by decide) hI (show xB S (mR S 70) from by first | (exact xB_x (xC_o (W := 75) hpre0).2)) (show aT 79 S = ab from by first | (exact hpre1)) (show (2 = 2 ∧ ¬ (0 ≤ pa.toInt ∧ pa.toInt ≤ 1)) ∨ (2 = 1 ∧ (0 ≤ pa.toInt ∧ pa.toInt ≤ 1) ∧ (if i.toInt < 0 then -1 else aBk ab i.toInt.toNat (aN ab 0)) = -1) from by first | (exact Or.inl ⟨rfl, by omega⟩))
  · skip
    have g4 := i_nlt h2
    have li5 : (1 : Int32).toInt = 1 := rfl
    refine zd (fun h6 => ?_) (fun h6 => ?_)
    · skip
      have g7 := i_le h6
      refine ⟨((zG_r hI (by decide)).trans hr), ?_⟩
      refine ⟨((zG_r hI (by decide)).trans hr), ?_⟩
      refine sp_111_79_s (ab := (aT 79 S)) (i) (by omega) (by omega) (zB_dn_zJ79 hI) (show xB S (mR S 70) from by first | (exact xB_x (xC_o (W := 75) hpre0).2)) (show aT 79 S = (aT 79 S) from by first | (exact rfl) | (exact hpre1)) (fun v2 S1 eS_S1 hp_v2 rp0_S1 => zi_n ⟨(by rw [eS_S1]; exact zG_T hI), ?_⟩)
      replace eS_S1 := eS_S1.symm; subst eS_S1
      have rp0_S1 : v2.toInt = (if i.toInt < 0 then -1 else aBk (aT 79 S) i.toInt.toNat (aN (aT 79 S) 0)) := rp0_S1
      have li8 : (-1 : Int32).toInt = -1 := rfl
      refine zd (fun h9 => ?_) (fun h9 => ?_)
      · skip
        have g10 := i_eq h9
        exact KX 1 _ (by decide) hI (show xB S (mR S 70) from by first | (exact xB_x (xC_o (W := 75) hpre0).2)) (show aT 79 S = ab from by first | (exact hpre1)) (show (1 = 2 ∧ ¬ (0 ≤ pa.toInt ∧ pa.toInt ≤ 1)) ∨ (1 = 1 ∧ (0 ≤ pa.toInt ∧ pa.toInt ≤ 1) ∧ (if i.toInt < 0 then -1 else aBk ab i.toInt.toNat (aN ab 0)) = -1) from by first | (have bp := rp0_S1; rw [hpre1] at bp; rw [← bp]; exact Or.inr ⟨rfl, ⟨by omega, by omega⟩, by omega⟩))
      · skip
        have g11 := i_ne h9
        refine zd (fun h12 => ?_) (fun h12 => ?_)
        · skip
          have g13 := i_eq h12
          exact K (v2) _ hI trivial (show xB S (mR S 70) from by first | (exact xB_x (xC_o (W := 75) hpre0).2)) (show aT 79 S = ab from by first | (exact hpre1)) (show (0 ≤ pa.toInt ∧ pa.toInt ≤ 1) ∧ (if i.toInt < 0 then -1 else aBk ab i.toInt.toNat (aN ab 0)) ≠ -1 ∧ ((pa.toInt = 0 ∧ v2.toInt = (if i.toInt < 0 then -1 else aBk ab i.toInt.toNat (aN ab 0))) ∨ (pa.toInt = 1 ∧ v2.toInt = aE ab (if i.toInt < 0 then -1 else aBk ab i.toInt.toNat (aN ab 0)) - (if i.toInt < 0 then -1 else aBk ab i.toInt.toNat (aN ab 0)))) from by first | (have bp := rp0_S1; rw [hpre1] at bp; rw [← bp]; exact ⟨⟨by omega, by omega⟩, by omega, Or.inl ⟨by omega, rfl⟩⟩))
        · skip
          have g14 := i_ne h12
          refine sp_106_79_s (ab := (aT 79 S)) (v2) (by omega) (by omega) (zB_dn_zJ79 hI) (show xB S (mR S 70) from by first | (exact xB_x (xC_o (W := 75) hpre0).2)) (show aT 79 S = (aT 79 S) from by first | (exact rfl) | (exact hpre1)) (by omega) (by omega) (fun v4 S3 eS_S3 hp_v4 rp0_S3 => zi_n ⟨(by rw [eS_S3]; exact zG_T hI), ?_⟩)
          replace eS_S3 := eS_S3.symm; subst eS_S3
          have rp0_S3 : v4.toInt = aE (aT 79 S) v2.toInt := rp0_S3
          first | have e15 : (v4 - v2).toInt = v4.toInt - v2.toInt := i_sub (by omega) (by omega) | have b16 := i_bd (v4 - v2)
          exact K ((v4 - v2)) _ hI trivial (show xB S (mR S 70) from by first | (exact xB_x (xC_o (W := 75) hpre0).2)) (show aT 79 S = ab from by first | (exact hpre1)) (show (0 ≤ pa.toInt ∧ pa.toInt ≤ 1) ∧ (if i.toInt < 0 then -1 else aBk ab i.toInt.toNat (aN ab 0)) ≠ -1 ∧ ((pa.toInt = 0 ∧ (v4 - v2).toInt = (if i.toInt < 0 then -1 else aBk ab i.toInt.toNat (aN ab 0))) ∨ (pa.toInt = 1 ∧ (v4 - v2).toInt = aE ab (if i.toInt < 0 then -1 else aBk ab i.toInt.toNat (aN ab 0)) - (if i.toInt < 0 then -1 else aBk ab i.toInt.toNat (aN ab 0)))) from by first | (have bp := rp0_S1; rw [hpre1] at bp; rw [← bp]; have ef := rp0_S3; rw [hpre1] at ef; exact ⟨⟨by omega, by omega⟩, by omega, Or.inr ⟨by omega, by omega⟩⟩))
    · skip
      have g17 := i_nle h6
      exact KX 2 _ (by decide) hI (show xB S (mR S 70) from by first | (exact xB_x (xC_o (W := 75) hpre0).2)) (show aT 79 S = ab from by first | (exact hpre1)) (show (2 = 2 ∧ ¬ (0 ≤ pa.toInt ∧ pa.toInt ≤ 1)) ∨ (2 = 1 ∧ (0 ≤ pa.toInt ∧ pa.toInt ≤ 1) ∧ (if i.toInt < 0 then -1 else aBk ab i.toInt.toNat (aN ab 0)) = -1) from by first | (exact Or.inl ⟨rfl, by omega⟩))

/-! from 95.k42 -/
/-! the collectors that sweep, the class (written by wip/tools/gen20.py) -/
theorem g_161_64_s_p79_0 {X : Nat × (Nat → Int32)} {d w : Nat} {S : ma_S} {Q : Option ma_V ⊕ Nat → ma_S → Prop} (o : Int32) (wh : Int32) (hd : 7 ≤ d) (hw : 111 ≤ w) (hS : zT S) (h : if wh < 0 then (Q (.inr 2) (ma_bump S)) else (if wh ≤ (7 : Int32) then (mR S 64 11 = some 79 ∧ (mR S 64 11 = some 79 ∧ (ma_wp X (d - 1) (w - 22) 149 0 [(0, .inr (.inr (some 64))), (1, .inl o)] [] S (zo (fun v2 S1 => zT S1 ∧ ((∃ c3, v2 = some c3 ∧ (if wh = (0 : Int32) then ((126 ≤ c3 ∧ c3 < mN S1) ∧ (Q (.inl (some (.inl (mI S1 c3 4)))) S1)) else (if wh = (1 : Int32) then ((126 ≤ c3 ∧ c3 < mN S1) ∧ (Q (.inl (some (.inl (mI S1 c3 2)))) S1)) else (if wh = (2 : Int32) then ((126 ≤ c3 ∧ c3 < mN S1) ∧ (Q (.inl (some (.inl (mI S1 c3 1)))) S1)) else (if wh = (3 : Int32) then ((126 ≤ c3 ∧ c3 < mN S1) ∧ (Q (.inl (some (.inl (mI S1 c3 5)))) S1)) else (if wh = (4 : Int32) then (Q (.inl (some (.inl (0 : Int32)))) S1) else (if wh = (5 : Int32) then (Q (.inl (some (.inl (0 : Int32)))) S1) else (if wh = (6 : Int32) then ((126 ≤ c3 ∧ c3 < mN S1) ∧ (Q (.inl (some (.inl (mI S1 c3 7)))) S1)) else ((126 ≤ c3 ∧ c3 < mN S1) ∧ (if (mI S1 c3 8) = 0 then (Q (.inl (some (.inl (0 : Int32)))) S1) else (Q (.inl (some (.inl (1 : Int32)))) S1))))))))))))) (fun x S9 => Q (.inr x) S9))))) else (Q (.inr 2) (ma_bump S)))) : ma_wp X d w 161 0 [(0, .inr (.inr (some 64))), (1, .inl o), (2, .inl wh)] [] S Q := by
  refine zw_push hm_161 dX11_about_0 (v := .inl wh) rfl ?_
  refine zw_if0 hm_161 dX11_about_1 (t := 10) rfl zc0_lt ?_ ?_
  · intro hc
    rw [if_pos hc] at h
    exact zw_thr hm_161 dX11_about_10 dX11_about_13 dX11_about_14 dX11_about_17 x_11_79_81 n_11_79 (by omega) (by show 0 + 81 ≤ w; omega) h
  · intro hc
    rw [if_neg hc] at h
    refine zw_push hm_161 dX11_about_4 (v := .inl wh) rfl ?_
    refine zw_push hm_161 dX11_about_5 (v := .inl (7 : Int32)) rfl ?_
    refine zw_if2 hm_161 dX11_about_7 (t := 18) rfl zc2_le ?_ ?_
    · intro hc
      rw [if_pos hc] at h
      refine zw_push hm_161 dX11_about_18 (v := .inr (.inr (some 64))) rfl ?_
      refine zw_cv hm_161 dX11_about_19 v_11_119_11 hm_144 [] [] rfl (zT_rt hS s_64 rfl) ⟨by omega, by omega⟩ rfl ?_
      show ma_wp X (d - 1) (w - 20) 144 0 [(0, .inr (.inr (some 64)))] [] S _
      refine zw_push hm_144 dX11_needCollector_0 (v := .inr (.inr (some 64))) rfl ?_
      obtain ⟨hg, h⟩ := h
      refine zw_gf hm_144 dX11_needCollector_1 (v := .inr (.inr (some 79))) (zT_is hS s_64) (zT_t hS s_64) rfl f_11_98_11 (congrArg (fun z => Sum.inr (Sum.inr z)) hg) ?_
      refine zw_ifnonnull hm_144 dX11_needCollector_4 (t := 15) rfl (fun z => by cases z) (fun _ _ => ?_)
      refine zw_push hm_144 dX11_needCollector_15 (v := .inr (.inr (some 64))) rfl ?_
      obtain ⟨hg, h⟩ := h
      refine zw_gf hm_144 dX11_needCollector_16 (v := .inr (.inr (some 79))) (zT_is hS s_64) (zT_t hS s_64) rfl f_11_98_11 (congrArg (fun z => Sum.inr (Sum.inr z)) hg) ?_
      refine zw_aret hm_144 dX11_needCollector_19 ?_
      show ma_wp X d w 161 22 [(0, .inr (.inr (some 64))), (1, .inl o), (2, .inl wh)] [.inr (.inr (some 79))] S _
      refine zw_sto hm_161 dX11_about_22 [(3, .inr (.inr (some 79))), (0, .inr (.inr (some 64))), (1, .inl o), (2, .inl wh)] rfl rfl rfl ?_
      refine zw_push hm_161 dX11_about_23 (v := .inr (.inr (some 64))) rfl ?_
      refine zw_push hm_161 dX11_about_24 (v := .inl o) rfl ?_
      refine zw_cv hm_161 dX11_about_25 v_11_123_11 hm_149 [.inl o] [] rfl (zT_rt hS s_64 rfl) ⟨by omega, by omega⟩ rfl (zw_mono h (zo_go ?_ ?_))
      · intro v2 S1 hv
        obtain ⟨hS1, h⟩ := hv
        obtain ⟨c3, hc, h⟩ := h
        subst hc
        show ma_wp X d w 161 28 [(3, .inr (.inr (some 79))), (0, .inr (.inr (some 64))), (1, .inl o), (2, .inl wh)] [.inr (.inr (some c3))] S1 _
        refine zw_sto hm_161 dX11_about_28 [(4, .inr (.inr (some c3))), (3, .inr (.inr (some 79))), (0, .inr (.inr (some 64))), (1, .inl o), (2, .inl wh)] rfl rfl rfl ?_
        refine zw_push hm_161 dX11_about_30 (v := .inl wh) rfl ?_
        by_cases hc0 : wh = (0 : Int32)
        · rw [if_pos hc0] at h
          refine zw_jmp hm_161 dX11_about_31 (t := 72) (st₉ := []) rfl rfl rfl (ma_jmp_tab (by rw [hc0]; decide +kernel)) ?_
          refine zw_push hm_161 dX11_about_72 (v := .inr (.inr (some c3))) rfl ?_
          obtain ⟨hg, h⟩ := h
          refine zw_gf hm_161 dX11_about_74 (v := .inl (mI S1 c3 4)) (zT_tis hS1 hg) (zT_tt hS1 hg) rfl f_11_214_9 rfl ?_
          exact zw_iret hm_161 dX11_about_77 h
        rw [if_neg hc0] at h
        by_cases hc1 : wh = (1 : Int32)
        · rw [if_pos hc1] at h
          refine zw_jmp hm_161 dX11_about_31 (t := 78) (st₉ := []) rfl rfl rfl (ma_jmp_tab (by rw [hc1]; decide +kernel)) ?_
          refine zw_push hm_161 dX11_about_78 (v := .inr (.inr (some c3))) rfl ?_
          obtain ⟨hg, h⟩ := h
          refine zw_gf hm_161 dX11_about_80 (v := .inl (mI S1 c3 2)) (zT_tis hS1 hg) (zT_tt hS1 hg) rfl f_11_217_9 rfl ?_
          exact zw_iret hm_161 dX11_about_83 h
        rw [if_neg hc1] at h
        by_cases hc2 : wh = (2 : Int32)
        · rw [if_pos hc2] at h
          refine zw_jmp hm_161 dX11_about_31 (t := 84) (st₉ := []) rfl rfl rfl (ma_jmp_tab (by rw [hc2]; decide +kernel)) ?_
          refine zw_push hm_161 dX11_about_84 (v := .inr (.inr (some c3))) rfl ?_
          obtain ⟨hg, h⟩ := h
          refine zw_gf hm_161 dX11_about_86 (v := .inl (mI S1 c3 1)) (zT_tis hS1 hg) (zT_tt hS1 hg) rfl f_11_220_9 rfl ?_
          exact zw_iret hm_161 dX11_about_89 h
        rw [if_neg hc2] at h
        by_cases hc3 : wh = (3 : Int32)
        · rw [if_pos hc3] at h
          refine zw_jmp hm_161 dX11_about_31 (t := 90) (st₉ := []) rfl rfl rfl (ma_jmp_tab (by rw [hc3]; decide +kernel)) ?_
          refine zw_push hm_161 dX11_about_90 (v := .inr (.inr (some c3))) rfl ?_
          obtain ⟨hg, h⟩ := h
          refine zw_gf hm_161 dX11_about_92 (v := .inl (mI S1 c3 5)) (zT_tis hS1 hg) (zT_tt hS1 hg) rfl f_11_223_9 rfl ?_
          exact zw_iret hm_161 dX11_about_95 h
        rw [if_neg hc3] at h
        by_cases hc4 : wh = (4 : Int32)
        · rw [if_pos hc4] at h
          refine zw_jmp hm_161 dX11_about_31 (t := 96) (st₉ := []) rfl rfl rfl (ma_jmp_tab (by rw [hc4]; decide +kernel)) ?_
          refine zw_push hm_161 dX11_about_96 (v := .inr (.inr (some 79))) rfl ?_
          refine zw_push hm_161 dX11_about_97 (v := .inr (.inr (some c3))) rfl ?_
          refine zw_cv hm_161 dX11_about_99 v_11_226_8 hm_270 [.inr (.inr (some c3))] [] rfl (zT_rt hS1 s_79 rfl) ⟨by omega, by omega⟩ rfl ?_
          show ma_wp X (d - 1) (w - 21) 270 0 [(0, .inr (.inr (some 79))), (1, .inr (.inr (some c3)))] [] S1 _
          refine zw_push hm_270 dX1_countOf_0 (v := .inl (0 : Int32)) rfl ?_
          refine zw_iret hm_270 dX1_countOf_1 ?_
          show ma_wp X d w 161 102 [(4, .inr (.inr (some c3))), (3, .inr (.inr (some 79))), (0, .inr (.inr (some 64))), (1, .inl o), (2, .inl wh)] [.inl (0 : Int32)] S1 _
          exact zw_iret hm_161 dX11_about_102 h
        rw [if_neg hc4] at h
        by_cases hc5 : wh = (5 : Int32)
        · rw [if_pos hc5] at h
          refine zw_jmp hm_161 dX11_about_31 (t := 103) (st₉ := []) rfl rfl rfl (ma_jmp_tab (by rw [hc5]; decide +kernel)) ?_
          refine zw_push hm_161 dX11_about_103 (v := .inr (.inr (some 79))) rfl ?_
          refine zw_push hm_161 dX11_about_104 (v := .inr (.inr (some c3))) rfl ?_
          refine zw_cv hm_161 dX11_about_106 v_11_229_8 hm_271 [.inr (.inr (some c3))] [] rfl (zT_rt hS1 s_79 rfl) ⟨by omega, by omega⟩ rfl ?_
          show ma_wp X (d - 1) (w - 21) 271 0 [(0, .inr (.inr (some 79))), (1, .inr (.inr (some c3)))] [] S1 _
          refine zw_push hm_271 dX1_colourOf_0 (v := .inl (0 : Int32)) rfl ?_
          refine zw_iret hm_271 dX1_colourOf_1 ?_
          show ma_wp X d w 161 109 [(4, .inr (.inr (some c3))), (3, .inr (.inr (some 79))), (0, .inr (.inr (some 64))), (1, .inl o), (2, .inl wh)] [.inl (0 : Int32)] S1 _
          exact zw_iret hm_161 dX11_about_109 h
        rw [if_neg hc5] at h
        by_cases hc6 : wh = (6 : Int32)
        · rw [if_pos hc6] at h
          refine zw_jmp hm_161 dX11_about_31 (t := 110) (st₉ := []) rfl rfl rfl (ma_jmp_tab (by rw [hc6]; decide +kernel)) ?_
          refine zw_push hm_161 dX11_about_110 (v := .inr (.inr (some c3))) rfl ?_
          obtain ⟨hg, h⟩ := h
          refine zw_gf hm_161 dX11_about_112 (v := .inl (mI S1 c3 7)) (zT_tis hS1 hg) (zT_tt hS1 hg) rfl f_11_189_9 rfl ?_
          exact zw_iret hm_161 dX11_about_115 h
        rw [if_neg hc6] at h
        refine zw_jmp hm_161 dX11_about_31 (t := 116) (st₉ := []) rfl rfl rfl (ma_jmp_def (m := 7) (by decide) (fun j hj => by
            have hj2 : j = 0 ∨ j = 1 ∨ j = 2 ∨ j = 3 ∨ j = 4 ∨ j = 5 ∨ j = 6 := by omega
            rcases hj2 with rfl | rfl | rfl | rfl | rfl | rfl | rfl
            · exact hc0
            · exact hc1
            · exact hc2
            · exact hc3
            · exact hc4
            · exact hc5
            · exact hc6
            ) rfl) ?_
        refine zw_push hm_161 dX11_about_116 (v := .inr (.inr (some c3))) rfl ?_
        obtain ⟨hg, h⟩ := h
        refine zw_gf hm_161 dX11_about_118 (v := .inl (mI S1 c3 8)) (zT_tis hS1 hg) (zT_tt hS1 hg) rfl f_11_199_9 rfl ?_
        refine zw_if0 hm_161 dX11_about_121 (t := 128) rfl zc0_eq ?_ ?_
        · intro hc
          rw [if_pos hc] at h
          refine zw_push hm_161 dX11_about_128 (v := .inl (0 : Int32)) rfl ?_
          exact zw_iret hm_161 dX11_about_129 h
        · intro hc
          rw [if_neg hc] at h
          refine zw_push hm_161 dX11_about_124 (v := .inl (1 : Int32)) rfl ?_
          refine zw_goto hm_161 dX11_about_125 (t := 129) rfl ?_
          exact zw_iret hm_161 dX11_about_129 h
      · intro x S9 hx
        exact ⟨by decide, hx⟩
    · intro hc
      rw [if_neg hc] at h
      exact zw_thr hm_161 dX11_about_10 dX11_about_13 dX11_about_14 dX11_about_17 x_11_79_81 n_11_79 (by omega) (by show 0 + 81 ≤ w; omega) h
theorem sp_161_64_s_p79 {X : Nat × (Nat → Int32)} {d w : Nat} {f : Nat → Nat → Int32} {r : Nat → Nat → Option Nat} {C Z N : Nat} {Q : Option ma_V ⊕ Nat → ma_S → Prop} {ab : Nat→Nat→Int32} {fq : Nat→Int32} {S : ma_S} (o : Int32) (wh : Int32) (hd : 7 ≤ d) (hw : 111 ≤ w) (hI : zB f r C Z N S) (hr : r 64 11 = some 79) (hpre0 : xB S (mR S 70)) (hpre1 : aS 88 S = ab) (hpre2 : zfP 79 (mI S) = fq) (K : ∀ v S₉, zB f r C Z N S₉ → (True) → (xB S₉ (mR S₉ 70)) → (aS 88 S₉ = ab) → (zfP 79 (mI S₉) = fq) → Q (.inl (some (.inl v))) S₉) (KX : ∀ x S₉, (x = 2 ∨ x = 4) → zB f r C Z N S₉ → (xB S₉ (mR S₉ 70)) → (aS 88 S₉ = ab) → (zfP 79 (mI S₉) = fq) → Q (.inr x) (ma_bump S₉)) : ma_wp X d w 161 0 [(0, .inr (.inr (some 64))), (1, .inl o), (2, .inl wh)] [] S Q := by
  refine g_161_64_s_p79_0 o wh (by omega) (by omega) (zG_T hI) ?_
  have b1 := i_bd wh
  have li2 : (0 : Int32).toInt = 0 := rfl
  refine zd (fun h3 => ?_) (fun h3 => ?_)
  · skip
    have g4 := i_lt h3
    exact KX 2 _ (by decide) hI (show xB S (mR S 70) from by first | (exact xB_x (xC_o (W := 75) hpre0).2)) (show aS 88 S = ab from by first | (exact (xC_o (W := 88) hpre0).1.trans hpre1)) (show zfP 79 (mI S) = fq from by first | (exact hpre2))
  · skip
    have g5 := i_nlt h3
    have li6 : (7 : Int32).toInt = 7 := rfl
    refine zd (fun h7 => ?_) (fun h7 => ?_)
    · skip
      have g8 := i_le h7
      refine ⟨((zG_r hI (by decide)).trans hr), ?_⟩
      refine ⟨((zG_r hI (by decide)).trans hr), ?_⟩
      have b9 := i_bd o
      refine sp_149_64_s (R := (mR S 70)) (a7 := (aS 75 S)) (a8 := (aS 88 S)) (o) (by omega) (by omega) (zB_dn_zI hI) (show xB S (mR S 70) from by first | (exact (xC_o (W := 75) hpre0).2)) (show aS 75 S = (aS 75 S) from by first | (exact rfl)) (show aS 88 S = (aS 88 S) from by first | (exact rfl)) (fun v2 S1 hL_S1 hq_v2 rp0_S1 rp1_S1 rp2_S1 rp3_S1 => zo_n ⟨zG_T hL_S1, ?_⟩) (fun x S9 hx h9 rx0 rx1 rx2 => by have h9u := (zB_up_zI hI h9); exact zo_x (KX x S9 (by omega) h9u (show xB S9 (mR S9 70) from by first | (exact xB_x (xC_o (W := 75) rx0).2)) (show aS 88 S9 = ab from by first | (exact rx1.trans hpre1)) (show zfP 79 (mI S9) = fq from by first | (exact ((zf_fr (P := 79) (fun _ => zG_z h9 rfl)).trans hpre2)))))
      have hI_S1 := zB_up_zI hI hL_S1
      have rp0_S1 : xB S1 (mR S 70) := by
        have z := rp0_S1
        (try rw [show mI S 65 = f 65 from funext (fun k => zG_z hI rfl)] at z)
        (try rw [show mI S 64 1 = f 64 1 from zG_z hI rfl] at z)
        exact z
      have rp1_S1 : aS 88 S1 = (aS 88 S) := by
        have z := rp1_S1
        (try rw [show mI S 65 = f 65 from funext (fun k => zG_z hI rfl)] at z)
        (try rw [show mI S 64 1 = f 64 1 from zG_z hI rfl] at z)
        exact z
      have rp2_S1 : v2 = zTa (mR S 70) o := by
        have z := rp2_S1
        (try rw [show mI S 65 = f 65 from funext (fun k => zG_z hI rfl)] at z)
        (try rw [show mI S 64 1 = f 64 1 from zG_z hI rfl] at z)
        exact z
      have rp3_S1 : zRq (aS 75 S) o := by
        have z := rp3_S1
        (try rw [show mI S 65 = f 65 from funext (fun k => zG_z hI rfl)] at z)
        (try rw [show mI S 64 1 = f 64 1 from zG_z hI rfl] at z)
        exact z
      obtain ⟨c3, hc, th_c3⟩ := hq_v2
      have rg_c3 : zTa (mR S 70) o = some c3 := rp2_S1.symm.trans hc
      refine ⟨c3, hc, ?_⟩
      refine zd (fun h10 => ?_) (fun h10 => ?_)
      · skip
        have g11 := i_eq h10
        refine ⟨zG_n hI_S1 th_c3, ?_⟩
        have f12 := zG_th hI_S1 th_c3
        exact K ((mI S1 c3 4)) _ hI_S1 trivial (show xB S1 (mR S1 70) from by first | (exact xB_x (xC_o (W := 75) rp0_S1).2)) (show aS 88 S1 = ab from by first | (exact (xC_o (W := 88) rp0_S1).1.trans (rp1_S1.trans hpre1))) (show zfP 79 (mI S1) = fq from by first | (exact ((zf_fr (P := 79) (S₉ := S1) (S := S) (fun _ => zG_z hL_S1 rfl)).trans hpre2)))
      · skip
        have g13 := i_ne h10
        have li14 : (1 : Int32).toInt = 1 := rfl
        refine zd (fun h15 => ?_) (fun h15 => ?_)
        · skip
          have g16 := i_eq h15
          refine ⟨zG_n hI_S1 th_c3, ?_⟩
          have f17 := zG_th hI_S1 th_c3
          exact K ((mI S1 c3 2)) _ hI_S1 trivial (show xB S1 (mR S1 70) from by first | (exact xB_x (xC_o (W := 75) rp0_S1).2)) (show aS 88 S1 = ab from by first | (exact (xC_o (W := 88) rp0_S1).1.trans (rp1_S1.trans hpre1))) (show zfP 79 (mI S1) = fq from by first | (exact ((zf_fr (P := 79) (S₉ := S1) (S := S) (fun _ => zG_z hL_S1 rfl)).trans hpre2)))
        · skip
          have g18 := i_ne h15
          have li19 : (2 : Int32).toInt = 2 := rfl
          refine zd (fun h20 => ?_) (fun h20 => ?_)
          · skip
            have g21 := i_eq h20
            refine ⟨zG_n hI_S1 th_c3, ?_⟩
            have b22 := i_bd (mI S1 c3 1)
            exact K ((mI S1 c3 1)) _ hI_S1 trivial (show xB S1 (mR S1 70) from by first | (exact xB_x (xC_o (W := 75) rp0_S1).2)) (show aS 88 S1 = ab from by first | (exact (xC_o (W := 88) rp0_S1).1.trans (rp1_S1.trans hpre1))) (show zfP 79 (mI S1) = fq from by first | (exact ((zf_fr (P := 79) (S₉ := S1) (S := S) (fun _ => zG_z hL_S1 rfl)).trans hpre2)))
          · skip
            have g23 := i_ne h20
            have li24 : (3 : Int32).toInt = 3 := rfl
            refine zd (fun h25 => ?_) (fun h25 => ?_)
            · skip
              have g26 := i_eq h25
              refine ⟨zG_n hI_S1 th_c3, ?_⟩
              have b27 := i_bd (mI S1 c3 5)
              exact K ((mI S1 c3 5)) _ hI_S1 trivial (show xB S1 (mR S1 70) from by first | (exact xB_x (xC_o (W := 75) rp0_S1).2)) (show aS 88 S1 = ab from by first | (exact (xC_o (W := 88) rp0_S1).1.trans (rp1_S1.trans hpre1))) (show zfP 79 (mI S1) = fq from by first | (exact ((zf_fr (P := 79) (S₉ := S1) (S := S) (fun _ => zG_z hL_S1 rfl)).trans hpre2)))
            · skip
              have g28 := i_ne h25
              have li29 : (4 : Int32).toInt = 4 := rfl
              refine zd (fun h30 => ?_) (fun h30 => ?_)
              · skip
                have g31 := i_eq h30
                exact K ((0 : Int32)) _ hI_S1 trivial (show xB S1 (mR S1 70) from by first | (exact xB_x (xC_o (W := 75) rp0_S1).2)) (show aS 88 S1 = ab from by first | (exact (xC_o (W := 88) rp0_S1).1.trans (rp1_S1.trans hpre1))) (show zfP 79 (mI S1) = fq from by first | (exact ((zf_fr (P := 79) (S₉ := S1) (S := S) (fun _ => zG_z hL_S1 rfl)).trans hpre2)))
              · skip
                have g32 := i_ne h30
                have li33 : (5 : Int32).toInt = 5 := rfl
                refine zd (fun h34 => ?_) (fun h34 => ?_)
                · skip
                  have g35 := i_eq h34
                  exact K ((0 : Int32)) _ hI_S1 trivial (show xB S1 (mR S1 70) from by first | (exact xB_x (xC_o (W := 75) rp0_S1).2)) (show aS 88 S1 = ab from by first | (exact (xC_o (W := 88) rp0_S1).1.trans (rp1_S1.trans hpre1))) (show zfP 79 (mI S1) = fq from by first | (exact ((zf_fr (P := 79) (S₉ := S1) (S := S) (fun _ => zG_z hL_S1 rfl)).trans hpre2)))
                · skip
                  have g36 := i_ne h34
                  have li37 : (6 : Int32).toInt = 6 := rfl
                  refine zd (fun h38 => ?_) (fun h38 => ?_)
                  · skip
                    have g39 := i_eq h38
                    refine ⟨zG_n hI_S1 th_c3, ?_⟩
                    have b40 := i_bd (mI S1 c3 7)
                    exact K ((mI S1 c3 7)) _ hI_S1 trivial (show xB S1 (mR S1 70) from by first | (exact xB_x (xC_o (W := 75) rp0_S1).2)) (show aS 88 S1 = ab from by first | (exact (xC_o (W := 88) rp0_S1).1.trans (rp1_S1.trans hpre1))) (show zfP 79 (mI S1) = fq from by first | (exact ((zf_fr (P := 79) (S₉ := S1) (S := S) (fun _ => zG_z hL_S1 rfl)).trans hpre2)))
                  · skip
                    have g41 := i_ne h38
                    refine ⟨zG_n hI_S1 th_c3, ?_⟩
                    have b42 := i_bd (mI S1 c3 8)
                    refine zd (fun h43 => ?_) (fun h43 => ?_)
                    · skip
                      have g44 := i_eq h43
                      exact K ((0 : Int32)) _ hI_S1 trivial (show xB S1 (mR S1 70) from by first | (exact xB_x (xC_o (W := 75) rp0_S1).2)) (show aS 88 S1 = ab from by first | (exact (xC_o (W := 88) rp0_S1).1.trans (rp1_S1.trans hpre1))) (show zfP 79 (mI S1) = fq from by first | (exact ((zf_fr (P := 79) (S₉ := S1) (S := S) (fun _ => zG_z hL_S1 rfl)).trans hpre2)))
                    · skip
                      have g45 := i_ne h43
                      exact K ((1 : Int32)) _ hI_S1 trivial (show xB S1 (mR S1 70) from by first | (exact xB_x (xC_o (W := 75) rp0_S1).2)) (show aS 88 S1 = ab from by first | (exact (xC_o (W := 88) rp0_S1).1.trans (rp1_S1.trans hpre1))) (show zfP 79 (mI S1) = fq from by first | (exact ((zf_fr (P := 79) (S₉ := S1) (S := S) (fun _ => zG_z hL_S1 rfl)).trans hpre2)))
    · skip
      have g46 := i_nle h7
      exact KX 2 _ (by decide) hI (show xB S (mR S 70) from by first | (exact xB_x (xC_o (W := 75) hpre0).2)) (show aS 88 S = ab from by first | (exact (xC_o (W := 88) hpre0).1.trans hpre1)) (show zfP 79 (mI S) = fq from by first | (exact hpre2))

/-! from 95.k43 -/
/-! the collectors that sweep, the class (written by wip/tools/gen20.py) -/
theorem g_163_64_s_p79_0 {X : Nat × (Nat → Int32)} {d w : Nat} {S : ma_S} {Q : Option ma_V ⊕ Nat → ma_S → Prop} (wh : Int32) (hd : 7 ≤ d) (hw : 109 ≤ w) (hS : zT S) (h : if wh < 0 then (Q (.inr 2) (ma_bump S)) else (if wh ≤ (13 : Int32) then (if wh = 0 then (Q (.inl (some (.inl (mI S 64 1)))) S) else (if wh = (1 : Int32) then (Q (.inl (some (.inl (mI S 64 7)))) S) else (mR S 64 11 = some 79 ∧ (mR S 64 11 = some 79 ∧ (if wh = (2 : Int32) then (Q (.inl (some (.inl (mI S 69 7)))) S) else (if wh = (3 : Int32) then (Q (.inl (some (.inl (mI S 69 8)))) S) else (if wh = (4 : Int32) then (Q (.inl (some (.inl (mI S 69 6)))) S) else (if wh = (5 : Int32) then (Q (.inl (some (.inl (mI S 69 9)))) S) else (if wh = (6 : Int32) then (Q (.inl (some (.inl (mI S 69 10)))) S) else (if wh = (7 : Int32) then (Q (.inl (some (.inl (mI S 69 11)))) S) else (if wh = (8 : Int32) then (Q (.inl (some (.inl (mI S 69 12)))) S) else (if wh = (9 : Int32) then (Q (.inl (some (.inl (mI S 69 5)))) S) else (if wh = (10 : Int32) then (Q (.inl (some (.inl (0 : Int32)))) S) else (if wh = (11 : Int32) then (Q (.inl (some (.inl (0 : Int32)))) S) else (if wh = (12 : Int32) then (Q (.inl (some (.inl (0 : Int32)))) S) else (Q (.inl (some (.inl (0 : Int32)))) S)))))))))))))))) else (Q (.inr 2) (ma_bump S)))) : ma_wp X d w 163 0 [(0, .inr (.inr (some 64))), (1, .inl wh)] [] S Q := by
  refine zw_push hm_163 dX11_count_0 (v := .inl wh) rfl ?_
  refine zw_if0 hm_163 dX11_count_1 (t := 10) rfl zc0_lt ?_ ?_
  · intro hc
    rw [if_pos hc] at h
    exact zw_thr hm_163 dX11_count_10 dX11_count_13 dX11_count_14 dX11_count_17 x_11_79_81 n_11_79 (by omega) (by show 0 + 81 ≤ w; omega) h
  · intro hc
    rw [if_neg hc] at h
    refine zw_push hm_163 dX11_count_4 (v := .inl wh) rfl ?_
    refine zw_push hm_163 dX11_count_5 (v := .inl (13 : Int32)) rfl ?_
    refine zw_if2 hm_163 dX11_count_7 (t := 18) rfl zc2_le ?_ ?_
    · intro hc
      rw [if_pos hc] at h
      refine zw_push hm_163 dX11_count_18 (v := .inl wh) rfl ?_
      refine zw_if0 hm_163 dX11_count_19 (t := 27) rfl zc0_ne ?_ ?_
      · intro hc
        rw [if_neg hc] at h
        refine zw_push hm_163 dX11_count_27 (v := .inl wh) rfl ?_
        refine zw_push hm_163 dX11_count_28 (v := .inl (1 : Int32)) rfl ?_
        refine zw_if2 hm_163 dX11_count_29 (t := 37) rfl zc2_ne ?_ ?_
        · intro hc
          rw [if_neg hc] at h
          refine zw_push hm_163 dX11_count_37 (v := .inr (.inr (some 64))) rfl ?_
          refine zw_cv hm_163 dX11_count_38 v_11_119_11 hm_144 [] [] rfl (zT_rt hS s_64 rfl) ⟨by omega, by omega⟩ rfl ?_
          show ma_wp X (d - 1) (w - 20) 144 0 [(0, .inr (.inr (some 64)))] [] S _
          refine zw_push hm_144 dX11_needCollector_0 (v := .inr (.inr (some 64))) rfl ?_
          obtain ⟨hg, h⟩ := h
          refine zw_gf hm_144 dX11_needCollector_1 (v := .inr (.inr (some 79))) (zT_is hS s_64) (zT_t hS s_64) rfl f_11_98_11 (congrArg (fun z => Sum.inr (Sum.inr z)) hg) ?_
          refine zw_ifnonnull hm_144 dX11_needCollector_4 (t := 15) rfl (fun z => by cases z) (fun _ _ => ?_)
          refine zw_push hm_144 dX11_needCollector_15 (v := .inr (.inr (some 64))) rfl ?_
          obtain ⟨hg, h⟩ := h
          refine zw_gf hm_144 dX11_needCollector_16 (v := .inr (.inr (some 79))) (zT_is hS s_64) (zT_t hS s_64) rfl f_11_98_11 (congrArg (fun z => Sum.inr (Sum.inr z)) hg) ?_
          refine zw_aret hm_144 dX11_needCollector_19 ?_
          show ma_wp X d w 163 41 [(0, .inr (.inr (some 64))), (1, .inl wh)] [.inr (.inr (some 79))] S _
          refine zw_sto hm_163 dX11_count_41 [(2, .inr (.inr (some 79))), (0, .inr (.inr (some 64))), (1, .inl wh)] rfl rfl rfl ?_
          refine zw_push hm_163 dX11_count_42 (v := .inl wh) rfl ?_
          by_cases hc0 : wh = (2 : Int32)
          · rw [if_pos hc0] at h
            refine zw_jmp hm_163 dX11_count_43 (t := 100) (st₉ := []) rfl rfl rfl (ma_jmp_tab (by rw [hc0]; decide +kernel)) ?_
            refine zw_push hm_163 dX11_count_100 (v := .inr (.inr (some 64))) rfl ?_
            refine zw_gf hm_163 dX11_count_101 (v := .inr (.inr (some 69))) (zT_is hS s_64) (zT_t hS s_64) rfl f_11_26_11 (zT_f hS r_64_8) ?_
            refine zw_gf hm_163 dX11_count_104 (v := .inl (mI S 69 7)) (zT_is hS s_69) (zT_t hS s_69) rfl f_11_238_7 rfl ?_
            exact zw_iret hm_163 dX11_count_107 h
          rw [if_neg hc0] at h
          by_cases hc1 : wh = (3 : Int32)
          · rw [if_pos hc1] at h
            refine zw_jmp hm_163 dX11_count_43 (t := 108) (st₉ := []) rfl rfl rfl (ma_jmp_tab (by rw [hc1]; decide +kernel)) ?_
            refine zw_push hm_163 dX11_count_108 (v := .inr (.inr (some 64))) rfl ?_
            refine zw_gf hm_163 dX11_count_109 (v := .inr (.inr (some 69))) (zT_is hS s_64) (zT_t hS s_64) rfl f_11_26_11 (zT_f hS r_64_8) ?_
            refine zw_gf hm_163 dX11_count_112 (v := .inl (mI S 69 8)) (zT_is hS s_69) (zT_t hS s_69) rfl f_11_241_7 rfl ?_
            exact zw_iret hm_163 dX11_count_115 h
          rw [if_neg hc1] at h
          by_cases hc2 : wh = (4 : Int32)
          · rw [if_pos hc2] at h
            refine zw_jmp hm_163 dX11_count_43 (t := 116) (st₉ := []) rfl rfl rfl (ma_jmp_tab (by rw [hc2]; decide +kernel)) ?_
            refine zw_push hm_163 dX11_count_116 (v := .inr (.inr (some 64))) rfl ?_
            refine zw_gf hm_163 dX11_count_117 (v := .inr (.inr (some 69))) (zT_is hS s_64) (zT_t hS s_64) rfl f_11_26_11 (zT_f hS r_64_8) ?_
            refine zw_gf hm_163 dX11_count_120 (v := .inl (mI S 69 6)) (zT_is hS s_69) (zT_t hS s_69) rfl f_11_244_7 rfl ?_
            exact zw_iret hm_163 dX11_count_123 h
          rw [if_neg hc2] at h
          by_cases hc3 : wh = (5 : Int32)
          · rw [if_pos hc3] at h
            refine zw_jmp hm_163 dX11_count_43 (t := 124) (st₉ := []) rfl rfl rfl (ma_jmp_tab (by rw [hc3]; decide +kernel)) ?_
            refine zw_push hm_163 dX11_count_124 (v := .inr (.inr (some 64))) rfl ?_
            refine zw_gf hm_163 dX11_count_125 (v := .inr (.inr (some 69))) (zT_is hS s_64) (zT_t hS s_64) rfl f_11_26_11 (zT_f hS r_64_8) ?_
            refine zw_gf hm_163 dX11_count_128 (v := .inl (mI S 69 9)) (zT_is hS s_69) (zT_t hS s_69) rfl f_11_247_7 rfl ?_
            exact zw_iret hm_163 dX11_count_131 h
          rw [if_neg hc3] at h
          by_cases hc4 : wh = (6 : Int32)
          · rw [if_pos hc4] at h
            refine zw_jmp hm_163 dX11_count_43 (t := 132) (st₉ := []) rfl rfl rfl (ma_jmp_tab (by rw [hc4]; decide +kernel)) ?_
            refine zw_push hm_163 dX11_count_132 (v := .inr (.inr (some 64))) rfl ?_
            refine zw_gf hm_163 dX11_count_133 (v := .inr (.inr (some 69))) (zT_is hS s_64) (zT_t hS s_64) rfl f_11_26_11 (zT_f hS r_64_8) ?_
            refine zw_gf hm_163 dX11_count_136 (v := .inl (mI S 69 10)) (zT_is hS s_69) (zT_t hS s_69) rfl f_11_250_7 rfl ?_
            exact zw_iret hm_163 dX11_count_139 h
          rw [if_neg hc4] at h
          by_cases hc5 : wh = (7 : Int32)
          · rw [if_pos hc5] at h
            refine zw_jmp hm_163 dX11_count_43 (t := 140) (st₉ := []) rfl rfl rfl (ma_jmp_tab (by rw [hc5]; decide +kernel)) ?_
            refine zw_push hm_163 dX11_count_140 (v := .inr (.inr (some 64))) rfl ?_
            refine zw_gf hm_163 dX11_count_141 (v := .inr (.inr (some 69))) (zT_is hS s_64) (zT_t hS s_64) rfl f_11_26_11 (zT_f hS r_64_8) ?_
            refine zw_gf hm_163 dX11_count_144 (v := .inl (mI S 69 11)) (zT_is hS s_69) (zT_t hS s_69) rfl f_11_253_7 rfl ?_
            exact zw_iret hm_163 dX11_count_147 h
          rw [if_neg hc5] at h
          by_cases hc6 : wh = (8 : Int32)
          · rw [if_pos hc6] at h
            refine zw_jmp hm_163 dX11_count_43 (t := 148) (st₉ := []) rfl rfl rfl (ma_jmp_tab (by rw [hc6]; decide +kernel)) ?_
            refine zw_push hm_163 dX11_count_148 (v := .inr (.inr (some 64))) rfl ?_
            refine zw_gf hm_163 dX11_count_149 (v := .inr (.inr (some 69))) (zT_is hS s_64) (zT_t hS s_64) rfl f_11_26_11 (zT_f hS r_64_8) ?_
            refine zw_gf hm_163 dX11_count_152 (v := .inl (mI S 69 12)) (zT_is hS s_69) (zT_t hS s_69) rfl f_11_256_7 rfl ?_
            exact zw_iret hm_163 dX11_count_155 h
          rw [if_neg hc6] at h
          by_cases hc7 : wh = (9 : Int32)
          · rw [if_pos hc7] at h
            refine zw_jmp hm_163 dX11_count_43 (t := 156) (st₉ := []) rfl rfl rfl (ma_jmp_tab (by rw [hc7]; decide +kernel)) ?_
            refine zw_push hm_163 dX11_count_156 (v := .inr (.inr (some 64))) rfl ?_
            refine zw_gf hm_163 dX11_count_157 (v := .inr (.inr (some 69))) (zT_is hS s_64) (zT_t hS s_64) rfl f_11_26_11 (zT_f hS r_64_8) ?_
            refine zw_gf hm_163 dX11_count_160 (v := .inl (mI S 69 5)) (zT_is hS s_69) (zT_t hS s_69) rfl f_11_259_7 rfl ?_
            exact zw_iret hm_163 dX11_count_163 h
          rw [if_neg hc7] at h
          by_cases hc8 : wh = (10 : Int32)
          · rw [if_pos hc8] at h
            refine zw_jmp hm_163 dX11_count_43 (t := 164) (st₉ := []) rfl rfl rfl (ma_jmp_tab (by rw [hc8]; decide +kernel)) ?_
            refine zw_push hm_163 dX11_count_164 (v := .inr (.inr (some 79))) rfl ?_
            refine zw_cv hm_163 dX11_count_165 v_11_262_8 hm_272 [] [] rfl (zT_rt hS s_79 rfl) ⟨by omega, by omega⟩ rfl ?_
            show ma_wp X (d - 1) (w - 20) 272 0 [(0, .inr (.inr (some 79)))] [] S _
            refine zw_push hm_272 dX1_specials_0 (v := .inl (0 : Int32)) rfl ?_
            refine zw_iret hm_272 dX1_specials_1 ?_
            show ma_wp X d w 163 168 [(2, .inr (.inr (some 79))), (0, .inr (.inr (some 64))), (1, .inl wh)] [.inl (0 : Int32)] S _
            exact zw_iret hm_163 dX11_count_168 h
          rw [if_neg hc8] at h
          by_cases hc9 : wh = (11 : Int32)
          · rw [if_pos hc9] at h
            refine zw_jmp hm_163 dX11_count_43 (t := 169) (st₉ := []) rfl rfl rfl (ma_jmp_tab (by rw [hc9]; decide +kernel)) ?_
            refine zw_push hm_163 dX11_count_169 (v := .inr (.inr (some 79))) rfl ?_
            refine zw_cv hm_163 dX11_count_170 v_11_265_8 hm_273 [] [] rfl (zT_rt hS s_79 rfl) ⟨by omega, by omega⟩ rfl ?_
            show ma_wp X (d - 1) (w - 20) 273 0 [(0, .inr (.inr (some 79)))] [] S _
            refine zw_push hm_273 dX1_topPlace_0 (v := .inl (0 : Int32)) rfl ?_
            refine zw_iret hm_273 dX1_topPlace_1 ?_
            show ma_wp X d w 163 173 [(2, .inr (.inr (some 79))), (0, .inr (.inr (some 64))), (1, .inl wh)] [.inl (0 : Int32)] S _
            exact zw_iret hm_163 dX11_count_173 h
          rw [if_neg hc9] at h
          by_cases hc10 : wh = (12 : Int32)
          · rw [if_pos hc10] at h
            refine zw_jmp hm_163 dX11_count_43 (t := 174) (st₉ := []) rfl rfl rfl (ma_jmp_tab (by rw [hc10]; decide +kernel)) ?_
            refine zw_push hm_163 dX11_count_174 (v := .inr (.inr (some 79))) rfl ?_
            refine zw_cv hm_163 dX11_count_175 v_11_268_8 hm_274 [] [] rfl (zT_rt hS s_79 rfl) ⟨by omega, by omega⟩ rfl ?_
            show ma_wp X (d - 1) (w - 20) 274 0 [(0, .inr (.inr (some 79)))] [] S _
            refine zw_push hm_274 dX1_isMarking_0 (v := .inl (0 : Int32)) rfl ?_
            refine zw_bret hm_274 dX1_isMarking_1 (by decide) ?_
            show ma_wp X d w 163 178 [(2, .inr (.inr (some 79))), (0, .inr (.inr (some 64))), (1, .inl wh)] [.inl (0 : Int32)] S _
            refine zw_if0 hm_163 dX11_count_178 (t := 185) rfl zc0_eq (fun _ => ?_) (fun hc => absurd (by decide) hc)
            refine zw_push hm_163 dX11_count_185 (v := .inl (0 : Int32)) rfl ?_
            exact zw_iret hm_163 dX11_count_186 h
          rw [if_neg hc10] at h
          refine zw_jmp hm_163 dX11_count_43 (t := 187) (st₉ := []) rfl rfl rfl (ma_jmp_def (m := 11) (by decide) (fun j hj => by
              have hj2 : j = 0 ∨ j = 1 ∨ j = 2 ∨ j = 3 ∨ j = 4 ∨ j = 5 ∨ j = 6 ∨ j = 7 ∨ j = 8 ∨ j = 9 ∨ j = 10 := by omega
              rcases hj2 with rfl | rfl | rfl | rfl | rfl | rfl | rfl | rfl | rfl | rfl | rfl
              · exact hc0
              · exact hc1
              · exact hc2
              · exact hc3
              · exact hc4
              · exact hc5
              · exact hc6
              · exact hc7
              · exact hc8
              · exact hc9
              · exact hc10
              ) rfl) ?_
          refine zw_push hm_163 dX11_count_187 (v := .inr (.inr (some 79))) rfl ?_
          refine zw_cv hm_163 dX11_count_188 v_11_272_8 hm_275 [] [] rfl (zT_rt hS s_79 rfl) ⟨by omega, by omega⟩ rfl ?_
          show ma_wp X (d - 1) (w - 20) 275 0 [(0, .inr (.inr (some 79)))] [] S _
          refine zw_push hm_275 dX1_oldTopOrRegion_0 (v := .inl (0 : Int32)) rfl ?_
          refine zw_iret hm_275 dX1_oldTopOrRegion_1 ?_
          show ma_wp X d w 163 191 [(2, .inr (.inr (some 79))), (0, .inr (.inr (some 64))), (1, .inl wh)] [.inl (0 : Int32)] S _
          exact zw_iret hm_163 dX11_count_191 h
        · intro hc
          rw [if_pos (Classical.not_not.mp hc)] at h
          refine zw_push hm_163 dX11_count_32 (v := .inr (.inr (some 64))) rfl ?_
          refine zw_gf hm_163 dX11_count_33 (v := .inl (mI S 64 7)) (zT_is hS s_64) (zT_t hS s_64) rfl f_11_82_11 rfl ?_
          exact zw_iret hm_163 dX11_count_36 h
      · intro hc
        rw [if_pos (Classical.not_not.mp hc)] at h
        refine zw_push hm_163 dX11_count_22 (v := .inr (.inr (some 64))) rfl ?_
        refine zw_gf hm_163 dX11_count_23 (v := .inl (mI S 64 1)) (zT_is hS s_64) (zT_t hS s_64) rfl f_11_68_11 rfl ?_
        exact zw_iret hm_163 dX11_count_26 h
    · intro hc
      rw [if_neg hc] at h
      exact zw_thr hm_163 dX11_count_10 dX11_count_13 dX11_count_14 dX11_count_17 x_11_79_81 n_11_79 (by omega) (by show 0 + 81 ≤ w; omega) h
theorem sp_163_64_s_p79 {X : Nat × (Nat → Int32)} {d w : Nat} {f : Nat → Nat → Int32} {r : Nat → Nat → Option Nat} {C Z N : Nat} {Q : Option ma_V ⊕ Nat → ma_S → Prop} {ab : Nat→Nat→Int32} {fq : Nat→Int32} {S : ma_S} (wh : Int32) (hd : 7 ≤ d) (hw : 109 ≤ w) (hI : zB f r C Z N S) (hr : r 64 11 = some 79) (hpre0 : xB S (mR S 70)) (hpre1 : aS 88 S = ab) (hpre2 : zfP 79 (mI S) = fq) (K : ∀ v S₉, zB f r C Z N S₉ → (True) → (xB S₉ (mR S₉ 70)) → (aS 88 S₉ = ab) → (zfP 79 (mI S₉) = fq) → Q (.inl (some (.inl v))) S₉) (KX : ∀ x S₉, (x = 2) → zB f r C Z N S₉ → (xB S₉ (mR S₉ 70)) → (aS 88 S₉ = ab) → (zfP 79 (mI S₉) = fq) → Q (.inr x) (ma_bump S₉)) : ma_wp X d w 163 0 [(0, .inr (.inr (some 64))), (1, .inl wh)] [] S Q := by
  refine g_163_64_s_p79_0 wh (by omega) (by omega) (zG_T hI) ?_
  have b1 := i_bd wh
  have li2 : (0 : Int32).toInt = 0 := rfl
  refine zd (fun h3 => ?_) (fun h3 => ?_)
  · skip
    have g4 := i_lt h3
    exact KX 2 _ (by decide) hI (show xB S (mR S 70) from by first | (exact xB_x (xC_o (W := 75) hpre0).2)) (show aS 88 S = ab from by first | (exact (xC_o (W := 88) hpre0).1.trans hpre1)) (show zfP 79 (mI S) = fq from by first | (exact hpre2))
  · skip
    have g5 := i_nlt h3
    have li6 : (13 : Int32).toInt = 13 := rfl
    refine zd (fun h7 => ?_) (fun h7 => ?_)
    · skip
      have g8 := i_le h7
      refine zd (fun h9 => ?_) (fun h9 => ?_)
      · skip
        have g10 := i_eq h9
        have f11 := zG_s hI (0) (100) (c := 64) (k := 1) (by decide)
        exact K ((mI S 64 1)) _ hI trivial (show xB S (mR S 70) from by first | (exact xB_x (xC_o (W := 75) hpre0).2)) (show aS 88 S = ab from by first | (exact (xC_o (W := 88) hpre0).1.trans hpre1)) (show zfP 79 (mI S) = fq from by first | (exact hpre2))
      · skip
        have g12 := i_ne h9
        have li13 : (1 : Int32).toInt = 1 := rfl
        refine zd (fun h14 => ?_) (fun h14 => ?_)
        · skip
          have g15 := i_eq h14
          have f16 := zG_s hI (0) (16) (c := 64) (k := 7) (by decide)
          exact K ((mI S 64 7)) _ hI trivial (show xB S (mR S 70) from by first | (exact xB_x (xC_o (W := 75) hpre0).2)) (show aS 88 S = ab from by first | (exact (xC_o (W := 88) hpre0).1.trans hpre1)) (show zfP 79 (mI S) = fq from by first | (exact hpre2))
        · skip
          have g17 := i_ne h14
          refine ⟨((zG_r hI (by decide)).trans hr), ?_⟩
          refine ⟨((zG_r hI (by decide)).trans hr), ?_⟩
          have li18 : (2 : Int32).toInt = 2 := rfl
          refine zd (fun h19 => ?_) (fun h19 => ?_)
          · skip
            have g20 := i_eq h19
            have b21 := i_bd (mI S 69 7)
            exact K ((mI S 69 7)) _ hI trivial (show xB S (mR S 70) from by first | (exact xB_x (xC_o (W := 75) hpre0).2)) (show aS 88 S = ab from by first | (exact (xC_o (W := 88) hpre0).1.trans hpre1)) (show zfP 79 (mI S) = fq from by first | (exact hpre2))
          · skip
            have g22 := i_ne h19
            have li23 : (3 : Int32).toInt = 3 := rfl
            refine zd (fun h24 => ?_) (fun h24 => ?_)
            · skip
              have g25 := i_eq h24
              have b26 := i_bd (mI S 69 8)
              exact K ((mI S 69 8)) _ hI trivial (show xB S (mR S 70) from by first | (exact xB_x (xC_o (W := 75) hpre0).2)) (show aS 88 S = ab from by first | (exact (xC_o (W := 88) hpre0).1.trans hpre1)) (show zfP 79 (mI S) = fq from by first | (exact hpre2))
            · skip
              have g27 := i_ne h24
              have li28 : (4 : Int32).toInt = 4 := rfl
              refine zd (fun h29 => ?_) (fun h29 => ?_)
              · skip
                have g30 := i_eq h29
                have f31 := zG_s hI (0) (512) (c := 69) (k := 6) (by decide)
                exact K ((mI S 69 6)) _ hI trivial (show xB S (mR S 70) from by first | (exact xB_x (xC_o (W := 75) hpre0).2)) (show aS 88 S = ab from by first | (exact (xC_o (W := 88) hpre0).1.trans hpre1)) (show zfP 79 (mI S) = fq from by first | (exact hpre2))
              · skip
                have g32 := i_ne h29
                have li33 : (5 : Int32).toInt = 5 := rfl
                refine zd (fun h34 => ?_) (fun h34 => ?_)
                · skip
                  have g35 := i_eq h34
                  have b36 := i_bd (mI S 69 9)
                  exact K ((mI S 69 9)) _ hI trivial (show xB S (mR S 70) from by first | (exact xB_x (xC_o (W := 75) hpre0).2)) (show aS 88 S = ab from by first | (exact (xC_o (W := 88) hpre0).1.trans hpre1)) (show zfP 79 (mI S) = fq from by first | (exact hpre2))
                · skip
                  have g37 := i_ne h34
                  have li38 : (6 : Int32).toInt = 6 := rfl
                  refine zd (fun h39 => ?_) (fun h39 => ?_)
                  · skip
                    have g40 := i_eq h39
                    have b41 := i_bd (mI S 69 10)
                    exact K ((mI S 69 10)) _ hI trivial (show xB S (mR S 70) from by first | (exact xB_x (xC_o (W := 75) hpre0).2)) (show aS 88 S = ab from by first | (exact (xC_o (W := 88) hpre0).1.trans hpre1)) (show zfP 79 (mI S) = fq from by first | (exact hpre2))
                  · skip
                    have g42 := i_ne h39
                    have li43 : (7 : Int32).toInt = 7 := rfl
                    refine zd (fun h44 => ?_) (fun h44 => ?_)
                    · skip
                      have g45 := i_eq h44
                      have b46 := i_bd (mI S 69 11)
                      exact K ((mI S 69 11)) _ hI trivial (show xB S (mR S 70) from by first | (exact xB_x (xC_o (W := 75) hpre0).2)) (show aS 88 S = ab from by first | (exact (xC_o (W := 88) hpre0).1.trans hpre1)) (show zfP 79 (mI S) = fq from by first | (exact hpre2))
                    · skip
                      have g47 := i_ne h44
                      have li48 : (8 : Int32).toInt = 8 := rfl
                      refine zd (fun h49 => ?_) (fun h49 => ?_)
                      · skip
                        have g50 := i_eq h49
                        have b51 := i_bd (mI S 69 12)
                        exact K ((mI S 69 12)) _ hI trivial (show xB S (mR S 70) from by first | (exact xB_x (xC_o (W := 75) hpre0).2)) (show aS 88 S = ab from by first | (exact (xC_o (W := 88) hpre0).1.trans hpre1)) (show zfP 79 (mI S) = fq from by first | (exact hpre2))
                      · skip
                        have g52 := i_ne h49
                        have li53 : (9 : Int32).toInt = 9 := rfl
                        refine zd (fun h54 => ?_) (fun h54 => ?_)
                        · skip
                          have g55 := i_eq h54
                          have f56 := zG_s hI (0) (512) (c := 69) (k := 5) (by decide)
                          exact K ((mI S 69 5)) _ hI trivial (show xB S (mR S 70) from by first | (exact xB_x (xC_o (W := 75) hpre0).2)) (show aS 88 S = ab from by first | (exact (xC_o (W := 88) hpre0).1.trans hpre1)) (show zfP 79 (mI S) = fq from by first | (exact hpre2))
                        · skip
                          have g57 := i_ne h54
                          have li58 : (10 : Int32).toInt = 10 := rfl
                          refine zd (fun h59 => ?_) (fun h59 => ?_)
                          · skip
                            have g60 := i_eq h59
                            exact K ((0 : Int32)) _ hI trivial (show xB S (mR S 70) from by first | (exact xB_x (xC_o (W := 75) hpre0).2)) (show aS 88 S = ab from by first | (exact (xC_o (W := 88) hpre0).1.trans hpre1)) (show zfP 79 (mI S) = fq from by first | (exact hpre2))
                          · skip
                            have g61 := i_ne h59
                            have li62 : (11 : Int32).toInt = 11 := rfl
                            refine zd (fun h63 => ?_) (fun h63 => ?_)
                            · skip
                              have g64 := i_eq h63
                              exact K ((0 : Int32)) _ hI trivial (show xB S (mR S 70) from by first | (exact xB_x (xC_o (W := 75) hpre0).2)) (show aS 88 S = ab from by first | (exact (xC_o (W := 88) hpre0).1.trans hpre1)) (show zfP 79 (mI S) = fq from by first | (exact hpre2))
                            · skip
                              have g65 := i_ne h63
                              have li66 : (12 : Int32).toInt = 12 := rfl
                              refine zd (fun h67 => ?_) (fun h67 => ?_)
                              · skip
                                have g68 := i_eq h67
                                exact K ((0 : Int32)) _ hI trivial (show xB S (mR S 70) from by first | (exact xB_x (xC_o (W := 75) hpre0).2)) (show aS 88 S = ab from by first | (exact (xC_o (W := 88) hpre0).1.trans hpre1)) (show zfP 79 (mI S) = fq from by first | (exact hpre2))
                              · skip
                                have g69 := i_ne h67
                                exact K ((0 : Int32)) _ hI trivial (show xB S (mR S 70) from by first | (exact xB_x (xC_o (W := 75) hpre0).2)) (show aS 88 S = ab from by first | (exact (xC_o (W := 88) hpre0).1.trans hpre1)) (show zfP 79 (mI S) = fq from by first | (exact hpre2))
    · skip
      have g70 := i_nle h7
      exact KX 2 _ (by decide) hI (show xB S (mR S 70) from by first | (exact xB_x (xC_o (W := 75) hpre0).2)) (show aS 88 S = ab from by first | (exact (xC_o (W := 88) hpre0).1.trans hpre1)) (show zfP 79 (mI S) = fq from by first | (exact hpre2))

/-! from 95.l00 -/
/-! the reference where it sweeps (written by wip/tools/gen20r.py) -/
theorem sp_197rn {X : Nat × (Nat → Int32)} {P : Option ma_V → (Nat → Nat → Int32) → Prop} {T : Nat} {aa : Nat→Nat→Int32} {m : Nat → Nat → Int32} (s : Int32) (hV : zV m) (hpre0 : 0 ≤ s.toInt) (hpre1 : s.toInt ≤ 3099) (hpre2 : T ≤ 512) (hpre3 : (m 94 10).toInt ≠ 4) (r_WI : (m 109) s.toNatClampNeg ≠ 0) (r_USs : (m 99) s.toNatClampNeg ≠ 0) (r_GW : zGW T (m 94 55) (m 109)) (r_RB : qRB (m 99) (m 100) (m 98) (m 101) (m 102) (m 103) (m 107) (m 108) (m 109) (m 111) (m 112) (m 113) (m 114) (m 94 55) (m 94 46) (m 94 11) (m 94 12) (m 94 62) (m 94 17) (m 94 9) aa) (r_QI : qI aa) (KZ : ∀ m₉, zV (zov wr_197 m m₉) → (zGW T (m₉ 94 55) (m₉ 109)) → (zuw (m 113) (m₉ 113)) → (zwx (m 114) (m₉ 114) (m 94 55) s) → ((m₉ 94 55).toInt = (m 94 55).toInt + 1) → (qRB (m 99) (m 100) (m 98) (m 101) (m 102) (m 103) (m 107) (m 108) (m₉ 109) (m 111) (m 112) (m₉ 113) (m₉ 114) (m₉ 94 55) (m 94 46) (m 94 11) (m 94 12) (m 94 62) (m 94 17) (m 94 9) (aGr aa ((m 100) s.toNatClampNeg))) → (qI (aGr aa ((m 100) s.toNatClampNeg))) → P none (zov wr_197 m m₉)) : zm X 1 22 197 0 [(0, .inr (.inr (some 94))), (1, .inl s)] m P := by
  have K : ∀ m₉, zF wr_197 m m₉ → zV m₉ → (zGW T (m₉ 94 55) (m₉ 109)) → (zuw (m 113) (m₉ 113)) → (zwx (m 114) (m₉ 114) (m 94 55) s) → ((m₉ 94 55).toInt = (m 94 55).toInt + 1) → (qRB (m₉ 99) (m₉ 100) (m₉ 98) (m₉ 101) (m₉ 102) (m₉ 103) (m₉ 107) (m₉ 108) (m₉ 109) (m₉ 111) (m₉ 112) (m₉ 113) (m₉ 114) (m₉ 94 55) (m₉ 94 46) (m₉ 94 11) (m₉ 94 12) (m₉ 94 62) (m₉ 94 17) (m₉ 94 9) (aGr aa ((m₉ 100) s.toNatClampNeg))) → (qI (aGr aa ((m₉ 100) s.toNatClampNeg))) → P none m₉ := by
    intro m₉ hf z q0 q1 q2 q3 q4 q5
    have e := zov_eq hf
    rw [e] at z ⊢
    try rw [e] at q0
    try rw [e] at q1
    try rw [e] at q2
    try rw [e] at q3
    try rw [e] at q4
    try rw [e] at q5
    exact KZ m₉ z q0 q1 q2 q3 q4 q5
  refine g_197_0 s ?_
  have f1 : 0 ≤ (m 94 10).toInt ∧ (m 94 10).toInt ≤ 6 := rs_94_10 (m := m) hV
  have b2 := i_bd s
  try have gwr := GW_512 r_GW r_WI (by omega) (by omega) (by omega)
  refine sp_198r (s) hV  (fun m1 hV_m1 p0_m1 p1_m1 => zmv_n ?_)
  have p0_m1 : zuw (m 113) (m1 113) := p0_m1
  have p1_m1 : qUn (m 113) (m1 113) s 16 := p1_m1
  try have gw := GW_room r_GW
  try have gwr := GW_512 r_GW r_WI (by omega) (by omega) (by omega)
  have hg3 : (0 ≤ s ∧ s.toNatClampNeg < 3100) := i_ix (by omega) (by omega)
  refine ⟨hg3, ?_⟩
  have f4 : 0 ≤ (m 94 55).toInt ∧ (m 94 55).toInt ≤ 3100 := rs_94_55 (m := m) hV
  try have gw := GW_room r_GW
  try have gwr := GW_512 r_GW r_WI (by omega) (by omega) (by omega)
  have hg5 : (0 ≤ (m 94 55) ∧ (m 94 55).toNatClampNeg < 3100) := i_ix (by omega) (by omega)
  refine ⟨hg5, ?_⟩
  have li6 : (4 : Int32).toInt = 4 := rfl
  refine zd (fun (h7 : (m 94 10) = (4 : Int32)) => ?_) (fun (h7 : ¬ (m 94 10) = (4 : Int32)) => ?_)
  · skip
    have g8 := i_eq h7
    have hg9 : (0 ≤ s ∧ s.toNatClampNeg < 3100) := i_ix (by omega) (by omega)
    refine ⟨hg9, ?_⟩
    have hg10 : (0 ≤ s ∧ s.toNatClampNeg < 3100) := i_ix (by omega) (by omega)
    refine ⟨hg10, ?_⟩
    try have gwr := GW_512 r_GW r_WI (by omega) (by omega) (by omega)
    have li12 : (0 : Int32).toInt = 0 := rfl
    have hV11 : zV (ma_u (zov wr_198 m m1) 109 s.toNatClampNeg (0 : Int32)) := ua_109 hV_m1 (by omega) (by omega)
    have hV13 : zV (ma_u (ma_u (zov wr_198 m m1) 109 s.toNatClampNeg (0 : Int32)) 114 (m 94 55).toNatClampNeg s) := ua_114 hV11 (by omega) (by omega)
    first | have e15 : ((m 94 55) + (1 : Int32)).toInt = (m 94 55).toInt + (1) := i_addk rfl (by omega) (by omega) | have b16 := i_bd ((m 94 55) + (1 : Int32))
    have hV14 : zV (ma_u (ma_u (ma_u (zov wr_198 m m1) 109 s.toNatClampNeg (0 : Int32)) 114 (m 94 55).toNatClampNeg s) 94 55 ((m 94 55) + (1 : Int32))) := us_94_55 hV13 (by omega) (by omega)
    have hV17 : zV (ma_u (ma_u (ma_u (ma_u (zov wr_198 m m1) 109 s.toNatClampNeg (0 : Int32)) 114 (m 94 55).toNatClampNeg s) 94 55 ((m 94 55) + (1 : Int32))) 105 s.toNatClampNeg ((m 105 s.toNatClampNeg) + (1 : Int32))) := ua_105 hV14
    exact K _ (zF_u (zF_u (zF_u (zF_u (zF_zov zF_rfl ws_198_197) rfl) rfl) rfl) rfl) hV17 (show zGW T ((m 94 55) + (1 : Int32)) ((ma_u m 109 s.toNatClampNeg (0 : Int32)) 109) from by first | (exact GW_take r_GW r_WI (by omega) (by omega)) | (exfalso; omega; done) | (exfalso; contradiction; done)) p0_m1 (show zwx (m 114) ((ma_u m 114 (m 94 55).toNatClampNeg s) 114) (m 94 55) s from by first | (exact ⟨fun k hk => mu_ne (by rw [tn_eq]; omega), mu_self⟩) | (exfalso; omega; done) | (exfalso; contradiction; done)) (show ((m 94 55) + (1 : Int32)).toInt = (m 94 55).toInt + 1 from by omega) (show qRB (m 99) (m 100) (m 98) (m 101) (m 102) (m 103) (m 107) (m 108) ((ma_u m 109 s.toNatClampNeg (0 : Int32)) 109) (m 111) (m 112) (m1 113) ((ma_u m 114 (m 94 55).toNatClampNeg s) 114) ((m 94 55) + (1 : Int32)) (m 94 46) (m 94 11) (m 94 12) (m 94 62) (m 94 17) (m 94 9) (aGr aa ((m 100) s.toNatClampNeg)) from by first | (exact RB_gr r_RB (by omega) (by omega) r_USs p1_m1 (by omega) (by omega)) | (exfalso; omega; done) | (exfalso; contradiction; done)) (show qI (aGr aa ((m 100) s.toNatClampNeg)) from by first | (exact I_gr r_QI (by rw [r_RB.2.2.2.2.1.1]; omega)) | (exfalso; omega; done) | (exfalso; contradiction; done))
  · skip
    have g18 := i_ne h7
    try have gwr := GW_512 r_GW r_WI (by omega) (by omega) (by omega)
    have li20 : (0 : Int32).toInt = 0 := rfl
    have hV19 : zV (ma_u (zov wr_198 m m1) 109 s.toNatClampNeg (0 : Int32)) := ua_109 hV_m1 (by omega) (by omega)
    have hV21 : zV (ma_u (ma_u (zov wr_198 m m1) 109 s.toNatClampNeg (0 : Int32)) 114 (m 94 55).toNatClampNeg s) := ua_114 hV19 (by omega) (by omega)
    first | have e23 : ((m 94 55) + (1 : Int32)).toInt = (m 94 55).toInt + (1) := i_addk rfl (by omega) (by omega) | have b24 := i_bd ((m 94 55) + (1 : Int32))
    have hV22 : zV (ma_u (ma_u (ma_u (zov wr_198 m m1) 109 s.toNatClampNeg (0 : Int32)) 114 (m 94 55).toNatClampNeg s) 94 55 ((m 94 55) + (1 : Int32))) := us_94_55 hV21 (by omega) (by omega)
    exact K _ (zF_u (zF_u (zF_u (zF_zov zF_rfl ws_198_197) rfl) rfl) rfl) hV22 (show zGW T ((m 94 55) + (1 : Int32)) ((ma_u m 109 s.toNatClampNeg (0 : Int32)) 109) from by first | (exact GW_take r_GW r_WI (by omega) (by omega)) | (exfalso; omega; done) | (exfalso; contradiction; done)) p0_m1 (show zwx (m 114) ((ma_u m 114 (m 94 55).toNatClampNeg s) 114) (m 94 55) s from by first | (exact ⟨fun k hk => mu_ne (by rw [tn_eq]; omega), mu_self⟩) | (exfalso; omega; done) | (exfalso; contradiction; done)) (show ((m 94 55) + (1 : Int32)).toInt = (m 94 55).toInt + 1 from by omega) (show qRB (m 99) (m 100) (m 98) (m 101) (m 102) (m 103) (m 107) (m 108) ((ma_u m 109 s.toNatClampNeg (0 : Int32)) 109) (m 111) (m 112) (m1 113) ((ma_u m 114 (m 94 55).toNatClampNeg s) 114) ((m 94 55) + (1 : Int32)) (m 94 46) (m 94 11) (m 94 12) (m 94 62) (m 94 17) (m 94 9) (aGr aa ((m 100) s.toNatClampNeg)) from by first | (exact RB_gr r_RB (by omega) (by omega) r_USs p1_m1 (by omega) (by omega)) | (exfalso; omega; done) | (exfalso; contradiction; done)) (show qI (aGr aa ((m 100) s.toNatClampNeg)) from by first | (exact I_gr r_QI (by rw [r_RB.2.2.2.2.1.1]; omega)) | (exfalso; omega; done) | (exfalso; contradiction; done))
set_option maxHeartbeats 8000000 in
theorem lp_194rn_9 {X : Nat × (Nat → Int32)} {P : Option ma_V → (Nat → Nat → Int32) → Prop} {T : Nat} {aa : Nat→Nat→Int32} {m0 : Nat → Nat → Int32} (h0 : zV m0) (K : ∀ m₉, zF wr_194 m0 m₉ → zV m₉ → ((m₉ 94 73).toInt = 0) → (zGW T (m₉ 94 55) (m₉ 109)) → (zuw (m0 113) (m₉ 113)) → (qRB (m₉ 99) (m₉ 100) (m₉ 98) (m₉ 101) (m₉ 102) (m₉ 103) (m₉ 107) (m₉ 108) (m₉ 109) (m₉ 111) (m₉ 112) (m₉ 113) (m₉ 114) (m₉ 94 55) (m₉ 94 46) (m₉ 94 11) (m₉ 94 12) (m₉ 94 62) (m₉ 94 17) (m₉ 94 9) (aGw aa 0)) → (qI (aGw aa 0)) → (qKB (m₉ 110) (m₉ 99) (m₉ 100) (aGw aa 0)) → (qE0 (aGw aa 0)) → (qCl (aGw aa 0)) → P none m₉) : ∀ (n : Nat) (m : Nat → Nat → Int32) (l2 : Int32), ((zmg (m 100) l2 : Int)).toNat = n → zF wr_194 m0 m → zV m → (T ≤ 512) → ((m 94 10).toInt ≠ 4) → ((m 94 73).toInt = 0) → (zWS (m 100) (m 99) (m 110) (m 109) (-1 : Int32) l2) → (zW (m 94 7) (m 98) (m 101) (m 102) (m 108)) → (zGW T (m 94 55) (m 109)) → (zuw (m0 113) (m 113)) → (qGL (m 99) (m 100) (m 98) (m 101) (m 102) (m 103) (m 107) (m 108) (m 109) (m 111) (m 112) (m 113) (m 114) (m 94 55) (m 94 46) (m 94 11) (m 94 12) (m 94 62) (m 94 17) (m 94 9) (m 110) l2 (aGw aa 0)) → zm X 3 66 194 9 [(0, .inr (.inr (some 94))), (2, .inl l2)] m P := by
  intro n
  induction n using Nat.strongRecOn with
  | _ n IH =>
    intro m l2 hmu hF hV hi0 hi1 hi2 r_WS r_W r_GW r_UW r_GL
    refine g_194_9 l2 ?_
    have f1 : 0 ≤ (m 94 10).toInt ∧ (m 94 10).toInt ≤ 6 := rs_94_10 (m := m) hV
    have f2 : 0 ≤ (m 94 73).toInt ∧ (m 94 73).toInt ≤ 3100 := rs_94_73 (m := m) hV
    obtain ⟨b, lst, gRB, gKB, gE0, gQI, gCL, gl, gMn, gT⟩ := r_GL
    have gb6 := gQI.2.2.2.1.1
    have b3 := i_bd l2
    have li4 : (0 : Int32).toInt = 0 := rfl
    refine zd (fun (h5 : l2 < (0 : Int32)) => ?_) (fun (h5 : ¬ l2 < (0 : Int32)) => ?_)
    · skip
      have g6 := i_lt h5
      try have gw := GW_room r_GW
      try have ws0 := WS_ge r_WS (by omega)
      exact K _ hF hV (show (m 94 73).toInt = 0 from by omega) r_GW r_UW (show qRB (m 99) (m 100) (m 98) (m 101) (m 102) (m 103) (m 107) (m 108) (m 109) (m 111) (m 112) (m 113) (m 114) (m 94 55) (m 94 46) (m 94 11) (m 94 12) (m 94 62) (m 94 17) (m 94 9) (aGw aa 0) from by first | (have e0 := GL_end gRB gQI gKB gl.1 gl.2 gMn (by omega) gT; rw [← e0]; exact gRB; done) | (exfalso; omega; done) | (exfalso; contradiction; done)) (show qI (aGw aa 0) from by first | (have e0 := GL_end gRB gQI gKB gl.1 gl.2 gMn (by omega) gT; rw [← e0]; exact gQI; done) | (exfalso; omega; done) | (exfalso; contradiction; done)) (show qKB (m 110) (m 99) (m 100) (aGw aa 0) from by first | (have e0 := GL_end gRB gQI gKB gl.1 gl.2 gMn (by omega) gT; rw [← e0]; exact gKB; done) | (exfalso; omega; done) | (exfalso; contradiction; done)) (show qE0 (aGw aa 0) from by first | (have e0 := GL_end gRB gQI gKB gl.1 gl.2 gMn (by omega) gT; rw [← e0]; exact gE0; done) | (exfalso; omega; done) | (exfalso; contradiction; done)) (show qCl (aGw aa 0) from by first | (have e0 := GL_end gRB gQI gKB gl.1 gl.2 gMn (by omega) gT; rw [← e0]; exact gCL; done) | (exfalso; omega; done) | (exfalso; contradiction; done))
    · skip
      have g7 := i_nlt h5
      try obtain ⟨ws1, ws2, ws3, ws4, ws5, ws6⟩ := WS_ge r_WS (by omega)
      have hg8 : (0 ≤ l2 ∧ l2.toNatClampNeg < 3100) := i_ix (by omega) (by omega)
      refine ⟨hg8, ?_⟩
      try have ws0 := WS_ge r_WS (by omega)
      refine sp_197rn (aa := b) (l2) hV (by omega) (by omega) (by omega) (show (m 94 10).toInt ≠ 4 from by omega) (show (m 109) l2.toNatClampNeg ≠ 0 from by first | (exact ws5) | (exact ws0.2.2.2.2.1) | (assumption; done) | (exfalso; omega; done) | (exfalso; contradiction; done)) (show (m 99) l2.toNatClampNeg ≠ 0 from by first | (exact ws3) | (exact ws0.2.2.1) | (assumption; done) | (exact ws3) | (exfalso; omega; done) | (exfalso; contradiction; done)) r_GW gRB gQI (fun m1 hV_m1 p0_m1 p1_m1 p2_m1 p3_m1 p4_m1 p5_m1 => zmv_n ?_)
      have p0_m1 : zGW T (m1 94 55) (m1 109) := p0_m1
      have p1_m1 : zuw (m 113) (m1 113) := p1_m1
      have p2_m1 : zwx (m 114) (m1 114) (m 94 55) l2 := p2_m1
      have p3_m1 : (m1 94 55).toInt = (m 94 55).toInt + 1 := p3_m1
      have p4_m1 : qRB (m 99) (m 100) (m 98) (m 101) (m 102) (m 103) (m 107) (m 108) (m1 109) (m 111) (m 112) (m1 113) (m1 114) (m1 94 55) (m 94 46) (m 94 11) (m 94 12) (m 94 62) (m 94 17) (m 94 9) (aGr b ((m 100) l2.toNatClampNeg)) := p4_m1
      have p5_m1 : qI (aGr b ((m 100) l2.toNatClampNeg)) := p5_m1
      have f9 : 0 ≤ (m1 94 55).toInt ∧ (m1 94 55).toInt ≤ 3100 := rs_94_55 (m := (zov wr_197 m m1)) hV_m1
      have f10 : 0 ≤ (m 94 55).toInt ∧ (m 94 55).toInt ≤ 3100 := rs_94_55 (m := m) hV
      refine zd (fun (h11 : l2 < (0 : Int32)) => ?_) (fun (h11 : ¬ l2 < (0 : Int32)) => ?_)
      · skip
        have g12 := i_lt h11
        try have ws0 := WS_ge r_WS (by omega)
        refine sp_191r (aa := (aGr b (m 100 l2.toNatClampNeg))) (QQ := (qQ (aGr b (m 100 l2.toNatClampNeg)) (m 100 l2.toNatClampNeg))) (DD := (zNn (aGr b (m 100 l2.toNatClampNeg))))  hV_m1 (show zKS (m 110) (m 94 73) from by first | (exact KS_0 (by omega)) | (exfalso; omega; done) | (exfalso; contradiction; done)) r_W (show qRB (m 99) (m 100) (m 98) (m 101) (m 102) (m 103) (m 107) (m 108) (m1 109) (m 111) (m 112) (m1 113) (m1 114) (m1 94 55) (m 94 46) (m 94 11) (m 94 12) (m 94 62) (m 94 17) (m 94 9) (aGr b (m 100 l2.toNatClampNeg)) from by first | (exact p4_m1) | (exfalso; omega; done) | (exfalso; contradiction; done)) (show qQC (m 99) (m 100) (m 98) (m 101) (m 102) (m 108) (qQ (aGr b (m 100 l2.toNatClampNeg)) (m 100 l2.toNatClampNeg)) (zNn (aGr b (m 100 l2.toNatClampNeg))) from by first | (exact QC_M p4_m1) | (exfalso; omega; done) | (exfalso; contradiction; done)) (show qKA (m 110) (m 99) (m 100) (m 98) (m 101) (m 102) (m 108) (m 118) (m 94 73) (qQ (aGr b (m 100 l2.toNatClampNeg)) (m 100 l2.toNatClampNeg)) (zNn (aGr b (m 100 l2.toNatClampNeg))) 3100 0 from by first | (exact absurd ws0.2.2.2.1 (by assumption)) | (exact KA_push (KA_b (KB_gr gKB) (by omega)) (by omega) (by omega) ws0.2.2.1 (zM_in (Or.inr rfl)) (by assumption) (by omega) (by omega) (by decide)) | (exfalso; omega; done) | (exfalso; contradiction; done)) (fun m3 hV_m3 p0_m3 p1_m3 p2_m3 => zmv_n ?_)
        have p0_m3 : (m3 94 73).toInt = 0 := p0_m3
        have p1_m3 : zle (m 110) (m3 110) := p1_m3
        have p2_m3 : qKA (m3 110) (m 99) (m 100) (m 98) (m 101) (m 102) (m 108) (m3 118) (m3 94 73) (qQ (aGr b (m 100 l2.toNatClampNeg)) (m 100 l2.toNatClampNeg)) (zNn (aGr b (m 100 l2.toNatClampNeg))) 3100 0 := p2_m3
        have f13 : 0 ≤ (m3 94 73).toInt ∧ (m3 94 73).toInt ≤ 3100 := rs_94_73 (m := (zov wr_191 (zov wr_197 m m1) m3)) hV_m3
        first | have f14 : 0 ≤ (m 100 l2.toNatClampNeg).toInt ∧ (m 100 l2.toNatClampNeg).toInt ≤ 100000 := ra_100 (m := m) hV (k := l2.toNatClampNeg) (i_ix (n := 3100) (by omega) (by omega)).2 | have b15 := i_bd (m 100 l2.toNatClampNeg)
        try have ws0 := WS_ge r_WS (by omega)
        refine sp_195r ((m 100 l2.toNatClampNeg)) ((0 : Int32)) hV_m3 (by omega) (fun v6 m5 hV_m5 p0_m5 p1_m5 => zmi_n ?_)
        have p0_m5 : zWS (m 100) (m 99) (m3 110) (m1 109) (m 100 l2.toNatClampNeg) v6 := p0_m5
        have p1_m5 : qMin (qCw (m 99) (m3 110) (m1 109) (m 100) (m 100 l2.toNatClampNeg)) (m 100) v6 3100 := p1_m5
        try have gw := GW_room p0_m1
        try have ws0 := WS_ge r_WS (by omega)
        have b16 := i_bd v6
        exact IH ((zmg (m 100) v6 : Int)).toNat (by have zq := zmg_lt (s := l2) (by omega) p0_m5 rfl (by omega) (by omega); omega) _ (v6) rfl (zF_zov (zF_zov (zF_zov hF ws_197_194) ws_191_194) ws_195_194) hV_m5 (by omega) (show (m 94 10).toInt ≠ 4 from by omega) (show (m3 94 73).toInt = 0 from by omega) (show zWS (m 100) (m 99) (m3 110) (m1 109) (-1 : Int32) v6 from by first | (exact WS_weak p0_m5 (by omega)) | (exact p0_m5) | (exact Or.inl (by decide)) | (exact Or.inr ⟨by omega, by omega, by assumption, by assumption, by assumption, by omega⟩) | (exfalso; omega; done) | (exfalso; contradiction; done)) r_W p0_m1 (show zuw (m0 113) (m1 113) from by first | (exact zuw_tr r_UW p1_m1) | (exact zuw_rfl) | (exfalso; omega; done) | (exfalso; contradiction; done)) (show qGL (m 99) (m 100) (m 98) (m 101) (m 102) (m 103) (m 107) (m 108) (m1 109) (m 111) (m 112) (m1 113) (m1 114) (m1 94 55) (m 94 46) (m 94 11) (m 94 12) (m 94 62) (m 94 17) (m 94 9) (m3 110) v6 (aGw aa 0) from by first | (exact absurd ws0.2.2.2.1 (by assumption)) | (have nx := GL_nx gRB gQI gE0 gKB gl.1 gl.2 gMn (by omega) gT; have b5 : (b 69 5).toInt < 512 := (by rw [gRB.2.2.2.2.1.1]; exact GW_512 r_GW ws0.2.2.2.2.1 (by omega) (by omega) (by omega)); exact ⟨(aSp 512 (aCm (aGr b (m 100 l2.toNatClampNeg)) (m 100 l2.toNatClampNeg))), (m 100 l2.toNatClampNeg), RB_of p4_m1 (Of_tr (gr_cm (y := (m 100 l2.toNatClampNeg)) (E0_gr (y := (m 100 l2.toNatClampNeg)) gE0).1).2.1 (E0_sp (gr_cm (y := (m 100 l2.toNatClampNeg)) (E0_gr (y := (m 100 l2.toNatClampNeg)) gE0).1).1).2), KB_nx p4_m1 (KB_gr gKB) (E0_gr gE0) (by omega) (by omega) ws0.2.2.1 p2_m3 (by omega) p1_m3 (by decide), (E0_sp (gr_cm (y := (m 100 l2.toNatClampNeg)) (E0_gr (y := (m 100 l2.toNatClampNeg)) gE0).1).1).1, qI_of p5_m1 (Of_tr (gr_cm (y := (m 100 l2.toNatClampNeg)) (E0_gr (y := (m 100 l2.toNatClampNeg)) gE0).1).2.1 (E0_sp (gr_cm (y := (m 100 l2.toNatClampNeg)) (E0_gr (y := (m 100 l2.toNatClampNeg)) gE0).1).1).2), Cl_nx gCL gE0 b5 gQI.2.2.2.1.2.1.1 (R1_al gRB.1 (by omega) ws0.2.2.1) (by omega), ⟨nx.2.2, by rw [sp_6]; exact nx.2.1⟩, p1_m5, nx.1⟩; done) | (exfalso; omega; done) | (exfalso; contradiction; done))
      · skip
        have g17 := i_nlt h11
        have hg18 : (0 ≤ l2 ∧ l2.toNatClampNeg < 3100) := i_ix (by omega) (by omega)
        refine ⟨hg18, ?_⟩
        first | have f19 : 0 ≤ (m 110 l2.toNatClampNeg).toInt ∧ (m 110 l2.toNatClampNeg).toInt ≤ 1 := ra_110 (m := m) hV (k := l2.toNatClampNeg) (i_ix (n := 3100) (by omega) (by omega)).2 | have b20 := i_bd (m 110 l2.toNatClampNeg)
        refine zd (fun (h21 : (m 110 l2.toNatClampNeg) = (0 : Int32)) => ?_) (fun (h21 : ¬ (m 110 l2.toNatClampNeg) = (0 : Int32)) => ?_)
        · skip
          have g22 := i_eq h21
          have hg23 : (0 ≤ l2 ∧ l2.toNatClampNeg < 3100) := i_ix (by omega) (by omega)
          refine ⟨hg23, ?_⟩
          have hg24 : (0 ≤ (m 94 73) ∧ (m 94 73).toNatClampNeg < 3100) := i_ix (by omega) (by omega)
          refine ⟨hg24, ?_⟩
          have li26 : (1 : Int32).toInt = 1 := rfl
          have hV25 : zV (ma_u (zov wr_197 m m1) 110 l2.toNatClampNeg (1 : Int32)) := ua_110 hV_m1 (by omega) (by omega)
          have hV27 : zV (ma_u (ma_u (zov wr_197 m m1) 110 l2.toNatClampNeg (1 : Int32)) 118 (m 94 73).toNatClampNeg l2) := ua_118 hV25 (by omega) (by omega)
          first | have e29 : ((m 94 73) + (1 : Int32)).toInt = (m 94 73).toInt + (1) := i_addk rfl (by omega) (by omega) | have b30 := i_bd ((m 94 73) + (1 : Int32))
          have hV28 : zV (ma_u (ma_u (ma_u (zov wr_197 m m1) 110 l2.toNatClampNeg (1 : Int32)) 118 (m 94 73).toNatClampNeg l2) 94 73 ((m 94 73) + (1 : Int32))) := us_94_73 hV27 (by omega) (by omega)
          try have ws0 := WS_ge r_WS (by omega)
          refine sp_191r (aa := (aGr b (m 100 l2.toNatClampNeg))) (QQ := (qQ (aGr b (m 100 l2.toNatClampNeg)) (m 100 l2.toNatClampNeg))) (DD := (zNn (aGr b (m 100 l2.toNatClampNeg))))  hV28 (show zKS ((ma_u m 110 l2.toNatClampNeg (1 : Int32)) 110) ((m 94 73) + (1 : Int32)) from by first | (exact KS_push (KS_0 (r := m 110) (y := m 94 73) (by omega)) (by assumption) (by omega) (by decide) (by assumption)) | (exfalso; omega; done) | (exfalso; contradiction; done)) r_W (show qRB (m 99) (m 100) (m 98) (m 101) (m 102) (m 103) (m 107) (m 108) (m1 109) (m 111) (m 112) (m1 113) (m1 114) (m1 94 55) (m 94 46) (m 94 11) (m 94 12) (m 94 62) (m 94 17) (m 94 9) (aGr b (m 100 l2.toNatClampNeg)) from by first | (exact p4_m1) | (exfalso; omega; done) | (exfalso; contradiction; done)) (show qQC (m 99) (m 100) (m 98) (m 101) (m 102) (m 108) (qQ (aGr b (m 100 l2.toNatClampNeg)) (m 100 l2.toNatClampNeg)) (zNn (aGr b (m 100 l2.toNatClampNeg))) from by first | (exact QC_M p4_m1) | (exfalso; omega; done) | (exfalso; contradiction; done)) (show qKA ((ma_u m 110 l2.toNatClampNeg (1 : Int32)) 110) (m 99) (m 100) (m 98) (m 101) (m 102) (m 108) ((ma_u m 118 (m 94 73).toNatClampNeg l2) 118) ((m 94 73) + (1 : Int32)) (qQ (aGr b (m 100 l2.toNatClampNeg)) (m 100 l2.toNatClampNeg)) (zNn (aGr b (m 100 l2.toNatClampNeg))) 3100 0 from by first | (exact absurd ws0.2.2.2.1 (by assumption)) | (exact KA_push (KA_b (KB_gr gKB) (by omega)) (by omega) (by omega) ws0.2.2.1 (zM_in (Or.inr rfl)) (by assumption) (by omega) (by omega) (by decide)) | (exfalso; omega; done) | (exfalso; contradiction; done)) (fun m7 hV_m7 p0_m7 p1_m7 p2_m7 => zmv_n ?_)
          have p0_m7 : (m7 94 73).toInt = 0 := p0_m7
          have p1_m7 : zle ((ma_u m 110 l2.toNatClampNeg (1 : Int32)) 110) (m7 110) := p1_m7
          have p2_m7 : qKA (m7 110) (m 99) (m 100) (m 98) (m 101) (m 102) (m 108) (m7 118) (m7 94 73) (qQ (aGr b (m 100 l2.toNatClampNeg)) (m 100 l2.toNatClampNeg)) (zNn (aGr b (m 100 l2.toNatClampNeg))) 3100 0 := p2_m7
          have f31 : 0 ≤ (m7 94 73).toInt ∧ (m7 94 73).toInt ≤ 3100 := rs_94_73 (m := (zov wr_191 (ma_u (ma_u (ma_u (zov wr_197 m m1) 110 l2.toNatClampNeg (1 : Int32)) 118 (m 94 73).toNatClampNeg l2) 94 73 ((m 94 73) + (1 : Int32))) m7)) hV_m7
          first | have f32 : 0 ≤ (m 100 l2.toNatClampNeg).toInt ∧ (m 100 l2.toNatClampNeg).toInt ≤ 100000 := ra_100 (m := m) hV (k := l2.toNatClampNeg) (i_ix (n := 3100) (by omega) (by omega)).2 | have b33 := i_bd (m 100 l2.toNatClampNeg)
          try have ws0 := WS_ge r_WS (by omega)
          refine sp_195r ((m 100 l2.toNatClampNeg)) ((0 : Int32)) hV_m7 (by omega) (fun v10 m9 hV_m9 p0_m9 p1_m9 => zmi_n ?_)
          have p0_m9 : zWS (m 100) (m 99) (m7 110) (m1 109) (m 100 l2.toNatClampNeg) v10 := p0_m9
          have p1_m9 : qMin (qCw (m 99) (m7 110) (m1 109) (m 100) (m 100 l2.toNatClampNeg)) (m 100) v10 3100 := p1_m9
          try have gw := GW_room p0_m1
          try have ws0 := WS_ge r_WS (by omega)
          have b34 := i_bd v10
          exact IH ((zmg (m 100) v10 : Int)).toNat (by have zq := zmg_lt (s := l2) (by omega) p0_m9 rfl (by omega) (by omega); omega) _ (v10) rfl (zF_zov (zF_zov (zF_u (zF_u (zF_u (zF_zov hF ws_197_194) rfl) rfl) rfl) ws_191_194) ws_195_194) hV_m9 (by omega) (show (m 94 10).toInt ≠ 4 from by omega) (show (m7 94 73).toInt = 0 from by omega) (show zWS (m 100) (m 99) (m7 110) (m1 109) (-1 : Int32) v10 from by first | (exact WS_weak p0_m9 (by omega)) | (exact p0_m9) | (exact Or.inl (by decide)) | (exact Or.inr ⟨by omega, by omega, by assumption, by assumption, by assumption, by omega⟩) | (exfalso; omega; done) | (exfalso; contradiction; done)) r_W p0_m1 (show zuw (m0 113) (m1 113) from by first | (exact zuw_tr r_UW p1_m1) | (exact zuw_rfl) | (exfalso; omega; done) | (exfalso; contradiction; done)) (show qGL (m 99) (m 100) (m 98) (m 101) (m 102) (m 103) (m 107) (m 108) (m1 109) (m 111) (m 112) (m1 113) (m1 114) (m1 94 55) (m 94 46) (m 94 11) (m 94 12) (m 94 62) (m 94 17) (m 94 9) (m7 110) v10 (aGw aa 0) from by first | (exact absurd ws0.2.2.2.1 (by assumption)) | (have nx := GL_nx gRB gQI gE0 gKB gl.1 gl.2 gMn (by omega) gT; have b5 : (b 69 5).toInt < 512 := (by rw [gRB.2.2.2.2.1.1]; exact GW_512 r_GW ws0.2.2.2.2.1 (by omega) (by omega) (by omega)); exact ⟨(aSp 512 (aCm (aGr b (m 100 l2.toNatClampNeg)) (m 100 l2.toNatClampNeg))), (m 100 l2.toNatClampNeg), RB_of p4_m1 (Of_tr (gr_cm (y := (m 100 l2.toNatClampNeg)) (E0_gr (y := (m 100 l2.toNatClampNeg)) gE0).1).2.1 (E0_sp (gr_cm (y := (m 100 l2.toNatClampNeg)) (E0_gr (y := (m 100 l2.toNatClampNeg)) gE0).1).1).2), KB_nx p4_m1 (KB_gr gKB) (E0_gr gE0) (by omega) (by omega) ws0.2.2.1 p2_m7 (by omega) p1_m7 (by decide), (E0_sp (gr_cm (y := (m 100 l2.toNatClampNeg)) (E0_gr (y := (m 100 l2.toNatClampNeg)) gE0).1).1).1, qI_of p5_m1 (Of_tr (gr_cm (y := (m 100 l2.toNatClampNeg)) (E0_gr (y := (m 100 l2.toNatClampNeg)) gE0).1).2.1 (E0_sp (gr_cm (y := (m 100 l2.toNatClampNeg)) (E0_gr (y := (m 100 l2.toNatClampNeg)) gE0).1).1).2), Cl_nx gCL gE0 b5 gQI.2.2.2.1.2.1.1 (R1_al gRB.1 (by omega) ws0.2.2.1) (by omega), ⟨nx.2.2, by rw [sp_6]; exact nx.2.1⟩, p1_m9, nx.1⟩; done) | (exfalso; omega; done) | (exfalso; contradiction; done))
        · skip
          have g35 := i_ne h21
          try have ws0 := WS_ge r_WS (by omega)
          refine sp_191r (aa := (aGr b (m 100 l2.toNatClampNeg))) (QQ := (qQ (aGr b (m 100 l2.toNatClampNeg)) (m 100 l2.toNatClampNeg))) (DD := (zNn (aGr b (m 100 l2.toNatClampNeg))))  hV_m1 (show zKS (m 110) (m 94 73) from by first | (exact KS_0 (by omega)) | (exfalso; omega; done) | (exfalso; contradiction; done)) r_W (show qRB (m 99) (m 100) (m 98) (m 101) (m 102) (m 103) (m 107) (m 108) (m1 109) (m 111) (m 112) (m1 113) (m1 114) (m1 94 55) (m 94 46) (m 94 11) (m 94 12) (m 94 62) (m 94 17) (m 94 9) (aGr b (m 100 l2.toNatClampNeg)) from by first | (exact p4_m1) | (exfalso; omega; done) | (exfalso; contradiction; done)) (show qQC (m 99) (m 100) (m 98) (m 101) (m 102) (m 108) (qQ (aGr b (m 100 l2.toNatClampNeg)) (m 100 l2.toNatClampNeg)) (zNn (aGr b (m 100 l2.toNatClampNeg))) from by first | (exact QC_M p4_m1) | (exfalso; omega; done) | (exfalso; contradiction; done)) (show qKA (m 110) (m 99) (m 100) (m 98) (m 101) (m 102) (m 108) (m 118) (m 94 73) (qQ (aGr b (m 100 l2.toNatClampNeg)) (m 100 l2.toNatClampNeg)) (zNn (aGr b (m 100 l2.toNatClampNeg))) 3100 0 from by first | (exact absurd ws0.2.2.2.1 (by assumption)) | (exact KA_push (KA_b (KB_gr gKB) (by omega)) (by omega) (by omega) ws0.2.2.1 (zM_in (Or.inr rfl)) (by assumption) (by omega) (by omega) (by decide)) | (exfalso; omega; done) | (exfalso; contradiction; done)) (fun m11 hV_m11 p0_m11 p1_m11 p2_m11 => zmv_n ?_)
          have p0_m11 : (m11 94 73).toInt = 0 := p0_m11
          have p1_m11 : zle (m 110) (m11 110) := p1_m11
          have p2_m11 : qKA (m11 110) (m 99) (m 100) (m 98) (m 101) (m 102) (m 108) (m11 118) (m11 94 73) (qQ (aGr b (m 100 l2.toNatClampNeg)) (m 100 l2.toNatClampNeg)) (zNn (aGr b (m 100 l2.toNatClampNeg))) 3100 0 := p2_m11
          have f36 : 0 ≤ (m11 94 73).toInt ∧ (m11 94 73).toInt ≤ 3100 := rs_94_73 (m := (zov wr_191 (zov wr_197 m m1) m11)) hV_m11
          first | have f37 : 0 ≤ (m 100 l2.toNatClampNeg).toInt ∧ (m 100 l2.toNatClampNeg).toInt ≤ 100000 := ra_100 (m := m) hV (k := l2.toNatClampNeg) (i_ix (n := 3100) (by omega) (by omega)).2 | have b38 := i_bd (m 100 l2.toNatClampNeg)
          try have ws0 := WS_ge r_WS (by omega)
          refine sp_195r ((m 100 l2.toNatClampNeg)) ((0 : Int32)) hV_m11 (by omega) (fun v14 m13 hV_m13 p0_m13 p1_m13 => zmi_n ?_)
          have p0_m13 : zWS (m 100) (m 99) (m11 110) (m1 109) (m 100 l2.toNatClampNeg) v14 := p0_m13
          have p1_m13 : qMin (qCw (m 99) (m11 110) (m1 109) (m 100) (m 100 l2.toNatClampNeg)) (m 100) v14 3100 := p1_m13
          try have gw := GW_room p0_m1
          try have ws0 := WS_ge r_WS (by omega)
          have b39 := i_bd v14
          exact IH ((zmg (m 100) v14 : Int)).toNat (by have zq := zmg_lt (s := l2) (by omega) p0_m13 rfl (by omega) (by omega); omega) _ (v14) rfl (zF_zov (zF_zov (zF_zov hF ws_197_194) ws_191_194) ws_195_194) hV_m13 (by omega) (show (m 94 10).toInt ≠ 4 from by omega) (show (m11 94 73).toInt = 0 from by omega) (show zWS (m 100) (m 99) (m11 110) (m1 109) (-1 : Int32) v14 from by first | (exact WS_weak p0_m13 (by omega)) | (exact p0_m13) | (exact Or.inl (by decide)) | (exact Or.inr ⟨by omega, by omega, by assumption, by assumption, by assumption, by omega⟩) | (exfalso; omega; done) | (exfalso; contradiction; done)) r_W p0_m1 (show zuw (m0 113) (m1 113) from by first | (exact zuw_tr r_UW p1_m1) | (exact zuw_rfl) | (exfalso; omega; done) | (exfalso; contradiction; done)) (show qGL (m 99) (m 100) (m 98) (m 101) (m 102) (m 103) (m 107) (m 108) (m1 109) (m 111) (m 112) (m1 113) (m1 114) (m1 94 55) (m 94 46) (m 94 11) (m 94 12) (m 94 62) (m 94 17) (m 94 9) (m11 110) v14 (aGw aa 0) from by first | (exact absurd ws0.2.2.2.1 (by assumption)) | (have nx := GL_nx gRB gQI gE0 gKB gl.1 gl.2 gMn (by omega) gT; have b5 : (b 69 5).toInt < 512 := (by rw [gRB.2.2.2.2.1.1]; exact GW_512 r_GW ws0.2.2.2.2.1 (by omega) (by omega) (by omega)); exact ⟨(aSp 512 (aCm (aGr b (m 100 l2.toNatClampNeg)) (m 100 l2.toNatClampNeg))), (m 100 l2.toNatClampNeg), RB_of p4_m1 (Of_tr (gr_cm (y := (m 100 l2.toNatClampNeg)) (E0_gr (y := (m 100 l2.toNatClampNeg)) gE0).1).2.1 (E0_sp (gr_cm (y := (m 100 l2.toNatClampNeg)) (E0_gr (y := (m 100 l2.toNatClampNeg)) gE0).1).1).2), KB_nx p4_m1 (KB_gr gKB) (E0_gr gE0) (by omega) (by omega) ws0.2.2.1 p2_m11 (by omega) p1_m11 (by decide), (E0_sp (gr_cm (y := (m 100 l2.toNatClampNeg)) (E0_gr (y := (m 100 l2.toNatClampNeg)) gE0).1).1).1, qI_of p5_m1 (Of_tr (gr_cm (y := (m 100 l2.toNatClampNeg)) (E0_gr (y := (m 100 l2.toNatClampNeg)) gE0).1).2.1 (E0_sp (gr_cm (y := (m 100 l2.toNatClampNeg)) (E0_gr (y := (m 100 l2.toNatClampNeg)) gE0).1).1).2), Cl_nx gCL gE0 b5 gQI.2.2.2.1.2.1.1 (R1_al gRB.1 (by omega) ws0.2.2.1) (by omega), ⟨nx.2.2, by rw [sp_6]; exact nx.2.1⟩, p1_m13, nx.1⟩; done) | (exfalso; omega; done) | (exfalso; contradiction; done))
set_option maxHeartbeats 8000000 in
theorem sp_194rn {X : Nat × (Nat → Int32)} {P : Option ma_V → (Nat → Nat → Int32) → Prop} {T : Nat} {aa : Nat→Nat→Int32} {m : Nat → Nat → Int32}  (hV : zV m) (hpre0 : T ≤ 512) (hpre1 : (m 94 10).toInt ≠ 4) (hpre2 : (m 94 73).toInt = 0) (r_W : zW (m 94 7) (m 98) (m 101) (m 102) (m 108)) (r_GW : zGW T (m 94 55) (m 109)) (r_RB : qRB (m 99) (m 100) (m 98) (m 101) (m 102) (m 103) (m 107) (m 108) (m 109) (m 111) (m 112) (m 113) (m 114) (m 94 55) (m 94 46) (m 94 11) (m 94 12) (m 94 62) (m 94 17) (m 94 9) aa) (r_QI : qI aa) (r_KB : qKB (m 110) (m 99) (m 100) aa) (r_E0 : qE0 aa) (r_CLr : qCl aa) (KZ : ∀ m₉, zV (zov wr_194 m m₉) → ((m₉ 94 73).toInt = 0) → (zGW T (m₉ 94 55) (m₉ 109)) → (zuw (m 113) (m₉ 113)) → (qRB (m 99) (m 100) (m 98) (m 101) (m 102) (m 103) (m 107) (m 108) (m₉ 109) (m 111) (m 112) (m₉ 113) (m₉ 114) (m₉ 94 55) (m 94 46) (m 94 11) (m 94 12) (m 94 62) (m 94 17) (m 94 9) (aGw aa 0)) → (qI (aGw aa 0)) → (qKB (m₉ 110) (m 99) (m 100) (aGw aa 0)) → (qE0 (aGw aa 0)) → (qCl (aGw aa 0)) → P none (zov wr_194 m m₉)) : zm X 3 66 194 0 [(0, .inr (.inr (some 94)))] m P := by
  have K : ∀ m₉, zF wr_194 m m₉ → zV m₉ → ((m₉ 94 73).toInt = 0) → (zGW T (m₉ 94 55) (m₉ 109)) → (zuw (m 113) (m₉ 113)) → (qRB (m₉ 99) (m₉ 100) (m₉ 98) (m₉ 101) (m₉ 102) (m₉ 103) (m₉ 107) (m₉ 108) (m₉ 109) (m₉ 111) (m₉ 112) (m₉ 113) (m₉ 114) (m₉ 94 55) (m₉ 94 46) (m₉ 94 11) (m₉ 94 12) (m₉ 94 62) (m₉ 94 17) (m₉ 94 9) (aGw aa 0)) → (qI (aGw aa 0)) → (qKB (m₉ 110) (m₉ 99) (m₉ 100) (aGw aa 0)) → (qE0 (aGw aa 0)) → (qCl (aGw aa 0)) → P none m₉ := by
    intro m₉ hf z q0 q1 q2 q3 q4 q5 q6 q7
    have e := zov_eq hf
    rw [e] at z ⊢
    try rw [e] at q0
    try rw [e] at q1
    try rw [e] at q2
    try rw [e] at q3
    try rw [e] at q4
    try rw [e] at q5
    try rw [e] at q6
    try rw [e] at q7
    exact KZ m₉ z q0 q1 q2 q3 q4 q5 q6 q7
  refine g_194_0  ?_
  have f1 : 0 ≤ (m 94 10).toInt ∧ (m 94 10).toInt ≤ 6 := rs_94_10 (m := m) hV
  have f2 : 0 ≤ (m 94 73).toInt ∧ (m 94 73).toInt ≤ 3100 := rs_94_73 (m := m) hV
  have li3 : (-1 : Int32).toInt = -1 := rfl
  have li4 : (0 : Int32).toInt = 0 := rfl
  try have ws0 := WS_ge r_WS (by omega)
  refine sp_195r ((-1 : Int32)) ((0 : Int32)) hV (by omega) (fun v2 m1 hV_m1 p0_m1 p1_m1 => zmi_n ?_)
  have p0_m1 : zWS (m 100) (m 99) (m 110) (m 109) (-1 : Int32) v2 := p0_m1
  have p1_m1 : qMin (qCw (m 99) (m 110) (m 109) (m 100) (-1 : Int32)) (m 100) v2 3100 := p1_m1
  try have gw := GW_room r_GW
  try have ws0 := WS_ge r_WS (by omega)
  have b5 := i_bd v2
  exact lp_194rn_9 hV K _ _ (v2) rfl (zF_zov zF_rfl ws_195_194) hV_m1 (by omega) (show (m 94 10).toInt ≠ 4 from by omega) (show (m 94 73).toInt = 0 from by omega) p0_m1 r_W r_GW (show zuw (m 113) (m 113) from by first | (exact zuw_rfl) | (exact zuw_rfl) | (exfalso; omega; done) | (exfalso; contradiction; done)) (show qGL (m 99) (m 100) (m 98) (m 101) (m 102) (m 103) (m 107) (m 108) (m 109) (m 111) (m 112) (m 113) (m 114) (m 94 55) (m 94 46) (m 94 11) (m 94 12) (m 94 62) (m 94 17) (m 94 9) (m 110) v2 (aGw aa 0) from by first | (exact ⟨aa, -1, r_RB, r_KB, r_E0, r_QI, r_CLr, ⟨by decide, by have := r_QI.2.2.2.1.1.1; have e1 : (-1 : Int32).toInt = -1 := rfl; omega⟩, p1_m1, rfl⟩) | (exfalso; omega; done) | (exfalso; contradiction; done))

/-! from 95.l01 -/
/-! the reference where it sweeps (written by wip/tools/gen20r.py) -/
theorem lp_200rn_50 {X : Nat × (Nat → Int32)} {P : Option ma_V → (Nat → Nat → Int32) → Prop} {T : Nat} {m0 : Nat → Nat → Int32} (h0 : zV m0) (K : ∀ v m₉, zF wr_200 m0 m₉ → zV m₉ → (zrm (m0 99) (m₉ 99) (m₉ 110) 3100) → (zowr (m0 111) (m₉ 111) (m0 99) (m₉ 110) (m₉ 103)) → (zGU T (m₉ 94 46) (m₉ 99)) → (zOw (m₉ 99) (m₉ 103) (m₉ 111)) → ((m₉ 94 45).toInt = sm (zbU (m₉ 99)) (m₉ 102) 3100) → P (some (.inl v)) m₉) {n4 : Nat} (OUT4 : ∀ (m₉ : Nat → Nat → Int32) (l1 : Int32) (l2 : Int32), (3100 - l2.toInt).toNat < n4 → zF wr_200 m0 m₉ → zV m₉ → (0 ≤ l2.toInt) → ((m₉ 94 10).toInt ≠ 4) → (zW (m₉ 94 7) (m₉ 98) (m₉ 101) (m₉ 102) (m₉ 108)) → (zGU T (m₉ 94 46) (m₉ 99)) → (zOw (m₉ 99) (m₉ 103) (m₉ 111)) → (zrm (m0 99) (m₉ 99) (m₉ 110) l2.toNatClampNeg) → (zowr (m0 111) (m₉ 111) (m0 99) (m₉ 110) (m₉ 103)) → ((m₉ 94 45).toInt = sm (zbU (m₉ 99)) (m₉ 102) 3100) → zm X 2 44 200 4 [(0, .inr (.inr (some 94))), (1, .inl l1), (2, .inl l2)] m₉ P) : ∀ (n : Nat) (m : Nat → Nat → Int32) (l1 : Int32) (l2 : Int32) (l3 : Int32), (61 - l3.toInt).toNat = n → zF wr_200 m0 m → zV m → (0 ≤ l2.toInt) → (l2.toInt ≤ 3099) → (0 ≤ l3.toInt) → ((m 94 10).toInt ≠ 4) → ((m 94 10).toInt = 4) → ((3100 - l2.toInt).toNat = n4) → (zW (m 94 7) (m 98) (m 101) (m 102) (m 108)) → (zGU T (m 94 46) (m 99)) → (zOw (m 99) (m 103) (m 111)) → (zrm (m0 99) (m 99) (m 110) l2.toNatClampNeg) → (zowr (m0 111) (m 111) (m0 99) (m 110) (m 103)) → ((m 99) l2.toNatClampNeg ≠ 0 ∧ (m 110) l2.toNatClampNeg = 0) → ((m 94 45).toInt = sm (zbU (m 99)) (m 102) 3100) → zm X 2 44 200 50 [(0, .inr (.inr (some 94))), (1, .inl l1), (2, .inl l2), (3, .inl l3)] m P := by
  intro n
  induction n using Nat.strongRecOn with
  | _ n IH =>
    intro m l1 l2 l3 hmu hF hV hi0 hi1 hi2 hi3 hi4 hi5 r_W r_GU r_OW r_RM r_OWR r_UK r_WTS
    refine g_200_50 l1 l2 l3 ?_
    have f1 : 0 ≤ (m 94 10).toInt ∧ (m 94 10).toInt ≤ 6 := rs_94_10 (m := m) hV
    have b2 := i_bd l2
    have hg3 : (0 ≤ l2 ∧ l2.toNatClampNeg < 3100) := i_ix (by omega) (by omega)
    refine ⟨hg3, ?_⟩
    first | have f4 : 0 ≤ (m 102 l2.toNatClampNeg).toInt ∧ (m 102 l2.toNatClampNeg).toInt ≤ 60 := ra_102 (m := m) hV (k := l2.toNatClampNeg) (i_ix (n := 3100) (by omega) (by omega)).2 | have b5 := i_bd (m 102 l2.toNatClampNeg)
    have b6 := i_bd l3
    refine zd (fun (h7 : (m 102 l2.toNatClampNeg) ≤ l3) => ?_) (fun (h7 : ¬ (m 102 l2.toNatClampNeg) ≤ l3) => ?_)
    · skip
      have g8 := i_le h7
      have hg9 : (0 ≤ l2 ∧ l2.toNatClampNeg < 3100) := i_ix (by omega) (by omega)
      refine ⟨hg9, ?_⟩
      have hg10 : (0 ≤ l2 ∧ l2.toNatClampNeg < 3100) := i_ix (by omega) (by omega)
      refine ⟨hg10, ?_⟩
      first | have f11 : 0 ≤ (m 103 l2.toNatClampNeg).toInt ∧ (m 103 l2.toNatClampNeg).toInt ≤ 4599 := ra_103 (m := m) hV (k := l2.toNatClampNeg) (i_ix (n := 3100) (by omega) (by omega)).2 | have b12 := i_bd (m 103 l2.toNatClampNeg)
      have hg13 : (0 ≤ (m 103 l2.toNatClampNeg) ∧ (m 103 l2.toNatClampNeg).toNatClampNeg < 4600) := i_ix (by omega) (by omega)
      refine ⟨hg13, ?_⟩
      have hg14 : (0 ≤ l2 ∧ l2.toNatClampNeg < 3100) := i_ix (by omega) (by omega)
      refine ⟨hg14, ?_⟩
      have hg15 : (0 ≤ l2 ∧ l2.toNatClampNeg < 3100) := i_ix (by omega) (by omega)
      refine ⟨hg15, ?_⟩
      have li17 : (0 : Int32).toInt = 0 := rfl
      have hV16 : zV (ma_u m 99 l2.toNatClampNeg (0 : Int32)) := ua_99 hV (by omega) (by omega)
      have li19 : (-1 : Int32).toInt = -1 := rfl
      have hV18 : zV (ma_u (ma_u m 99 l2.toNatClampNeg (0 : Int32)) 111 (m 103 l2.toNatClampNeg).toNatClampNeg (-1 : Int32)) := ua_111 hV16 (by omega) (by omega)
      have hV20 : zV (ma_u (ma_u (ma_u m 99 l2.toNatClampNeg (0 : Int32)) 111 (m 103 l2.toNatClampNeg).toNatClampNeg (-1 : Int32)) 94 44 ((m 94 44) - (1 : Int32))) := uf_94_44 hV18
      have hV21 : zV (ma_u (ma_u (ma_u (ma_u m 99 l2.toNatClampNeg (0 : Int32)) 111 (m 103 l2.toNatClampNeg).toNatClampNeg (-1 : Int32)) 94 44 ((m 94 44) - (1 : Int32))) 94 45 ((m 94 45) - ((m 102 l2.toNatClampNeg) + (1 : Int32)))) := uf_94_45 hV20
      have hV22 : zV (ma_u (ma_u (ma_u (ma_u (ma_u m 99 l2.toNatClampNeg (0 : Int32)) 111 (m 103 l2.toNatClampNeg).toNatClampNeg (-1 : Int32)) 94 44 ((m 94 44) - (1 : Int32))) 94 45 ((m 94 45) - ((m 102 l2.toNatClampNeg) + (1 : Int32)))) 94 49 ((m 94 49) + ((m 102 l2.toNatClampNeg) + (1 : Int32)))) := uf_94_49 hV21
      have b23 := i_bd l1
      first | have e24 : (l2 + (1 : Int32)).toInt = l2.toInt + (1) := i_addk rfl (by omega) (by omega) | have b25 := i_bd (l2 + (1 : Int32))
      exact OUT4 _ (l1) ((l2 + (1 : Int32))) (show (3100 - (l2 + (1 : Int32)).toInt).toNat < n4 from by omega) (zF_u (zF_u (zF_u (zF_u (zF_u hF rfl) rfl) rfl) rfl) rfl) hV22 (by omega) (show (m 94 10).toInt ≠ 4 from by omega) r_W (show zGU T (m 94 46) ((ma_u m 99 l2.toNatClampNeg (0 : Int32)) 99) from by first | (exact GU_0 r_GU) | (exfalso; omega; done) | (exfalso; contradiction; done)) (show zOw ((ma_u m 99 l2.toNatClampNeg (0 : Int32)) 99) (m 103) ((ma_u m 111 (m 103 l2.toNatClampNeg).toNatClampNeg (-1 : Int32)) 111) from by first | (exact Ow_rm r_OW (by decide) (tn_cast (by omega)).symm) | (exfalso; omega; done) | (exfalso; contradiction; done)) (show zrm (m0 99) ((ma_u m 99 l2.toNatClampNeg (0 : Int32)) 99) (m 110) (l2 + (1 : Int32)).toNatClampNeg from by first | (exact rm_put r_RM (by assumption) (tn_succ (by omega) (by omega))) | (exact rm_put r_RM r_UK.2 (tn_succ (by omega) (by omega))) | (exfalso; omega; done) | (exfalso; contradiction; done)) (show zowr (m0 111) ((ma_u m 111 (m 103 l2.toNatClampNeg).toNatClampNeg (-1 : Int32)) 111) (m0 99) (m 110) (m 103) from by first | (exact owr_put r_OWR (s := l2.toNatClampNeg) (by omega) (rm_us r_RM (by omega) (by assumption)) (by assumption) (by decide) (tn_cast (by omega)).symm) | (exact owr_put r_OWR (s := l2.toNatClampNeg) (by omega) (rm_us r_RM (by omega) r_UK.1) r_UK.2 (by decide) (tn_cast (by omega)).symm) | (exfalso; omega; done) | (exfalso; contradiction; done)) (show ((m 94 45) - ((m 102 l2.toNatClampNeg) + (1 : Int32))).toInt = sm (zbU ((ma_u m 99 l2.toNatClampNeg (0 : Int32)) 99)) (m 102) 3100 from by first | (exact WT_rm r_WTS (by omega) (by assumption) (fun t ht => ra_102 hV ht)) | (exfalso; omega; done) | (exfalso; contradiction; done))
    · skip
      have g26 := i_nle h7
      refine sp_192 (l2) (l3) hV (by omega) (by omega) (by omega) (show l3.toInt < (m 102 l2.toNatClampNeg).toInt from by omega) (fun v2 m1 hV_m1 p0_m1 => zmi_n ?_)
      have p0_m1 : v2 = zrf (m 98) (m 101) (m 108) l2.toNatClampNeg l3.toNatClampNeg := p0_m1
      try have := W_ref r_W (by omega) (by omega) (by omega) (by omega) p0_m1
      have b27 := i_bd v2
      have li28 : (0 : Int32).toInt = 0 := rfl
      refine zd (fun (h29 : v2 < (0 : Int32)) => ?_) (fun (h29 : ¬ v2 < (0 : Int32)) => ?_)
      · skip
        have g30 := i_lt h29
        have b31 := i_bd l1
        first | have e32 : (l3 + (1 : Int32)).toInt = l3.toInt + (1) := i_addk rfl (by omega) (by omega) | have b33 := i_bd (l3 + (1 : Int32))
        exact IH (61 - (l3 + (1 : Int32)).toInt).toNat (by omega) _ (l1) (l2) ((l3 + (1 : Int32))) rfl (zF_zov hF ws_192_200) hV_m1 (by omega) (by omega) (by omega) (show (m 94 10).toInt ≠ 4 from by omega) (show (m 94 10).toInt = 4 from by omega) (by omega) r_W r_GU r_OW r_RM r_OWR r_UK r_WTS
      · skip
        have g34 := i_nlt h29
        have hg35 : (0 ≤ v2 ∧ v2.toNatClampNeg < 3100) := i_ix (by omega) (by omega)
        refine ⟨hg35, ?_⟩
        first | have f36 : 0 ≤ (m 110 v2.toNatClampNeg).toInt ∧ (m 110 v2.toNatClampNeg).toInt ≤ 1 := ra_110 (m := m) hV (k := v2.toNatClampNeg) (i_ix (n := 3100) (by omega) (by omega)).2 | have b37 := i_bd (m 110 v2.toNatClampNeg)
        refine zd (fun (h38 : (m 110 v2.toNatClampNeg) = (0 : Int32)) => ?_) (fun (h38 : ¬ (m 110 v2.toNatClampNeg) = (0 : Int32)) => ?_)
        · skip
          have g39 := i_eq h38
          have b40 := i_bd l1
          first | have e41 : (l3 + (1 : Int32)).toInt = l3.toInt + (1) := i_addk rfl (by omega) (by omega) | have b42 := i_bd (l3 + (1 : Int32))
          exact IH (61 - (l3 + (1 : Int32)).toInt).toNat (by omega) _ (l1) (l2) ((l3 + (1 : Int32))) rfl (zF_zov hF ws_192_200) hV_m1 (by omega) (by omega) (by omega) (show (m 94 10).toInt ≠ 4 from by omega) (show (m 94 10).toInt = 4 from by omega) (by omega) r_W r_GU r_OW r_RM r_OWR r_UK r_WTS
        · skip
          have g43 := i_ne h38
          have hg44 : (0 ≤ v2 ∧ v2.toNatClampNeg < 3100) := i_ix (by omega) (by omega)
          refine ⟨hg44, ?_⟩
          have hg45 : (0 ≤ v2 ∧ v2.toNatClampNeg < 3100) := i_ix (by omega) (by omega)
          refine ⟨hg45, ?_⟩
          have hV46 : zV (ma_u (zov wr_192 m m1) 105 v2.toNatClampNeg ((m 105 v2.toNatClampNeg) - (1 : Int32))) := ua_105 hV_m1
          have b47 := i_bd l1
          first | have e48 : (l3 + (1 : Int32)).toInt = l3.toInt + (1) := i_addk rfl (by omega) (by omega) | have b49 := i_bd (l3 + (1 : Int32))
          exact IH (61 - (l3 + (1 : Int32)).toInt).toNat (by omega) _ (l1) (l2) ((l3 + (1 : Int32))) rfl (zF_u (zF_zov hF ws_192_200) rfl) hV46 (by omega) (by omega) (by omega) (show (m 94 10).toInt ≠ 4 from by omega) (show (m 94 10).toInt = 4 from by omega) (by omega) r_W r_GU r_OW r_RM r_OWR r_UK r_WTS
theorem lp_200rn_4 {X : Nat × (Nat → Int32)} {P : Option ma_V → (Nat → Nat → Int32) → Prop} {T : Nat} {m0 : Nat → Nat → Int32} (h0 : zV m0) (K : ∀ v m₉, zF wr_200 m0 m₉ → zV m₉ → (zrm (m0 99) (m₉ 99) (m₉ 110) 3100) → (zowr (m0 111) (m₉ 111) (m0 99) (m₉ 110) (m₉ 103)) → (zGU T (m₉ 94 46) (m₉ 99)) → (zOw (m₉ 99) (m₉ 103) (m₉ 111)) → ((m₉ 94 45).toInt = sm (zbU (m₉ 99)) (m₉ 102) 3100) → P (some (.inl v)) m₉) : ∀ (n : Nat) (m : Nat → Nat → Int32) (l1 : Int32) (l2 : Int32), (3100 - l2.toInt).toNat = n → zF wr_200 m0 m → zV m → (0 ≤ l2.toInt) → ((m 94 10).toInt ≠ 4) → (zW (m 94 7) (m 98) (m 101) (m 102) (m 108)) → (zGU T (m 94 46) (m 99)) → (zOw (m 99) (m 103) (m 111)) → (zrm (m0 99) (m 99) (m 110) l2.toNatClampNeg) → (zowr (m0 111) (m 111) (m0 99) (m 110) (m 103)) → ((m 94 45).toInt = sm (zbU (m 99)) (m 102) 3100) → zm X 2 44 200 4 [(0, .inr (.inr (some 94))), (1, .inl l1), (2, .inl l2)] m P := by
  intro n
  induction n using Nat.strongRecOn with
  | _ n IH =>
    intro m l1 l2 hmu hF hV hi0 hi1 r_W r_GU r_OW r_RM r_OWR r_WTS
    refine g_200_4 l1 l2 ?_
    have f1 : 0 ≤ (m 94 10).toInt ∧ (m 94 10).toInt ≤ 6 := rs_94_10 (m := m) hV
    have li2 : (3100 : Int32).toInt = 3100 := rfl
    have b3 := i_bd l2
    refine zd (fun (h4 : (3100 : Int32) ≤ l2) => ?_) (fun (h4 : ¬ (3100 : Int32) ≤ l2) => ?_)
    · skip
      have g5 := i_le h4
      have b6 := i_bd l1
      exact K (l1) _ hF hV (show zrm (m0 99) (m 99) (m 110) 3100 from by first | (exact rm_end r_RM (by rw [tn_eq]; omega)) | (exfalso; omega; done) | (exfalso; contradiction; done)) r_OWR r_GU r_OW r_WTS
    · skip
      have g7 := i_nle h4
      have hg8 : (0 ≤ l2 ∧ l2.toNatClampNeg < 3100) := i_ix (by omega) (by omega)
      refine ⟨hg8, ?_⟩
      first | have f9 : 0 ≤ (m 99 l2.toNatClampNeg).toInt ∧ (m 99 l2.toNatClampNeg).toInt ≤ 1 := ra_99 (m := m) hV (k := l2.toNatClampNeg) (i_ix (n := 3100) (by omega) (by omega)).2 | have b10 := i_bd (m 99 l2.toNatClampNeg)
      have li11 : (0 : Int32).toInt = 0 := rfl
      refine zd (fun (h12 : (m 99 l2.toNatClampNeg) = (0 : Int32)) => ?_) (fun (h12 : ¬ (m 99 l2.toNatClampNeg) = (0 : Int32)) => ?_)
      · skip
        have g13 := i_eq h12
        have b14 := i_bd l1
        first | have e15 : (l2 + (1 : Int32)).toInt = l2.toInt + (1) := i_addk rfl (by omega) (by omega) | have b16 := i_bd (l2 + (1 : Int32))
        exact IH (3100 - (l2 + (1 : Int32)).toInt).toNat (by omega) _ (l1) ((l2 + (1 : Int32))) rfl hF hV (by omega) (show (m 94 10).toInt ≠ 4 from by omega) r_W r_GU r_OW (show zrm (m0 99) (m 99) (m 110) (l2 + (1 : Int32)).toNatClampNeg from by first | (exact rm_skip r_RM (Or.inl (by assumption)) (tn_succ (by omega) (by omega))) | (exact rm_skip r_RM (Or.inr (by assumption)) (tn_succ (by omega) (by omega))) | (exfalso; omega; done) | (exfalso; contradiction; done)) r_OWR r_WTS
      · skip
        have g17 := i_ne h12
        have hg18 : (0 ≤ l2 ∧ l2.toNatClampNeg < 3100) := i_ix (by omega) (by omega)
        refine ⟨hg18, ?_⟩
        first | have f19 : 0 ≤ (m 110 l2.toNatClampNeg).toInt ∧ (m 110 l2.toNatClampNeg).toInt ≤ 1 := ra_110 (m := m) hV (k := l2.toNatClampNeg) (i_ix (n := 3100) (by omega) (by omega)).2 | have b20 := i_bd (m 110 l2.toNatClampNeg)
        refine zd (fun (h21 : (m 110 l2.toNatClampNeg) = (0 : Int32)) => ?_) (fun (h21 : ¬ (m 110 l2.toNatClampNeg) = (0 : Int32)) => ?_)
        · skip
          have g22 := i_eq h21
          have hg23 : (0 ≤ l2 ∧ l2.toNatClampNeg < 3100) := i_ix (by omega) (by omega)
          refine ⟨hg23, ?_⟩
          have li24 : (4 : Int32).toInt = 4 := rfl
          refine zd (fun (h25 : (m 94 10) = (4 : Int32)) => ?_) (fun (h25 : ¬ (m 94 10) = (4 : Int32)) => ?_)
          · skip
            have g26 := i_eq h25
            have b27 := i_bd l1
            first | have f28 : 0 ≤ (m 102 l2.toNatClampNeg).toInt ∧ (m 102 l2.toNatClampNeg).toInt ≤ 60 := ra_102 (m := m) hV (k := l2.toNatClampNeg) (i_ix (n := 3100) (by omega) (by omega)).2 | have b29 := i_bd (m 102 l2.toNatClampNeg)
            first | have e30 : ((m 102 l2.toNatClampNeg) + (1 : Int32)).toInt = (m 102 l2.toNatClampNeg).toInt + (1) := i_addk rfl (by omega) (by omega) | have b31 := i_bd ((m 102 l2.toNatClampNeg) + (1 : Int32))
            first | have e32 : (l1 + ((m 102 l2.toNatClampNeg) + (1 : Int32))).toInt = l1.toInt + ((m 102 l2.toNatClampNeg) + (1 : Int32)).toInt := i_add (by omega) (by omega) | have b33 := i_bd (l1 + ((m 102 l2.toNatClampNeg) + (1 : Int32)))
            exact lp_200rn_50 h0 K (fun _ _ _ z1 z2 z3 y0 y1 y2 y3 y4 y5 y6 y7 => IH _ z1 _ _ _ rfl z2 z3 y0 y1 y2 y3 y4 y5 y6 y7) _ _ ((l1 + ((m 102 l2.toNatClampNeg) + (1 : Int32)))) (l2) ((0 : Int32)) rfl hF hV (by omega) (by omega) (by omega) (show (m 94 10).toInt ≠ 4 from by omega) (show (m 94 10).toInt = 4 from by omega) (by omega) r_W r_GU r_OW r_RM r_OWR (show (m 99) l2.toNatClampNeg ≠ 0 ∧ (m 110) l2.toNatClampNeg = 0 from by first | (exact ⟨by assumption, by assumption⟩) | (exfalso; omega; done) | (exfalso; contradiction; done)) r_WTS
          · skip
            have g34 := i_ne h25
            have hg35 : (0 ≤ l2 ∧ l2.toNatClampNeg < 3100) := i_ix (by omega) (by omega)
            refine ⟨hg35, ?_⟩
            have hg36 : (0 ≤ l2 ∧ l2.toNatClampNeg < 3100) := i_ix (by omega) (by omega)
            refine ⟨hg36, ?_⟩
            first | have f37 : 0 ≤ (m 103 l2.toNatClampNeg).toInt ∧ (m 103 l2.toNatClampNeg).toInt ≤ 4599 := ra_103 (m := m) hV (k := l2.toNatClampNeg) (i_ix (n := 3100) (by omega) (by omega)).2 | have b38 := i_bd (m 103 l2.toNatClampNeg)
            have hg39 : (0 ≤ (m 103 l2.toNatClampNeg) ∧ (m 103 l2.toNatClampNeg).toNatClampNeg < 4600) := i_ix (by omega) (by omega)
            refine ⟨hg39, ?_⟩
            have hg40 : (0 ≤ l2 ∧ l2.toNatClampNeg < 3100) := i_ix (by omega) (by omega)
            refine ⟨hg40, ?_⟩
            have hg41 : (0 ≤ l2 ∧ l2.toNatClampNeg < 3100) := i_ix (by omega) (by omega)
            refine ⟨hg41, ?_⟩
            have hV42 : zV (ma_u m 99 l2.toNatClampNeg (0 : Int32)) := ua_99 hV (by omega) (by omega)
            have li44 : (-1 : Int32).toInt = -1 := rfl
            have hV43 : zV (ma_u (ma_u m 99 l2.toNatClampNeg (0 : Int32)) 111 (m 103 l2.toNatClampNeg).toNatClampNeg (-1 : Int32)) := ua_111 hV42 (by omega) (by omega)
            have hV45 : zV (ma_u (ma_u (ma_u m 99 l2.toNatClampNeg (0 : Int32)) 111 (m 103 l2.toNatClampNeg).toNatClampNeg (-1 : Int32)) 94 44 ((m 94 44) - (1 : Int32))) := uf_94_44 hV43
            have hV46 : zV (ma_u (ma_u (ma_u (ma_u m 99 l2.toNatClampNeg (0 : Int32)) 111 (m 103 l2.toNatClampNeg).toNatClampNeg (-1 : Int32)) 94 44 ((m 94 44) - (1 : Int32))) 94 45 ((m 94 45) - ((m 102 l2.toNatClampNeg) + (1 : Int32)))) := uf_94_45 hV45
            have hV47 : zV (ma_u (ma_u (ma_u (ma_u (ma_u m 99 l2.toNatClampNeg (0 : Int32)) 111 (m 103 l2.toNatClampNeg).toNatClampNeg (-1 : Int32)) 94 44 ((m 94 44) - (1 : Int32))) 94 45 ((m 94 45) - ((m 102 l2.toNatClampNeg) + (1 : Int32)))) 94 49 ((m 94 49) + ((m 102 l2.toNatClampNeg) + (1 : Int32)))) := uf_94_49 hV46
            have b48 := i_bd l1
            first | have f49 : 0 ≤ (m 102 l2.toNatClampNeg).toInt ∧ (m 102 l2.toNatClampNeg).toInt ≤ 60 := ra_102 (m := m) hV (k := l2.toNatClampNeg) (i_ix (n := 3100) (by omega) (by omega)).2 | have b50 := i_bd (m 102 l2.toNatClampNeg)
            first | have e51 : ((m 102 l2.toNatClampNeg) + (1 : Int32)).toInt = (m 102 l2.toNatClampNeg).toInt + (1) := i_addk rfl (by omega) (by omega) | have b52 := i_bd ((m 102 l2.toNatClampNeg) + (1 : Int32))
            first | have e53 : (l1 + ((m 102 l2.toNatClampNeg) + (1 : Int32))).toInt = l1.toInt + ((m 102 l2.toNatClampNeg) + (1 : Int32)).toInt := i_add (by omega) (by omega) | have b54 := i_bd (l1 + ((m 102 l2.toNatClampNeg) + (1 : Int32)))
            first | have e55 : (l2 + (1 : Int32)).toInt = l2.toInt + (1) := i_addk rfl (by omega) (by omega) | have b56 := i_bd (l2 + (1 : Int32))
            exact IH (3100 - (l2 + (1 : Int32)).toInt).toNat (by omega) _ ((l1 + ((m 102 l2.toNatClampNeg) + (1 : Int32)))) ((l2 + (1 : Int32))) rfl (zF_u (zF_u (zF_u (zF_u (zF_u hF rfl) rfl) rfl) rfl) rfl) hV47 (by omega) (show (m 94 10).toInt ≠ 4 from by omega) r_W (show zGU T (m 94 46) ((ma_u m 99 l2.toNatClampNeg (0 : Int32)) 99) from by first | (exact GU_0 r_GU) | (exfalso; omega; done) | (exfalso; contradiction; done)) (show zOw ((ma_u m 99 l2.toNatClampNeg (0 : Int32)) 99) (m 103) ((ma_u m 111 (m 103 l2.toNatClampNeg).toNatClampNeg (-1 : Int32)) 111) from by first | (exact Ow_rm r_OW (by decide) (tn_cast (by omega)).symm) | (exfalso; omega; done) | (exfalso; contradiction; done)) (show zrm (m0 99) ((ma_u m 99 l2.toNatClampNeg (0 : Int32)) 99) (m 110) (l2 + (1 : Int32)).toNatClampNeg from by first | (exact rm_put r_RM (by assumption) (tn_succ (by omega) (by omega))) | (exfalso; omega; done) | (exfalso; contradiction; done)) (show zowr (m0 111) ((ma_u m 111 (m 103 l2.toNatClampNeg).toNatClampNeg (-1 : Int32)) 111) (m0 99) (m 110) (m 103) from by first | (exact owr_put r_OWR (s := l2.toNatClampNeg) (by omega) (rm_us r_RM (by omega) (by assumption)) (by assumption) (by decide) (tn_cast (by omega)).symm) | (exfalso; omega; done) | (exfalso; contradiction; done)) (show ((m 94 45) - ((m 102 l2.toNatClampNeg) + (1 : Int32))).toInt = sm (zbU ((ma_u m 99 l2.toNatClampNeg (0 : Int32)) 99)) (m 102) 3100 from by first | (exact WT_rm r_WTS (by omega) (by assumption) (fun t ht => ra_102 hV ht)) | (exfalso; omega; done) | (exfalso; contradiction; done))
        · skip
          have g57 := i_ne h21
          have b58 := i_bd l1
          first | have e59 : (l2 + (1 : Int32)).toInt = l2.toInt + (1) := i_addk rfl (by omega) (by omega) | have b60 := i_bd (l2 + (1 : Int32))
          exact IH (3100 - (l2 + (1 : Int32)).toInt).toNat (by omega) _ (l1) ((l2 + (1 : Int32))) rfl hF hV (by omega) (show (m 94 10).toInt ≠ 4 from by omega) r_W r_GU r_OW (show zrm (m0 99) (m 99) (m 110) (l2 + (1 : Int32)).toNatClampNeg from by first | (exact rm_skip r_RM (Or.inl (by assumption)) (tn_succ (by omega) (by omega))) | (exact rm_skip r_RM (Or.inr (by assumption)) (tn_succ (by omega) (by omega))) | (exfalso; omega; done) | (exfalso; contradiction; done)) r_OWR r_WTS
theorem sp_200rn {X : Nat × (Nat → Int32)} {P : Option ma_V → (Nat → Nat → Int32) → Prop} {T : Nat} {m : Nat → Nat → Int32}  (hV : zV m) (hpre0 : (m 94 10).toInt ≠ 4) (r_W : zW (m 94 7) (m 98) (m 101) (m 102) (m 108)) (r_GU : zGU T (m 94 46) (m 99)) (r_OW : zOw (m 99) (m 103) (m 111)) (r_WTS : (m 94 45).toInt = sm (zbU (m 99)) (m 102) 3100) (KZ : ∀ v m₉, zV (zov wr_200 m m₉) → (zrm (m 99) (m₉ 99) (m 110) 3100) → (zowr (m 111) (m₉ 111) (m 99) (m 110) (m 103)) → (zGU T (m 94 46) (m₉ 99)) → (zOw (m₉ 99) (m 103) (m₉ 111)) → ((m₉ 94 45).toInt = sm (zbU (m₉ 99)) (m 102) 3100) → P (some (.inl v)) (zov wr_200 m m₉)) : zm X 2 44 200 0 [(0, .inr (.inr (some 94)))] m P := by
  have K : ∀ v m₉, zF wr_200 m m₉ → zV m₉ → (zrm (m 99) (m₉ 99) (m₉ 110) 3100) → (zowr (m 111) (m₉ 111) (m 99) (m₉ 110) (m₉ 103)) → (zGU T (m₉ 94 46) (m₉ 99)) → (zOw (m₉ 99) (m₉ 103) (m₉ 111)) → ((m₉ 94 45).toInt = sm (zbU (m₉ 99)) (m₉ 102) 3100) → P (some (.inl v)) m₉ := by
    intro v m₉ hf z q0 q1 q2 q3 q4
    have e := zov_eq hf
    rw [e] at z ⊢
    try rw [e] at q0
    try rw [e] at q1
    try rw [e] at q2
    try rw [e] at q3
    try rw [e] at q4
    exact KZ v m₉ z q0 q1 q2 q3 q4
  refine g_200_0  ?_
  have f1 : 0 ≤ (m 94 10).toInt ∧ (m 94 10).toInt ≤ 6 := rs_94_10 (m := m) hV
  have li2 : (0 : Int32).toInt = 0 := rfl
  exact lp_200rn_4 hV K _ _ ((0 : Int32)) ((0 : Int32)) rfl zF_rfl hV (by omega) (show (m 94 10).toInt ≠ 4 from by omega) r_W r_GU r_OW (show zrm (m 99) (m 99) (m 110) (0 : Int32).toNatClampNeg from by first | (exact rm_0) | (exfalso; omega; done) | (exfalso; contradiction; done)) (show zowr (m 111) (m 111) (m 99) (m 110) (m 103) from by first | (exact owr_rfl) | (exfalso; omega; done) | (exfalso; contradiction; done)) r_WTS

/-! from 95.l02 -/
/-! the reference where it sweeps (written by wip/tools/gen20r.py) -/
/-! A SWEEP OF THE REFERENCE -/
section SW0
variable {a b : Nat → Nat → Int32} {us nr kp : Nat → Int32} {u x : Nat}
theorem RA_zo : zOf a (aRA a) := fun _ _ h1 h2 h3 => (aRA_o ⟨h1, h2, h3⟩).symm
theorem RA_st (hI : qI a) : zNn (aRA a) x ↔ zRch a x := RA_set (fun x hx => (hI.1 x hx).1.2) hI.2.2.2.1.1.2 hI.2.2.2.1.2.1.2
theorem E0_ra (hI : qI a) : qE0 (aRA a) := by
  have h := WQ_wh (fun x hx => (hI.1 x hx).1.2)
  have o := h.2.1
  have g := gr_ro h.1 (by rw [← o 69 6 (by decide) (by decide) (by decide)]; exact hI.2.2.2.1.1.2) (by rw [← o 69 5 (by decide) (by decide) (by decide)]; exact hI.2.2.2.1.2.1.2)
  exact (E0_sp g.1).1
theorem Cl_ra (hI : qI a) : qCl (aRA a) := by
  refine ⟨fun u hu hr => ?_, fun u y hn hu he => ?_⟩
  · have al : xAl a u := (Of_al RA_zo).mp hu
    refine (RA_st hI).mpr (zM_in ?_)
    have q : zRl a u ∨ zWl a u := by
      unfold zRl zWl at hr ⊢
      rw [← Of_r (c := 72) (RA_zo (a := a)) (by decide) (by decide) (by decide), ← Of_r (c := 74) (RA_zo (a := a)) (by decide) (by decide) (by decide), ← Of_r (c := 69) (RA_zo (a := a)) (by decide) (by decide) (by decide)] at hr
      exact hr
    exact ⟨al, q.elim Or.inl (fun w => Or.inr (Or.inl w))⟩
  · exact (RA_st hI).mpr (zM_cl ((RA_st hI).mp hn) (fun z => z) ((Of_ed RA_zo).mp he))
theorem KB_ra (hI : qI a) (h0 : ∀ s, s < 3100 → kp s ≠ 0 → us s ≠ 0) (h : ∀ s, s < 3100 → us s ≠ 0 → (kp s ≠ 0 ↔ zRch a (nr s).toNatClampNeg)) : qKB kp us nr (aRA a) := ⟨h0, fun s hs hu => (h s hs hu).trans (RA_st hI).symm⟩
end SW0
theorem lp_188rn_61 {X : Nat × (Nat → Int32)} {P : Option ma_V → (Nat → Nat → Int32) → Prop} {aa : Nat→Nat→Int32} {m0 : Nat → Nat → Int32} (h0 : zV m0) (K : ∀ m₉, zF wr_188 m0 m₉ → zV m₉ → ((m₉ 94 73).toInt = 0) → (∀ s, s < 3100 → (m₉ 99) s ≠ 0 → ((m₉ 110) s ≠ 0 ↔ zRch aa ((m₉ 100) s).toNatClampNeg)) → (∀ s, s < 3100 → (m₉ 110) s ≠ 0 → (m₉ 99) s ≠ 0) → P none m₉) : ∀ (n : Nat) (m : Nat → Nat → Int32) (l1 : Int32), (3100 - l1.toInt).toNat = n → zF wr_188 m0 m → zV m → (l1.toInt ≤ 3100) → (0 ≤ l1.toInt) → (zKS (m 110) (m 94 73)) → (zW (m 94 7) (m 98) (m 101) (m 102) (m 108)) → (qRB (m 99) (m 100) (m 98) (m 101) (m 102) (m 103) (m 107) (m 108) (m 109) (m 111) (m 112) (m 113) (m 114) (m 94 55) (m 94 46) (m 94 11) (m 94 12) (m 94 62) (m 94 17) (m 94 9) aa) → (qI aa) → (qKA (m 110) (m 99) (m 100) (m 98) (m 101) (m 102) (m 108) (m 118) (m 94 73) (zRch aa) (fun _ => False) 3100 0) → (zcov (m 110) (m 112) 16) → (zcov (m 110) (m 114) (m 94 55).toInt) → (∀ s : Nat, (s : Int) < l1.toInt → (m 99) s ≠ 0 → 0 < ((m 107) s).toInt → (m 110) s ≠ 0) → zm X 3 66 188 61 [(0, .inr (.inr (some 94))), (1, .inl l1)] m P := by
  intro n
  induction n using Nat.strongRecOn with
  | _ n IH =>
    intro m l1 hmu hF hV hi0 hi1 r_KS r_W r_RB r_QI r_KA r_CVR r_CVW r_CVH
    refine g_188_61 l1 ?_
    have li1 : (3100 : Int32).toInt = 3100 := rfl
    have b2 := i_bd l1
    refine zd (fun (h3 : (3100 : Int32) ≤ l1) => ?_) (fun (h3 : ¬ (3100 : Int32) ≤ l1) => ?_)
    · skip
      have g4 := i_le h3
      refine sp_191r (aa := aa) (QQ := (zRch aa)) (DD := (fun _ => False))  hV r_KS r_W r_RB (show qQC (m 99) (m 100) (m 98) (m 101) (m 102) (m 108) (zRch aa) (fun _ => False) from by first | (exact QC_M r_RB) | (exfalso; omega; done) | (exfalso; contradiction; done)) r_KA (fun m1 hV_m1 p0_m1 p1_m1 p2_m1 => zmv_n ?_)
      have p0_m1 : (m1 94 73).toInt = 0 := p0_m1
      have p1_m1 : zle (m 110) (m1 110) := p1_m1
      have p2_m1 : qKA (m1 110) (m 99) (m 100) (m 98) (m 101) (m 102) (m 108) (m1 118) (m1 94 73) (zRch aa) (fun _ => False) 3100 0 := p2_m1
      have f5 : 0 ≤ (m1 94 73).toInt ∧ (m1 94 73).toInt ≤ 3100 := rs_94_73 (m := (zov wr_191 m m1)) hV_m1
      exact K _ (zF_zov hF ws_191_188) hV_m1 (show (m1 94 73).toInt = 0 from by omega) (show ∀ s, s < 3100 → (m 99) s ≠ 0 → ((m1 110) s ≠ 0 ↔ zRch aa ((m 100) s).toNatClampNeg) from by first | (exact fun s hs hu => KR_end r_RB p2_m1 (by omega) (cov_le r_CVR p1_m1 (fun k hk => (ra_112 hV (by omega)).2)) (cov_le r_CVW p1_m1 (fun k hk => (ra_114 hV (by have := rs_94_55 hV; omega)).2)) (fun s hs => cvh_le r_CVH p1_m1 (by omega) s (by omega)) hs hu) | (exfalso; omega; done) | (exfalso; contradiction; done)) (show ∀ s, s < 3100 → (m1 110) s ≠ 0 → (m 99) s ≠ 0 from by first | (exact fun s hs hk => (p2_m1.1 s hs hk).1) | (exfalso; omega; done) | (exfalso; contradiction; done))
    · skip
      have g6 := i_nle h3
      have hg7 : (0 ≤ l1 ∧ l1.toNatClampNeg < 3100) := i_ix (by omega) (by omega)
      refine ⟨hg7, ?_⟩
      first | have f8 : 0 ≤ (m 99 l1.toNatClampNeg).toInt ∧ (m 99 l1.toNatClampNeg).toInt ≤ 1 := ra_99 (m := m) hV (k := l1.toNatClampNeg) (i_ix (n := 3100) (by omega) (by omega)).2 | have b9 := i_bd (m 99 l1.toNatClampNeg)
      have li10 : (0 : Int32).toInt = 0 := rfl
      refine zd (fun (h11 : (m 99 l1.toNatClampNeg) = (0 : Int32)) => ?_) (fun (h11 : ¬ (m 99 l1.toNatClampNeg) = (0 : Int32)) => ?_)
      · skip
        have g12 := i_eq h11
        first | have e13 : (l1 + (1 : Int32)).toInt = l1.toInt + (1) := i_addk rfl (by omega) (by omega) | have b14 := i_bd (l1 + (1 : Int32))
        exact IH (3100 - (l1 + (1 : Int32)).toInt).toNat (by omega) _ ((l1 + (1 : Int32))) rfl hF hV (by omega) (by omega) r_KS r_W r_RB r_QI r_KA r_CVR r_CVW (show ∀ s : Nat, (s : Int) < (l1 + (1 : Int32)).toInt → (m 99) s ≠ 0 → 0 < ((m 107) s).toInt → (m 110) s ≠ 0 from by first | (intro s hs; omega; done) | (exact cvh_s r_CVH (by omega) (by omega) (Or.inl (by assumption))) | (exact cvh_s r_CVH (by omega) (by omega) (Or.inr (Or.inl (by omega)))) | (exact cvh_s r_CVH (by omega) (by omega) (Or.inr (Or.inr (by assumption)))) | (exfalso; omega; done) | (exfalso; contradiction; done))
      · skip
        have g15 := i_ne h11
        have hg16 : (0 ≤ l1 ∧ l1.toNatClampNeg < 3100) := i_ix (by omega) (by omega)
        refine ⟨hg16, ?_⟩
        have b17 := i_bd (m 107 l1.toNatClampNeg)
        refine zd (fun (h18 : (m 107 l1.toNatClampNeg) ≤ (0 : Int32)) => ?_) (fun (h18 : ¬ (m 107 l1.toNatClampNeg) ≤ (0 : Int32)) => ?_)
        · skip
          have g19 := i_le h18
          first | have e20 : (l1 + (1 : Int32)).toInt = l1.toInt + (1) := i_addk rfl (by omega) (by omega) | have b21 := i_bd (l1 + (1 : Int32))
          exact IH (3100 - (l1 + (1 : Int32)).toInt).toNat (by omega) _ ((l1 + (1 : Int32))) rfl hF hV (by omega) (by omega) r_KS r_W r_RB r_QI r_KA r_CVR r_CVW (show ∀ s : Nat, (s : Int) < (l1 + (1 : Int32)).toInt → (m 99) s ≠ 0 → 0 < ((m 107) s).toInt → (m 110) s ≠ 0 from by first | (intro s hs; omega; done) | (exact cvh_s r_CVH (by omega) (by omega) (Or.inl (by assumption))) | (exact cvh_s r_CVH (by omega) (by omega) (Or.inr (Or.inl (by omega)))) | (exact cvh_s r_CVH (by omega) (by omega) (Or.inr (Or.inr (by assumption)))) | (exfalso; omega; done) | (exfalso; contradiction; done))
        · skip
          have g22 := i_nle h18
          refine zd (fun (h23 : l1 < (0 : Int32)) => ?_) (fun (h23 : ¬ l1 < (0 : Int32)) => ?_)
          · skip
            have g24 := i_lt h23
            first | have e25 : (l1 + (1 : Int32)).toInt = l1.toInt + (1) := i_addk rfl (by omega) (by omega) | have b26 := i_bd (l1 + (1 : Int32))
            exact IH (3100 - (l1 + (1 : Int32)).toInt).toNat (by omega) _ ((l1 + (1 : Int32))) rfl hF hV (by omega) (by omega) r_KS r_W r_RB r_QI r_KA r_CVR r_CVW (show ∀ s : Nat, (s : Int) < (l1 + (1 : Int32)).toInt → (m 99) s ≠ 0 → 0 < ((m 107) s).toInt → (m 110) s ≠ 0 from by first | (intro s hs; omega; done) | (exact cvh_s r_CVH (by omega) (by omega) (Or.inl (by assumption))) | (exact cvh_s r_CVH (by omega) (by omega) (Or.inr (Or.inl (by omega)))) | (exact cvh_s r_CVH (by omega) (by omega) (Or.inr (Or.inr (by assumption)))) | (exfalso; omega; done) | (exfalso; contradiction; done))
          · skip
            have g27 := i_nlt h23
            have hg28 : (0 ≤ l1 ∧ l1.toNatClampNeg < 3100) := i_ix (by omega) (by omega)
            refine ⟨hg28, ?_⟩
            first | have f29 : 0 ≤ (m 110 l1.toNatClampNeg).toInt ∧ (m 110 l1.toNatClampNeg).toInt ≤ 1 := ra_110 (m := m) hV (k := l1.toNatClampNeg) (i_ix (n := 3100) (by omega) (by omega)).2 | have b30 := i_bd (m 110 l1.toNatClampNeg)
            refine zd (fun (h31 : (m 110 l1.toNatClampNeg) = (0 : Int32)) => ?_) (fun (h31 : ¬ (m 110 l1.toNatClampNeg) = (0 : Int32)) => ?_)
            · skip
              have g32 := i_eq h31
              have hg33 : (0 ≤ l1 ∧ l1.toNatClampNeg < 3100) := i_ix (by omega) (by omega)
              refine ⟨hg33, ?_⟩
              have f34 : 0 ≤ (m 94 73).toInt ∧ (m 94 73).toInt ≤ 3100 := rs_94_73 (m := m) hV
              try have gk := KS_room r_KS (by assumption) (by omega)
              have hg35 : (0 ≤ (m 94 73) ∧ (m 94 73).toNatClampNeg < 3100) := i_ix (by omega) (by omega)
              refine ⟨hg35, ?_⟩
              have li37 : (1 : Int32).toInt = 1 := rfl
              have hV36 : zV (ma_u m 110 l1.toNatClampNeg (1 : Int32)) := ua_110 hV (by omega) (by omega)
              have hV38 : zV (ma_u (ma_u m 110 l1.toNatClampNeg (1 : Int32)) 118 (m 94 73).toNatClampNeg l1) := ua_118 hV36 (by omega) (by omega)
              first | have e40 : ((m 94 73) + (1 : Int32)).toInt = (m 94 73).toInt + (1) := i_addk rfl (by omega) (by omega) | have b41 := i_bd ((m 94 73) + (1 : Int32))
              have hV39 : zV (ma_u (ma_u (ma_u m 110 l1.toNatClampNeg (1 : Int32)) 118 (m 94 73).toNatClampNeg l1) 94 73 ((m 94 73) + (1 : Int32))) := us_94_73 hV38 (by omega) (by omega)
              first | have e42 : (l1 + (1 : Int32)).toInt = l1.toInt + (1) := i_addk rfl (by omega) (by omega) | have b43 := i_bd (l1 + (1 : Int32))
              exact IH (3100 - (l1 + (1 : Int32)).toInt).toNat (by omega) _ ((l1 + (1 : Int32))) rfl (zF_u (zF_u (zF_u hF rfl) rfl) rfl) hV39 (by omega) (by omega) (show zKS ((ma_u m 110 l1.toNatClampNeg (1 : Int32)) 110) ((m 94 73) + (1 : Int32)) from by first | (exact KS_push r_KS (by assumption) (by omega) (by decide) (by assumption)) | (exact KS_push (KS_0 (r := m 110) (y := m 94 73) (by omega)) (by assumption) (by omega) (by decide) (by assumption)) | (exfalso; omega; done) | (exfalso; contradiction; done)) r_W r_RB r_QI (show qKA ((ma_u m 110 l1.toNatClampNeg (1 : Int32)) 110) (m 99) (m 100) (m 98) (m 101) (m 102) (m 108) ((ma_u m 118 (m 94 73).toNatClampNeg l1) 118) ((m 94 73) + (1 : Int32)) (zRch aa) (fun _ => False) 3100 0 from by first | (exact KA_push r_KA (by omega) (by omega) (by assumption) (Rc_ho r_RB r_QI (by omega) (by assumption) (by omega)) (by assumption) (by omega) (by omega) (by decide)) | (exfalso; omega; done) | (exfalso; contradiction; done)) (show zcov ((ma_u m 110 l1.toNatClampNeg (1 : Int32)) 110) (m 112) 16 from by first | (exact cov_one (cov_push r_CVR (by decide)) rfl (by omega) (by omega) (Or.inr (by rw [mu_self]; decide))) | (exact cov_push r_CVR (by decide)) | (exfalso; omega; done) | (exfalso; contradiction; done)) (show zcov ((ma_u m 110 l1.toNatClampNeg (1 : Int32)) 110) (m 114) (m 94 55).toInt from by first | (exact cov_one (cov_push r_CVW (by decide)) rfl (by omega) (by omega) (Or.inr (by rw [mu_self]; decide))) | (exact cov_push r_CVW (by decide)) | (exfalso; omega; done) | (exfalso; contradiction; done)) (show ∀ s : Nat, (s : Int) < (l1 + (1 : Int32)).toInt → (m 99) s ≠ 0 → 0 < ((m 107) s).toInt → ((ma_u m 110 l1.toNatClampNeg (1 : Int32)) 110) s ≠ 0 from by first | (exact cvh_s (cvh_p r_CVH (by decide)) (by omega) (by omega) (Or.inr (Or.inr (by rw [mu_self]; decide)))) | (exfalso; omega; done) | (exfalso; contradiction; done))
            · skip
              have g44 := i_ne h31
              first | have e45 : (l1 + (1 : Int32)).toInt = l1.toInt + (1) := i_addk rfl (by omega) (by omega) | have b46 := i_bd (l1 + (1 : Int32))
              exact IH (3100 - (l1 + (1 : Int32)).toInt).toNat (by omega) _ ((l1 + (1 : Int32))) rfl hF hV (by omega) (by omega) r_KS r_W r_RB r_QI r_KA r_CVR r_CVW (show ∀ s : Nat, (s : Int) < (l1 + (1 : Int32)).toInt → (m 99) s ≠ 0 → 0 < ((m 107) s).toInt → (m 110) s ≠ 0 from by first | (intro s hs; omega; done) | (exact cvh_s r_CVH (by omega) (by omega) (Or.inl (by assumption))) | (exact cvh_s r_CVH (by omega) (by omega) (Or.inr (Or.inl (by omega)))) | (exact cvh_s r_CVH (by omega) (by omega) (Or.inr (Or.inr (by assumption)))) | (exfalso; omega; done) | (exfalso; contradiction; done))
theorem lp_188rn_35 {X : Nat × (Nat → Int32)} {P : Option ma_V → (Nat → Nat → Int32) → Prop} {aa : Nat→Nat→Int32} {m0 : Nat → Nat → Int32} (h0 : zV m0) (K : ∀ m₉, zF wr_188 m0 m₉ → zV m₉ → ((m₉ 94 73).toInt = 0) → (∀ s, s < 3100 → (m₉ 99) s ≠ 0 → ((m₉ 110) s ≠ 0 ↔ zRch aa ((m₉ 100) s).toNatClampNeg)) → (∀ s, s < 3100 → (m₉ 110) s ≠ 0 → (m₉ 99) s ≠ 0) → P none m₉) : ∀ (n : Nat) (m : Nat → Nat → Int32) (l1 : Int32), (3100 - l1.toInt).toNat = n → zF wr_188 m0 m → zV m → (0 ≤ l1.toInt) → (zKS (m 110) (m 94 73)) → (zW (m 94 7) (m 98) (m 101) (m 102) (m 108)) → (qRB (m 99) (m 100) (m 98) (m 101) (m 102) (m 103) (m 107) (m 108) (m 109) (m 111) (m 112) (m 113) (m 114) (m 94 55) (m 94 46) (m 94 11) (m 94 12) (m 94 62) (m 94 17) (m 94 9) aa) → (qI aa) → (qKA (m 110) (m 99) (m 100) (m 98) (m 101) (m 102) (m 108) (m 118) (m 94 73) (zRch aa) (fun _ => False) 3100 0) → (zcov (m 110) (m 112) 16) → (zcov (m 110) (m 114) l1.toInt) → zm X 3 66 188 35 [(0, .inr (.inr (some 94))), (1, .inl l1)] m P := by
  intro n
  induction n using Nat.strongRecOn with
  | _ n IH =>
    intro m l1 hmu hF hV hi0 r_KS r_W r_RB r_QI r_KA r_CVR r_CVW
    refine g_188_35 l1 ?_
    have f1 : 0 ≤ (m 94 55).toInt ∧ (m 94 55).toInt ≤ 3100 := rs_94_55 (m := m) hV
    have b2 := i_bd l1
    refine zd (fun (h3 : (m 94 55) ≤ l1) => ?_) (fun (h3 : ¬ (m 94 55) ≤ l1) => ?_)
    · skip
      have g4 := i_le h3
      have li5 : (0 : Int32).toInt = 0 := rfl
      exact lp_188rn_61 h0 K _ _ ((0 : Int32)) rfl hF hV (by omega) (by omega) r_KS r_W r_RB r_QI r_KA r_CVR (show zcov (m 110) (m 114) (m 94 55).toInt from by first | (exact cov_0 (by decide)) | (exact cov_one r_CVW rfl (by omega) (by omega) (Or.inl (by omega))) | (exact cov_one r_CVW rfl (by omega) (by omega) (Or.inr (by assumption))) | (exact cov_cut r_CVW (by omega)) | (exfalso; omega; done) | (exfalso; contradiction; done)) (show ∀ s : Nat, (s : Int) < (0 : Int32).toInt → (m 99) s ≠ 0 → 0 < ((m 107) s).toInt → (m 110) s ≠ 0 from by first | (intro s hs; omega; done) | (exfalso; omega; done) | (exfalso; contradiction; done))
    · skip
      have g6 := i_nle h3
      have hg7 : (0 ≤ l1 ∧ l1.toNatClampNeg < 3100) := i_ix (by omega) (by omega)
      refine ⟨hg7, ?_⟩
      first | have f8 : 0 ≤ (m 114 l1.toNatClampNeg).toInt ∧ (m 114 l1.toNatClampNeg).toInt ≤ 3099 := ra_114 (m := m) hV (k := l1.toNatClampNeg) (i_ix (n := 3100) (by omega) (by omega)).2 | have b9 := i_bd (m 114 l1.toNatClampNeg)
      have li10 : (0 : Int32).toInt = 0 := rfl
      refine zd (fun (h11 : (m 114 l1.toNatClampNeg) < (0 : Int32)) => ?_) (fun (h11 : ¬ (m 114 l1.toNatClampNeg) < (0 : Int32)) => ?_)
      · skip
        have g12 := i_lt h11
        first | have e13 : (l1 + (1 : Int32)).toInt = l1.toInt + (1) := i_addk rfl (by omega) (by omega) | have b14 := i_bd (l1 + (1 : Int32))
        exact IH (3100 - (l1 + (1 : Int32)).toInt).toNat (by omega) _ ((l1 + (1 : Int32))) rfl hF hV (by omega) r_KS r_W r_RB r_QI r_KA r_CVR (show zcov (m 110) (m 114) (l1 + (1 : Int32)).toInt from by first | (exact cov_0 (by decide)) | (exact cov_one r_CVW rfl (by omega) (by omega) (Or.inl (by omega))) | (exact cov_one r_CVW rfl (by omega) (by omega) (Or.inr (by assumption))) | (exact cov_cut r_CVW (by omega)) | (exfalso; omega; done) | (exfalso; contradiction; done))
      · skip
        have g15 := i_nlt h11
        have hg16 : (0 ≤ (m 114 l1.toNatClampNeg) ∧ (m 114 l1.toNatClampNeg).toNatClampNeg < 3100) := i_ix (by omega) (by omega)
        refine ⟨hg16, ?_⟩
        first | have f17 : 0 ≤ (m 110 (m 114 l1.toNatClampNeg).toNatClampNeg).toInt ∧ (m 110 (m 114 l1.toNatClampNeg).toNatClampNeg).toInt ≤ 1 := ra_110 (m := m) hV (k := (m 114 l1.toNatClampNeg).toNatClampNeg) (i_ix (n := 3100) (by omega) (by omega)).2 | have b18 := i_bd (m 110 (m 114 l1.toNatClampNeg).toNatClampNeg)
        refine zd (fun (h19 : (m 110 (m 114 l1.toNatClampNeg).toNatClampNeg) = (0 : Int32)) => ?_) (fun (h19 : ¬ (m 110 (m 114 l1.toNatClampNeg).toNatClampNeg) = (0 : Int32)) => ?_)
        · skip
          have g20 := i_eq h19
          have hg21 : (0 ≤ (m 114 l1.toNatClampNeg) ∧ (m 114 l1.toNatClampNeg).toNatClampNeg < 3100) := i_ix (by omega) (by omega)
          refine ⟨hg21, ?_⟩
          have f22 : 0 ≤ (m 94 73).toInt ∧ (m 94 73).toInt ≤ 3100 := rs_94_73 (m := m) hV
          try have gk := KS_room r_KS (by assumption) (by omega)
          have hg23 : (0 ≤ (m 94 73) ∧ (m 94 73).toNatClampNeg < 3100) := i_ix (by omega) (by omega)
          refine ⟨hg23, ?_⟩
          have li25 : (1 : Int32).toInt = 1 := rfl
          have hV24 : zV (ma_u m 110 (m 114 l1.toNatClampNeg).toNatClampNeg (1 : Int32)) := ua_110 hV (by omega) (by omega)
          have hV26 : zV (ma_u (ma_u m 110 (m 114 l1.toNatClampNeg).toNatClampNeg (1 : Int32)) 118 (m 94 73).toNatClampNeg (m 114 l1.toNatClampNeg)) := ua_118 hV24 (by omega) (by omega)
          first | have e28 : ((m 94 73) + (1 : Int32)).toInt = (m 94 73).toInt + (1) := i_addk rfl (by omega) (by omega) | have b29 := i_bd ((m 94 73) + (1 : Int32))
          have hV27 : zV (ma_u (ma_u (ma_u m 110 (m 114 l1.toNatClampNeg).toNatClampNeg (1 : Int32)) 118 (m 94 73).toNatClampNeg (m 114 l1.toNatClampNeg)) 94 73 ((m 94 73) + (1 : Int32))) := us_94_73 hV26 (by omega) (by omega)
          first | have e30 : (l1 + (1 : Int32)).toInt = l1.toInt + (1) := i_addk rfl (by omega) (by omega) | have b31 := i_bd (l1 + (1 : Int32))
          exact IH (3100 - (l1 + (1 : Int32)).toInt).toNat (by omega) _ ((l1 + (1 : Int32))) rfl (zF_u (zF_u (zF_u hF rfl) rfl) rfl) hV27 (by omega) (show zKS ((ma_u m 110 (m 114 l1.toNatClampNeg).toNatClampNeg (1 : Int32)) 110) ((m 94 73) + (1 : Int32)) from by first | (exact KS_push r_KS (by assumption) (by omega) (by decide) (by assumption)) | (exact KS_push (KS_0 (r := m 110) (y := m 94 73) (by omega)) (by assumption) (by omega) (by decide) (by assumption)) | (exfalso; omega; done) | (exfalso; contradiction; done)) r_W r_RB r_QI (show qKA ((ma_u m 110 (m 114 l1.toNatClampNeg).toNatClampNeg (1 : Int32)) 110) (m 99) (m 100) (m 98) (m 101) (m 102) (m 108) ((ma_u m 118 (m 94 73).toNatClampNeg (m 114 l1.toNatClampNeg)) 118) ((m 94 73) + (1 : Int32)) (zRch aa) (fun _ => False) 3100 0 from by first | (exact KA_push r_KA (by omega) (by omega) (Rc_wl r_RB (j := l1) (by omega) (by omega) rfl).1 (Rc_wl r_RB (j := l1) (by omega) (by omega) rfl).2 (by assumption) (by omega) (by omega) (by decide)) | (exfalso; omega; done) | (exfalso; contradiction; done)) (show zcov ((ma_u m 110 (m 114 l1.toNatClampNeg).toNatClampNeg (1 : Int32)) 110) (m 112) 16 from by first | (exact cov_one (cov_push r_CVR (by decide)) rfl (by omega) (by omega) (Or.inr (by rw [mu_self]; decide))) | (exact cov_push r_CVR (by decide)) | (exfalso; omega; done) | (exfalso; contradiction; done)) (show zcov ((ma_u m 110 (m 114 l1.toNatClampNeg).toNatClampNeg (1 : Int32)) 110) (m 114) (l1 + (1 : Int32)).toInt from by first | (exact cov_one (cov_push r_CVW (by decide)) rfl (by omega) (by omega) (Or.inr (by rw [mu_self]; decide))) | (exact cov_push r_CVW (by decide)) | (exfalso; omega; done) | (exfalso; contradiction; done))
        · skip
          have g32 := i_ne h19
          first | have e33 : (l1 + (1 : Int32)).toInt = l1.toInt + (1) := i_addk rfl (by omega) (by omega) | have b34 := i_bd (l1 + (1 : Int32))
          exact IH (3100 - (l1 + (1 : Int32)).toInt).toNat (by omega) _ ((l1 + (1 : Int32))) rfl hF hV (by omega) r_KS r_W r_RB r_QI r_KA r_CVR (show zcov (m 110) (m 114) (l1 + (1 : Int32)).toInt from by first | (exact cov_0 (by decide)) | (exact cov_one r_CVW rfl (by omega) (by omega) (Or.inl (by omega))) | (exact cov_one r_CVW rfl (by omega) (by omega) (Or.inr (by assumption))) | (exact cov_cut r_CVW (by omega)) | (exfalso; omega; done) | (exfalso; contradiction; done))
theorem lp_188rn_11 {X : Nat × (Nat → Int32)} {P : Option ma_V → (Nat → Nat → Int32) → Prop} {aa : Nat→Nat→Int32} {m0 : Nat → Nat → Int32} (h0 : zV m0) (K : ∀ m₉, zF wr_188 m0 m₉ → zV m₉ → ((m₉ 94 73).toInt = 0) → (∀ s, s < 3100 → (m₉ 99) s ≠ 0 → ((m₉ 110) s ≠ 0 ↔ zRch aa ((m₉ 100) s).toNatClampNeg)) → (∀ s, s < 3100 → (m₉ 110) s ≠ 0 → (m₉ 99) s ≠ 0) → P none m₉) : ∀ (n : Nat) (m : Nat → Nat → Int32) (l1 : Int32), (16 - l1.toInt).toNat = n → zF wr_188 m0 m → zV m → (0 ≤ l1.toInt) → (zKS (m 110) (m 94 73)) → (zW (m 94 7) (m 98) (m 101) (m 102) (m 108)) → (qRB (m 99) (m 100) (m 98) (m 101) (m 102) (m 103) (m 107) (m 108) (m 109) (m 111) (m 112) (m 113) (m 114) (m 94 55) (m 94 46) (m 94 11) (m 94 12) (m 94 62) (m 94 17) (m 94 9) aa) → (qI aa) → (qKA (m 110) (m 99) (m 100) (m 98) (m 101) (m 102) (m 108) (m 118) (m 94 73) (zRch aa) (fun _ => False) 3100 0) → (zcov (m 110) (m 112) l1.toInt) → zm X 3 66 188 11 [(0, .inr (.inr (some 94))), (1, .inl l1)] m P := by
  intro n
  induction n using Nat.strongRecOn with
  | _ n IH =>
    intro m l1 hmu hF hV hi0 r_KS r_W r_RB r_QI r_KA r_CVR
    refine g_188_11 l1 ?_
    have li1 : (16 : Int32).toInt = 16 := rfl
    have b2 := i_bd l1
    refine zd (fun (h3 : (16 : Int32) ≤ l1) => ?_) (fun (h3 : ¬ (16 : Int32) ≤ l1) => ?_)
    · skip
      have g4 := i_le h3
      have li5 : (0 : Int32).toInt = 0 := rfl
      exact lp_188rn_35 h0 K _ _ ((0 : Int32)) rfl hF hV (by omega) r_KS r_W r_RB r_QI r_KA (show zcov (m 110) (m 112) 16 from by first | (exact cov_0 (by decide)) | (exact cov_one r_CVR rfl (by omega) (by omega) (Or.inl (by omega))) | (exact cov_one r_CVR rfl (by omega) (by omega) (Or.inr (by assumption))) | (exact cov_cut r_CVR (by omega)) | (exfalso; omega; done) | (exfalso; contradiction; done)) (show zcov (m 110) (m 114) (0 : Int32).toInt from by first | (exact cov_0 (by decide)) | (exfalso; omega; done) | (exfalso; contradiction; done))
    · skip
      have g6 := i_nle h3
      have hg7 : (0 ≤ l1 ∧ l1.toNatClampNeg < 16) := i_ix (by omega) (by omega)
      refine ⟨hg7, ?_⟩
      first | have f8 : -1 ≤ (m 112 l1.toNatClampNeg).toInt ∧ (m 112 l1.toNatClampNeg).toInt ≤ 3099 := ra_112 (m := m) hV (k := l1.toNatClampNeg) (i_ix (n := 16) (by omega) (by omega)).2 | have b9 := i_bd (m 112 l1.toNatClampNeg)
      have li10 : (0 : Int32).toInt = 0 := rfl
      refine zd (fun (h11 : (m 112 l1.toNatClampNeg) < (0 : Int32)) => ?_) (fun (h11 : ¬ (m 112 l1.toNatClampNeg) < (0 : Int32)) => ?_)
      · skip
        have g12 := i_lt h11
        first | have e13 : (l1 + (1 : Int32)).toInt = l1.toInt + (1) := i_addk rfl (by omega) (by omega) | have b14 := i_bd (l1 + (1 : Int32))
        exact IH (16 - (l1 + (1 : Int32)).toInt).toNat (by omega) _ ((l1 + (1 : Int32))) rfl hF hV (by omega) r_KS r_W r_RB r_QI r_KA (show zcov (m 110) (m 112) (l1 + (1 : Int32)).toInt from by first | (exact cov_0 (by decide)) | (exact cov_one r_CVR rfl (by omega) (by omega) (Or.inl (by omega))) | (exact cov_one r_CVR rfl (by omega) (by omega) (Or.inr (by assumption))) | (exact cov_cut r_CVR (by omega)) | (exfalso; omega; done) | (exfalso; contradiction; done))
      · skip
        have g15 := i_nlt h11
        have hg16 : (0 ≤ (m 112 l1.toNatClampNeg) ∧ (m 112 l1.toNatClampNeg).toNatClampNeg < 3100) := i_ix (by omega) (by omega)
        refine ⟨hg16, ?_⟩
        first | have f17 : 0 ≤ (m 110 (m 112 l1.toNatClampNeg).toNatClampNeg).toInt ∧ (m 110 (m 112 l1.toNatClampNeg).toNatClampNeg).toInt ≤ 1 := ra_110 (m := m) hV (k := (m 112 l1.toNatClampNeg).toNatClampNeg) (i_ix (n := 3100) (by omega) (by omega)).2 | have b18 := i_bd (m 110 (m 112 l1.toNatClampNeg).toNatClampNeg)
        refine zd (fun (h19 : (m 110 (m 112 l1.toNatClampNeg).toNatClampNeg) = (0 : Int32)) => ?_) (fun (h19 : ¬ (m 110 (m 112 l1.toNatClampNeg).toNatClampNeg) = (0 : Int32)) => ?_)
        · skip
          have g20 := i_eq h19
          have hg21 : (0 ≤ (m 112 l1.toNatClampNeg) ∧ (m 112 l1.toNatClampNeg).toNatClampNeg < 3100) := i_ix (by omega) (by omega)
          refine ⟨hg21, ?_⟩
          have f22 : 0 ≤ (m 94 73).toInt ∧ (m 94 73).toInt ≤ 3100 := rs_94_73 (m := m) hV
          try have gk := KS_room r_KS (by assumption) (by omega)
          have hg23 : (0 ≤ (m 94 73) ∧ (m 94 73).toNatClampNeg < 3100) := i_ix (by omega) (by omega)
          refine ⟨hg23, ?_⟩
          have li25 : (1 : Int32).toInt = 1 := rfl
          have hV24 : zV (ma_u m 110 (m 112 l1.toNatClampNeg).toNatClampNeg (1 : Int32)) := ua_110 hV (by omega) (by omega)
          have hV26 : zV (ma_u (ma_u m 110 (m 112 l1.toNatClampNeg).toNatClampNeg (1 : Int32)) 118 (m 94 73).toNatClampNeg (m 112 l1.toNatClampNeg)) := ua_118 hV24 (by omega) (by omega)
          first | have e28 : ((m 94 73) + (1 : Int32)).toInt = (m 94 73).toInt + (1) := i_addk rfl (by omega) (by omega) | have b29 := i_bd ((m 94 73) + (1 : Int32))
          have hV27 : zV (ma_u (ma_u (ma_u m 110 (m 112 l1.toNatClampNeg).toNatClampNeg (1 : Int32)) 118 (m 94 73).toNatClampNeg (m 112 l1.toNatClampNeg)) 94 73 ((m 94 73) + (1 : Int32))) := us_94_73 hV26 (by omega) (by omega)
          first | have e30 : (l1 + (1 : Int32)).toInt = l1.toInt + (1) := i_addk rfl (by omega) (by omega) | have b31 := i_bd (l1 + (1 : Int32))
          exact IH (16 - (l1 + (1 : Int32)).toInt).toNat (by omega) _ ((l1 + (1 : Int32))) rfl (zF_u (zF_u (zF_u hF rfl) rfl) rfl) hV27 (by omega) (show zKS ((ma_u m 110 (m 112 l1.toNatClampNeg).toNatClampNeg (1 : Int32)) 110) ((m 94 73) + (1 : Int32)) from by first | (exact KS_push r_KS (by assumption) (by omega) (by decide) (by assumption)) | (exact KS_push (KS_0 (r := m 110) (y := m 94 73) (by omega)) (by assumption) (by omega) (by decide) (by assumption)) | (exfalso; omega; done) | (exfalso; contradiction; done)) r_W r_RB r_QI (show qKA ((ma_u m 110 (m 112 l1.toNatClampNeg).toNatClampNeg (1 : Int32)) 110) (m 99) (m 100) (m 98) (m 101) (m 102) (m 108) ((ma_u m 118 (m 94 73).toNatClampNeg (m 112 l1.toNatClampNeg)) 118) ((m 94 73) + (1 : Int32)) (zRch aa) (fun _ => False) 3100 0 from by first | (exact KA_push r_KA (by omega) (by omega) (Rc_rt r_RB (j := l1) (by omega) (by omega) rfl (by omega)).1 (Rc_rt r_RB (j := l1) (by omega) (by omega) rfl (by omega)).2 (by assumption) (by omega) (by omega) (by decide)) | (exfalso; omega; done) | (exfalso; contradiction; done)) (show zcov ((ma_u m 110 (m 112 l1.toNatClampNeg).toNatClampNeg (1 : Int32)) 110) (m 112) (l1 + (1 : Int32)).toInt from by first | (exact cov_one (cov_push r_CVR (by decide)) rfl (by omega) (by omega) (Or.inr (by rw [mu_self]; decide))) | (exact cov_push r_CVR (by decide)) | (exfalso; omega; done) | (exfalso; contradiction; done))
        · skip
          have g32 := i_ne h19
          first | have e33 : (l1 + (1 : Int32)).toInt = l1.toInt + (1) := i_addk rfl (by omega) (by omega) | have b34 := i_bd (l1 + (1 : Int32))
          exact IH (16 - (l1 + (1 : Int32)).toInt).toNat (by omega) _ ((l1 + (1 : Int32))) rfl hF hV (by omega) r_KS r_W r_RB r_QI r_KA (show zcov (m 110) (m 112) (l1 + (1 : Int32)).toInt from by first | (exact cov_0 (by decide)) | (exact cov_one r_CVR rfl (by omega) (by omega) (Or.inl (by omega))) | (exact cov_one r_CVR rfl (by omega) (by omega) (Or.inr (by assumption))) | (exact cov_cut r_CVR (by omega)) | (exfalso; omega; done) | (exfalso; contradiction; done))
theorem sp_188rn {X : Nat × (Nat → Int32)} {P : Option ma_V → (Nat → Nat → Int32) → Prop} {aa : Nat→Nat→Int32} {m : Nat → Nat → Int32}  (hV : zV m) (r_W : zW (m 94 7) (m 98) (m 101) (m 102) (m 108)) (r_RB : qRB (m 99) (m 100) (m 98) (m 101) (m 102) (m 103) (m 107) (m 108) (m 109) (m 111) (m 112) (m 113) (m 114) (m 94 55) (m 94 46) (m 94 11) (m 94 12) (m 94 62) (m 94 17) (m 94 9) aa) (r_QI : qI aa) (KZ : ∀ m₉, zV (zov wr_188 m m₉) → ((m₉ 94 73).toInt = 0) → (∀ s, s < 3100 → (m 99) s ≠ 0 → ((m₉ 110) s ≠ 0 ↔ zRch aa ((m 100) s).toNatClampNeg)) → (∀ s, s < 3100 → (m₉ 110) s ≠ 0 → (m 99) s ≠ 0) → P none (zov wr_188 m m₉)) : zm X 3 66 188 0 [(0, .inr (.inr (some 94)))] m P := by
  have K : ∀ m₉, zF wr_188 m m₉ → zV m₉ → ((m₉ 94 73).toInt = 0) → (∀ s, s < 3100 → (m₉ 99) s ≠ 0 → ((m₉ 110) s ≠ 0 ↔ zRch aa ((m₉ 100) s).toNatClampNeg)) → (∀ s, s < 3100 → (m₉ 110) s ≠ 0 → (m₉ 99) s ≠ 0) → P none m₉ := by
    intro m₉ hf z q0 q1 q2
    have e := zov_eq hf
    rw [e] at z ⊢
    try rw [e] at q0
    try rw [e] at q1
    try rw [e] at q2
    exact KZ m₉ z q0 q1 q2
  refine g_188_0  ?_
  refine sp_189  hV  (fun m1 hV_m1 p0_m1 => zmv_n ?_)
  have p0_m1 : ∀ s : Nat, s < 3100 → (m1 110) s = 0 := p0_m1
  have li2 : (0 : Int32).toInt = 0 := rfl
  have hV1 : zV (ma_u (zov wr_189 m m1) 94 73 (0 : Int32)) := us_94_73 hV_m1 (by omega) (by omega)
  exact lp_188rn_11 hV K _ _ ((0 : Int32)) rfl (zF_u (zF_zov zF_rfl ws_189_188) rfl) hV1 (by omega) (show zKS (m1 110) (0 : Int32) from by first | (exact KS_0 (by omega)) | (exfalso; omega; done) | (exfalso; contradiction; done)) r_W r_RB r_QI (show qKA (m1 110) (m 99) (m 100) (m 98) (m 101) (m 102) (m 108) (m 118) (0 : Int32) (zRch aa) (fun _ => False) 3100 0 from by first | (exact KA_none p0_m1 (by omega) (fun _ z => z)) | (exfalso; omega; done) | (exfalso; contradiction; done)) (show zcov (m1 110) (m 112) (0 : Int32).toInt from by first | (exact cov_0 (by decide)) | (exfalso; omega; done) | (exfalso; contradiction; done))
theorem sp_187rn {X : Nat × (Nat → Int32)} {P : Option ma_V → (Nat → Nat → Int32) → Prop} {T : Nat} {aa : Nat→Nat→Int32} {m : Nat → Nat → Int32}  (hV : zV m) (hpre0 : T ≤ 512) (r_W : zW (m 94 7) (m 98) (m 101) (m 102) (m 108)) (r_GW : zGW T (m 94 55) (m 109)) (r_GU : zGU T (m 94 46) (m 99)) (r_OW : zOw (m 99) (m 103) (m 111)) (hpre5 : (m 94 10).toInt ≠ 4) (r_RB : qRB (m 99) (m 100) (m 98) (m 101) (m 102) (m 103) (m 107) (m 108) (m 109) (m 111) (m 112) (m 113) (m 114) (m 94 55) (m 94 46) (m 94 11) (m 94 12) (m 94 62) (m 94 17) (m 94 9) aa) (r_QI : qI aa) (r_WTS : (m 94 45).toInt = sm (zbU (m 99)) (m 102) 3100) (KZ : ∀ v m₉, zV (zov wr_187 m m₉) → (zGW T (m₉ 94 55) (m₉ 109)) → (zGU T (m 94 46) (m₉ 99)) → (zOw (m₉ 99) (m 103) (m₉ 111)) → (qRB (m₉ 99) (m 100) (m 98) (m 101) (m 102) (m 103) (m 107) (m 108) (m₉ 109) (m₉ 111) (m 112) (m₉ 113) (m₉ 114) (m₉ 94 55) (m 94 46) (m 94 11) (m 94 12) (m 94 62) (m 94 17) (m 94 9) (aSw aa)) → (qI (aSw aa)) → ((m₉ 94 45).toInt = sm (zbU (m₉ 99)) (m 102) 3100) → P (some (.inl v)) (zov wr_187 m m₉)) : zm X 4 88 187 0 [(0, .inr (.inr (some 94)))] m P := by
  have K : ∀ v m₉, zF wr_187 m m₉ → zV m₉ → (zGW T (m₉ 94 55) (m₉ 109)) → (zGU T (m₉ 94 46) (m₉ 99)) → (zOw (m₉ 99) (m₉ 103) (m₉ 111)) → (qRB (m₉ 99) (m₉ 100) (m₉ 98) (m₉ 101) (m₉ 102) (m₉ 103) (m₉ 107) (m₉ 108) (m₉ 109) (m₉ 111) (m₉ 112) (m₉ 113) (m₉ 114) (m₉ 94 55) (m₉ 94 46) (m₉ 94 11) (m₉ 94 12) (m₉ 94 62) (m₉ 94 17) (m₉ 94 9) (aSw aa)) → (qI (aSw aa)) → ((m₉ 94 45).toInt = sm (zbU (m₉ 99)) (m₉ 102) 3100) → P (some (.inl v)) m₉ := by
    intro v m₉ hf z q0 q1 q2 q3 q4 q5
    have e := zov_eq hf
    rw [e] at z ⊢
    try rw [e] at q0
    try rw [e] at q1
    try rw [e] at q2
    try rw [e] at q3
    try rw [e] at q4
    try rw [e] at q5
    exact KZ v m₉ z q0 q1 q2 q3 q4 q5
  refine g_187_0  ?_
  have f1 : 0 ≤ (m 94 10).toInt ∧ (m 94 10).toInt ≤ 6 := rs_94_10 (m := m) hV
  have hV2 : zV (ma_u m 94 47 ((m 94 47) + (1 : Int32))) := uf_94_47 hV
  refine sp_188rn (aa := aa)  hV2 r_W r_RB r_QI (fun m1 hV_m1 p0_m1 p1_m1 p2_m1 => zmv_n ?_)
  have p0_m1 : (m1 94 73).toInt = 0 := p0_m1
  have p1_m1 : ∀ s, s < 3100 → (m 99) s ≠ 0 → ((m1 110) s ≠ 0 ↔ zRch aa ((m 100) s).toNatClampNeg) := p1_m1
  have p2_m1 : ∀ s, s < 3100 → (m1 110) s ≠ 0 → (m 99) s ≠ 0 := p2_m1
  have f3 : 0 ≤ (m1 94 73).toInt ∧ (m1 94 73).toInt ≤ 3100 := rs_94_73 (m := (zov wr_188 (ma_u m 94 47 ((m 94 47) + (1 : Int32))) m1)) hV_m1
  refine sp_194rn (aa := (aRA aa))  hV_m1 (by omega) (show (m 94 10).toInt ≠ 4 from by omega) (show (m1 94 73).toInt = 0 from by omega) r_W r_GW (show qRB (m 99) (m 100) (m 98) (m 101) (m 102) (m 103) (m 107) (m 108) (m 109) (m 111) (m 112) (m 113) (m 114) (m 94 55) (m 94 46) (m 94 11) (m 94 12) (m 94 62) (m 94 17) (m 94 9) (aRA aa) from by first | (exact RB_of r_RB RA_zo) | (exfalso; omega; done) | (exfalso; contradiction; done)) (show qI (aRA aa) from by first | (exact qI_of r_QI RA_zo) | (exfalso; omega; done) | (exfalso; contradiction; done)) (show qKB (m1 110) (m 99) (m 100) (aRA aa) from by first | (exact KB_ra r_QI p2_m1 p1_m1) | (exfalso; omega; done) | (exfalso; contradiction; done)) (show qE0 (aRA aa) from by first | (exact E0_ra r_QI) | (exfalso; omega; done) | (exfalso; contradiction; done)) (show qCl (aRA aa) from by first | (exact Cl_ra r_QI) | (exfalso; omega; done) | (exfalso; contradiction; done)) (fun m3 hV_m3 p0_m3 p1_m3 p2_m3 p3_m3 p4_m3 p5_m3 p6_m3 p7_m3 => zmv_n ?_)
  have p0_m3 : (m3 94 73).toInt = 0 := p0_m3
  have p1_m3 : zGW T (m3 94 55) (m3 109) := p1_m3
  have p2_m3 : zuw (m 113) (m3 113) := p2_m3
  have p3_m3 : qRB (m 99) (m 100) (m 98) (m 101) (m 102) (m 103) (m 107) (m 108) (m3 109) (m 111) (m 112) (m3 113) (m3 114) (m3 94 55) (m 94 46) (m 94 11) (m 94 12) (m 94 62) (m 94 17) (m 94 9) (aGw (aRA aa) 0) := p3_m3
  have p4_m3 : qI (aGw (aRA aa) 0) := p4_m3
  have p5_m3 : qKB (m3 110) (m 99) (m 100) (aGw (aRA aa) 0) := p5_m3
  have p6_m3 : qE0 (aGw (aRA aa) 0) := p6_m3
  have p7_m3 : qCl (aGw (aRA aa) 0) := p7_m3
  have f4 : 0 ≤ (m3 94 73).toInt ∧ (m3 94 73).toInt ≤ 3100 := rs_94_73 (m := (zov wr_194 (zov wr_188 (ma_u m 94 47 ((m 94 47) + (1 : Int32))) m1) m3)) hV_m3
  refine sp_199r  hV_m3  (fun m5 hV_m5 p0_m5 p1_m5 => zmv_n ?_)
  have p0_m5 : zuw (m3 113) (m5 113) := p0_m5
  have p1_m5 : qUr (m3 113) (m5 113) (m3 110) 16 := p1_m5
  refine sp_200rn  hV_m5 (show (m 94 10).toInt ≠ 4 from by omega) r_W r_GU r_OW r_WTS (fun v8 m7 hV_m7 p0_m7 p1_m7 p2_m7 p3_m7 p4_m7 => zmi_n ?_)
  have p0_m7 : zrm (m 99) (m7 99) (m3 110) 3100 := p0_m7
  have p1_m7 : zowr (m 111) (m7 111) (m 99) (m3 110) (m 103) := p1_m7
  have p2_m7 : zGU T (m 94 46) (m7 99) := p2_m7
  have p3_m7 : zOw (m7 99) (m 103) (m7 111) := p3_m7
  have p4_m7 : (m7 94 45).toInt = sm (zbU (m7 99)) (m 102) 3100 := p4_m7
  have b5 := i_bd v8
  exact K (v8) _ (zF_zov (zF_zov (zF_zov (zF_zov (zF_u zF_rfl rfl) ws_188_187) ws_194_187) ws_199_187) ws_200_187) hV_m7 p1_m3 p2_m7 p3_m7 (show qRB (m7 99) (m 100) (m 98) (m 101) (m 102) (m 103) (m 107) (m 108) (m3 109) (m7 111) (m 112) (m5 113) (m3 114) (m3 94 55) (m 94 46) (m 94 11) (m 94 12) (m 94 62) (m 94 17) (m 94 9) (aSw aa) from by first | (exact RB_mv p3_m3 p4_m3 p5_m3 (CK_of p7_m3 p3_m3 p5_m3) p6_m3.1.2.2.2.2.2.1 p1_m5 p0_m7 p1_m7) | (exfalso; omega; done) | (exfalso; contradiction; done)) (show qI (aSw aa) from by first | (exact I_mv p4_m3 p6_m3.1.2.2.2.2.2.1) | (exfalso; omega; done) | (exfalso; contradiction; done)) p4_m7
theorem sp_240r0 {X : Nat × (Nat → Int32)} {P : Option ma_V → (Nat → Nat → Int32) → Prop} {aa : Nat→Nat→Int32} {m : Nat → Nat → Int32} (wa : Int32) (is : Int32) (hV : zV m) (hpre0 : (m 94 10).toInt = 0 ∧ (m 94 58).toInt = 0) (hpre1 : -1 ≤ wa.toInt) (hpre2 : wa.toInt ≤ 3099) (hpre3 : -1 ≤ is.toInt) (hpre4 : is.toInt ≤ 3099) (r_GG : zGG (m 94 58) (m 94 56) (m 94 57) (m 106)) (r_RB : qRB (m 99) (m 100) (m 98) (m 101) (m 102) (m 103) (m 107) (m 108) (m 109) (m 111) (m 112) (m 113) (m 114) (m 94 55) (m 94 46) (m 94 11) (m 94 12) (m 94 62) (m 94 17) (m 94 9) aa) (r_QI : qI aa) (r_MK : aa 87 8 = (m 94 58)) (r_UA : qU (m 99) wa) (r_UB : qU (m 99) is) (r_MQG : qGQ (m 94 58) (m 106) (m 115) (m 94 57) (m 94 56) (m 99) (m 100) aa) (KZ : ∀ m₉, zV (zov wr_240 m m₉) → (zGG (m 94 58) (m₉ 94 56) (m 94 57) (m₉ 106)) → (qRB (m 99) (m 100) (m 98) (m 101) (m 102) (m 103) (m 107) (m 108) (m 109) (m 111) (m 112) (m 113) (m 114) (m 94 55) (m 94 46) (m 94 11) (m 94 12) (m 94 62) (m 94 17) (m 94 9) (aNc aa (qNo (m 100) wa) (qNo (m 100) is))) → (qI (aNc aa (qNo (m 100) wa) (qNo (m 100) is))) → ((aNc aa (qNo (m 100) wa) (qNo (m 100) is)) 87 8 = (m 94 58)) → (qGQ (m 94 58) (m₉ 106) (m₉ 115) (m 94 57) (m₉ 94 56) (m 99) (m 100) (aNc aa (qNo (m 100) wa) (qNo (m 100) is))) → P none (zov wr_240 m m₉)) : zm X 1 21 240 0 [(0, .inr (.inr (some 94))), (1, .inl wa), (2, .inl is)] m P := by
  have K : ∀ m₉, zF wr_240 m m₉ → zV m₉ → (zGG (m₉ 94 58) (m₉ 94 56) (m₉ 94 57) (m₉ 106)) → (qRB (m₉ 99) (m₉ 100) (m₉ 98) (m₉ 101) (m₉ 102) (m₉ 103) (m₉ 107) (m₉ 108) (m₉ 109) (m₉ 111) (m₉ 112) (m₉ 113) (m₉ 114) (m₉ 94 55) (m₉ 94 46) (m₉ 94 11) (m₉ 94 12) (m₉ 94 62) (m₉ 94 17) (m₉ 94 9) (aNc aa (qNo (m₉ 100) wa) (qNo (m₉ 100) is))) → (qI (aNc aa (qNo (m₉ 100) wa) (qNo (m₉ 100) is))) → ((aNc aa (qNo (m₉ 100) wa) (qNo (m₉ 100) is)) 87 8 = (m₉ 94 58)) → (qGQ (m₉ 94 58) (m₉ 106) (m₉ 115) (m₉ 94 57) (m₉ 94 56) (m₉ 99) (m₉ 100) (aNc aa (qNo (m₉ 100) wa) (qNo (m₉ 100) is))) → P none m₉ := by
    intro m₉ hf z q0 q1 q2 q3 q4
    have e := zov_eq hf
    rw [e] at z ⊢
    try rw [e] at q0
    try rw [e] at q1
    try rw [e] at q2
    try rw [e] at q3
    try rw [e] at q4
    exact KZ m₉ z q0 q1 q2 q3 q4
  refine g_240_0 wa is ?_
  have f1 : 0 ≤ (m 94 10).toInt ∧ (m 94 10).toInt ≤ 6 := rs_94_10 (m := m) hV
  have f2 : 0 ≤ (m 94 58).toInt ∧ (m 94 58).toInt ≤ 1 := rs_94_58 (m := m) hV
  have li3 : (5 : Int32).toInt = 5 := rfl
  refine zd (fun (h4 : (m 94 10) = (5 : Int32)) => ?_) (fun (h4 : ¬ (m 94 10) = (5 : Int32)) => ?_)
  · skip
    have g5 := i_eq h4
    exfalso; omega
  · skip
    have g6 := i_ne h4
    exact K _ zF_rfl hV r_GG (show qRB (m 99) (m 100) (m 98) (m 101) (m 102) (m 103) (m 107) (m 108) (m 109) (m 111) (m 112) (m 113) (m 114) (m 94 55) (m 94 46) (m 94 11) (m 94 12) (m 94 62) (m 94 17) (m 94 9) (aNc aa (qNo (m 100) wa) (qNo (m 100) is)) from by first | (exact RB_of r_RB NC_of) | (exfalso; omega; done) | (exfalso; contradiction; done)) (show qI (aNc aa (qNo (m 100) wa) (qNo (m 100) is)) from by first | (exact qI_of r_QI NC_of) | (exfalso; omega; done) | (exfalso; contradiction; done)) (show (aNc aa (qNo (m 100) wa) (qNo (m 100) is)) 87 8 = (m 94 58) from by first | (exact (NC_of 87 8 (by decide) (by decide) (by decide)).symm.trans r_MK) | (exfalso; omega; done) | (exfalso; contradiction; done)) (show qGQ (m 94 58) (m 106) (m 115) (m 94 57) (m 94 56) (m 99) (m 100) (aNc aa (qNo (m 100) wa) (qNo (m 100) is)) from by first | (exact fun z => absurd (by omega) z) | (rw [show wa = is from by assumption, NC_s]; exact r_MQG; done) | (exact fun z => NC_skip r_RB (r_MQG z) (fun w => absurd (r_MK.symm.trans w) (by assumption)) r_UA r_UB (by omega) (by omega) (by assumption) (if_pos (by assumption)).symm (Or.inl (by omega))) | (exact fun z => NC_skip r_RB (r_MQG z) (fun w => absurd (r_MK.symm.trans w) (by assumption)) r_UA r_UB (by omega) (by omega) (by assumption) (if_pos (by assumption)).symm (Or.inr (by assumption))) | (exact fun z => NC_skip r_RB (r_MQG z) (fun w => absurd (r_MK.symm.trans w) (by assumption)) r_UA r_UB (by omega) (by omega) (by assumption) (if_neg (by assumption)).symm (Or.inl (by omega))) | (exact fun z => NC_skip r_RB (r_MQG z) (fun w => absurd (r_MK.symm.trans w) (by assumption)) r_UA r_UB (by omega) (by omega) (by assumption) (if_neg (by assumption)).symm (Or.inr (by assumption))) | (exfalso; omega; done) | (exfalso; contradiction; done))

/-! from 95.l03 -/
/-! the reference where it sweeps (written by wip/tools/gen20r.py) -/
theorem sp_241r0 {X : Nat × (Nat → Int32)} {P : Option ma_V → (Nat → Nat → Int32) → Prop} {m : Nat → Nat → Int32} (s : Int32) (hV : zV m) (hpre0 : (m 94 10).toInt = 0 ∧ (m 94 58).toInt = 0) (KZ : ∀ m₉, zV (zov wr_241 m m₉) → ((m₉ 99) = (m 99) ∧ (m₉ 105) = (m 105) ∧ (m₉ 109) = (m 109) ∧ (m₉ 111) = (m 111) ∧ (m₉ 113) = (m 113) ∧ (m₉ 114) = (m 114) ∧ (m₉ 94 55) = (m 94 55) ∧ (m₉ 94 45) = (m 94 45)) → P none (zov wr_241 m m₉)) : zm X 3 64 241 0 [(0, .inr (.inr (some 94))), (1, .inl s)] m P := by
  have K : ∀ m₉, zF wr_241 m m₉ → zV m₉ → ((m₉ 99) = (m 99) ∧ (m₉ 105) = (m 105) ∧ (m₉ 109) = (m 109) ∧ (m₉ 111) = (m 111) ∧ (m₉ 113) = (m 113) ∧ (m₉ 114) = (m 114) ∧ (m₉ 94 55) = (m 94 55) ∧ (m₉ 94 45) = (m 94 45)) → P none m₉ := by
    intro m₉ hf z q0
    have e := zov_eq hf
    rw [e] at z ⊢
    try rw [e] at q0
    exact KZ m₉ z q0
  refine g_241_0 s ?_
  have f1 : 0 ≤ (m 94 10).toInt ∧ (m 94 10).toInt ≤ 6 := rs_94_10 (m := m) hV
  have f2 : 0 ≤ (m 94 58).toInt ∧ (m 94 58).toInt ≤ 1 := rs_94_58 (m := m) hV
  have b3 := i_bd s
  have li4 : (0 : Int32).toInt = 0 := rfl
  refine zd (fun (h5 : s < (0 : Int32)) => ?_) (fun (h5 : ¬ s < (0 : Int32)) => ?_)
  · skip
    have g6 := i_lt h5
    exact K _ zF_rfl hV (show (m 99) = (m 99) ∧ (m 105) = (m 105) ∧ (m 109) = (m 109) ∧ (m 111) = (m 111) ∧ (m 113) = (m 113) ∧ (m 114) = (m 114) ∧ (m 94 55) = (m 94 55) ∧ (m 94 45) = (m 94 45) from by first | (exact ⟨rfl, rfl, rfl, rfl, rfl, rfl, rfl, rfl⟩) | (exfalso; omega; done) | (exfalso; contradiction; done))
  · skip
    have g7 := i_nlt h5
    have li8 : (4 : Int32).toInt = 4 := rfl
    refine zd (fun (h9 : (m 94 10) = (4 : Int32)) => ?_) (fun (h9 : ¬ (m 94 10) = (4 : Int32)) => ?_)
    · skip
      have g10 := i_eq h9
      exfalso; omega
    · skip
      have g11 := i_ne h9
      exact K _ zF_rfl hV (show (m 99) = (m 99) ∧ (m 105) = (m 105) ∧ (m 109) = (m 109) ∧ (m 111) = (m 111) ∧ (m 113) = (m 113) ∧ (m 114) = (m 114) ∧ (m 94 55) = (m 94 55) ∧ (m 94 45) = (m 94 45) from by first | (exact ⟨rfl, rfl, rfl, rfl, rfl, rfl, rfl, rfl⟩) | (exfalso; omega; done) | (exfalso; contradiction; done))
theorem sp_238r0 {X : Nat × (Nat → Int32)} {P : Option ma_V → (Nat → Nat → Int32) → Prop} {T : Nat} {aa : Nat→Nat→Int32} {m : Nat → Nat → Int32} (r1 : Int32) (s : Int32) (hV : zV m) (hpre0 : 0 ≤ r1.toInt) (hpre1 : r1.toInt ≤ 15) (hpre2 : -1 ≤ s.toInt) (hpre3 : s.toInt ≤ 3099) (hpre4 : (m 94 10).toInt = 0 ∧ (m 94 58).toInt = 0) (r_W : zW (m 94 7) (m 98) (m 101) (m 102) (m 108)) (r_GW : zGW T (m 94 55) (m 109)) (r_GU : zGU T (m 94 46) (m 99)) (r_OW : zOw (m 99) (m 103) (m 111)) (r_GG : zGG (m 94 58) (m 94 56) (m 94 57) (m 106)) (r_RB : qRB (m 99) (m 100) (m 98) (m 101) (m 102) (m 103) (m 107) (m 108) (m 109) (m 111) (m 112) (m 113) (m 114) (m 94 55) (m 94 46) (m 94 11) (m 94 12) (m 94 62) (m 94 17) (m 94 9) aa) (r_QI : qI aa) (r_MG : qMG (m 94 58) (m 106) (m 115) (m 94 57) (m 94 56) (m 99) (m 100) aa) (r_MK : aa 87 8 = (m 94 58)) (r_WTS : (m 94 45).toInt = sm (zbU (m 99)) (m 102) 3100) (r_US : qU (m 99) s) (r_MS : qMS (m 94 58) aa (qNo (m 100) s)) (KZ : ∀ m₉, zV (zov wr_238 m m₉) → (zGW T (m₉ 94 55) (m₉ 109)) → (zGU T (m 94 46) (m₉ 99)) → (zOw (m₉ 99) (m 103) (m₉ 111)) → (zGG (m 94 58) (m₉ 94 56) (m 94 57) (m₉ 106)) → (qRB (m₉ 99) (m 100) (m 98) (m 101) (m 102) (m 103) (m 107) (m 108) (m₉ 109) (m₉ 111) (m₉ 112) (m₉ 113) (m₉ 114) (m₉ 94 55) (m 94 46) (m 94 11) (m 94 12) (m 94 62) (m 94 17) (m 94 9) (aRt aa r1 (qNo (m 100) s))) → (qI (aRt aa r1 (qNo (m 100) s))) → (qMG (m 94 58) (m₉ 106) (m₉ 115) (m 94 57) (m₉ 94 56) (m₉ 99) (m 100) (aRt aa r1 (qNo (m 100) s))) → ((aRt aa r1 (qNo (m 100) s)) 87 8 = (m 94 58)) → ((m₉ 94 45).toInt = sm (zbU (m₉ 99)) (m 102) 3100) → P none (zov wr_238 m m₉)) : zm X 4 88 238 0 [(0, .inr (.inr (some 94))), (1, .inl r1), (2, .inl s)] m P := by
  have K : ∀ m₉, zF wr_238 m m₉ → zV m₉ → (zGW T (m₉ 94 55) (m₉ 109)) → (zGU T (m₉ 94 46) (m₉ 99)) → (zOw (m₉ 99) (m₉ 103) (m₉ 111)) → (zGG (m₉ 94 58) (m₉ 94 56) (m₉ 94 57) (m₉ 106)) → (qRB (m₉ 99) (m₉ 100) (m₉ 98) (m₉ 101) (m₉ 102) (m₉ 103) (m₉ 107) (m₉ 108) (m₉ 109) (m₉ 111) (m₉ 112) (m₉ 113) (m₉ 114) (m₉ 94 55) (m₉ 94 46) (m₉ 94 11) (m₉ 94 12) (m₉ 94 62) (m₉ 94 17) (m₉ 94 9) (aRt aa r1 (qNo (m₉ 100) s))) → (qI (aRt aa r1 (qNo (m₉ 100) s))) → (qMG (m₉ 94 58) (m₉ 106) (m₉ 115) (m₉ 94 57) (m₉ 94 56) (m₉ 99) (m₉ 100) (aRt aa r1 (qNo (m₉ 100) s))) → ((aRt aa r1 (qNo (m₉ 100) s)) 87 8 = (m₉ 94 58)) → ((m₉ 94 45).toInt = sm (zbU (m₉ 99)) (m₉ 102) 3100) → P none m₉ := by
    intro m₉ hf z q0 q1 q2 q3 q4 q5 q6 q7 q8
    have e := zov_eq hf
    rw [e] at z ⊢
    try rw [e] at q0
    try rw [e] at q1
    try rw [e] at q2
    try rw [e] at q3
    try rw [e] at q4
    try rw [e] at q5
    try rw [e] at q6
    try rw [e] at q7
    try rw [e] at q8
    exact KZ m₉ z q0 q1 q2 q3 q4 q5 q6 q7 q8
  refine g_238_0 r1 s ?_
  have f1 : 0 ≤ (m 94 10).toInt ∧ (m 94 10).toInt ≤ 6 := rs_94_10 (m := m) hV
  have f2 : 0 ≤ (m 94 58).toInt ∧ (m 94 58).toInt ≤ 1 := rs_94_58 (m := m) hV
  have b3 := i_bd r1
  have hg4 : (0 ≤ r1 ∧ r1.toNatClampNeg < 16) := i_ix (by omega) (by omega)
  refine ⟨hg4, ?_⟩
  have b5 := i_bd s
  have li6 : (0 : Int32).toInt = 0 := rfl
  refine zd (fun (h7 : s < (0 : Int32)) => ?_) (fun (h7 : ¬ s < (0 : Int32)) => ?_)
  · skip
    have g8 := i_lt h7
    have hg9 : (0 ≤ r1 ∧ r1.toNatClampNeg < 16) := i_ix (by omega) (by omega)
    refine ⟨hg9, ?_⟩
    first | have f10 : -1 ≤ (m 112 r1.toNatClampNeg).toInt ∧ (m 112 r1.toNatClampNeg).toInt ≤ 3099 := ra_112 (m := m) hV (k := r1.toNatClampNeg) (i_ix (n := 16) (by omega) (by omega)).2 | have b11 := i_bd (m 112 r1.toNatClampNeg)
    have hV12 : zV (ma_u m 112 r1.toNatClampNeg s) := ua_112 hV (by omega) (by omega)
    refine sp_240r0 (aa := (ma_u aa 72 r1.toNatClampNeg (qNo (m 100) s))) ((m 112 r1.toNatClampNeg)) (s) hV12 (show (m 94 10).toInt = 0 ∧ (m 94 58).toInt = 0 from by omega) (by omega) (by omega) (by omega) (by omega) r_GG (show qRB (m 99) (m 100) (m 98) (m 101) (m 102) (m 103) (m 107) (m 108) (m 109) (m 111) ((ma_u m 112 r1.toNatClampNeg s) 112) (m 113) (m 114) (m 94 55) (m 94 46) (m 94 11) (m 94 12) (m 94 62) (m 94 17) (m 94 9) (ma_u aa 72 r1.toNatClampNeg (qNo (m 100) s)) from by first | (exact RB_rt r_RB r_US) | (exfalso; omega; done) | (exfalso; contradiction; done)) (show qI (ma_u aa 72 r1.toNatClampNeg (qNo (m 100) s)) from by first | (exact I_u r_QI (Or.inl rfl)) | (exfalso; omega; done) | (exfalso; contradiction; done)) (show (ma_u aa 72 r1.toNatClampNeg (qNo (m 100) s)) 87 8 = (m 94 58) from by first | (exact (xu_o (by decide)).trans r_MK) | (rw [un (by decide)]; exact r_MK; done) | (exfalso; omega; done) | (exfalso; contradiction; done)) (show qU (m 99) (m 112 r1.toNatClampNeg) from by first | (exact (r_RB.2.2.1 r1.toNatClampNeg (by omega)).1) | (exfalso; omega; done) | (exfalso; contradiction; done)) (show qU (m 99) s from by first | (exact r_US) | (exfalso; omega; done) | (exfalso; contradiction; done)) (show qGQ (m 94 58) (m 106) (m 115) (m 94 57) (m 94 56) (m 99) (m 100) (ma_u aa 72 r1.toNatClampNeg (qNo (m 100) s)) from by first | (exact fun z => MQ_u (r_MG z).1 (by decide)) | (exfalso; omega; done) | (exfalso; contradiction; done)) (fun m1 hV_m1 p0_m1 p1_m1 p2_m1 p3_m1 p4_m1 => zmv_n ?_)
    have p0_m1 : zGG (m 94 58) (m1 94 56) (m 94 57) (m1 106) := p0_m1
    have p1_m1 : qRB (m 99) (m 100) (m 98) (m 101) (m 102) (m 103) (m 107) (m 108) (m 109) (m 111) ((ma_u m 112 r1.toNatClampNeg s) 112) (m 113) (m 114) (m 94 55) (m 94 46) (m 94 11) (m 94 12) (m 94 62) (m 94 17) (m 94 9) (aNc (ma_u aa 72 r1.toNatClampNeg (qNo (m 100) s)) (qNo (m 100) (m 112 r1.toNatClampNeg)) (qNo (m 100) s)) := p1_m1
    have p2_m1 : qI (aNc (ma_u aa 72 r1.toNatClampNeg (qNo (m 100) s)) (qNo (m 100) (m 112 r1.toNatClampNeg)) (qNo (m 100) s)) := p2_m1
    have p3_m1 : (aNc (ma_u aa 72 r1.toNatClampNeg (qNo (m 100) s)) (qNo (m 100) (m 112 r1.toNatClampNeg)) (qNo (m 100) s)) 87 8 = (m 94 58) := p3_m1
    have p4_m1 : qGQ (m 94 58) (m1 106) (m1 115) (m 94 57) (m1 94 56) (m 99) (m 100) (aNc (ma_u aa 72 r1.toNatClampNeg (qNo (m 100) s)) (qNo (m 100) (m 112 r1.toNatClampNeg)) (qNo (m 100) s)) := p4_m1
    refine sp_241r0 ((m 112 r1.toNatClampNeg)) hV_m1 (show (m 94 10).toInt = 0 ∧ (m 94 58).toInt = 0 from by omega) (fun m3 hV_m3 p0_m3 => zmv_n ?_)
    have p0_m3 : (m3 99) = (m 99) ∧ (m3 105) = (m 105) ∧ (m3 109) = (m 109) ∧ (m3 111) = (m 111) ∧ (m3 113) = (m 113) ∧ (m3 114) = (m 114) ∧ (m3 94 55) = (m 94 55) ∧ (m3 94 45) = (m 94 45) := p0_m3
    try have rgb := rs_94_64 hV
    try have lel := LE_lo p0_m3
    try have lex3 := LE_ex p0_m3 (lexi (by omega))
    try have lexi := LE_some p0_m3
    exact K _ (zF_zov (zF_zov (zF_u zF_rfl rfl) ws_240_238) ws_241_238) hV_m3 (show zGW T (m3 94 55) (m3 109) from by first | (rw [p0_m3.2.2.1, p0_m3.2.2.2.2.2.2.1]; exact r_GW; done) | (exfalso; omega; done) | (exfalso; contradiction; done)) (show zGU T (m 94 46) (m3 99) from by first | (rw [p0_m3.1]; exact r_GU; done) | (exact GU_0 r_GU) | (exfalso; omega; done) | (exfalso; contradiction; done)) (show zOw (m3 99) (m 103) (m3 111) from by first | (rw [p0_m3.1, p0_m3.2.2.2.1]; exact r_OW; done) | (exact Ow_rm r_OW (by decide) (tn_cast (by omega)).symm) | (exfalso; omega; done) | (exfalso; contradiction; done)) p0_m1 (show qRB (m3 99) (m 100) (m 98) (m 101) (m 102) (m 103) (m 107) (m 108) (m3 109) (m3 111) ((ma_u m 112 r1.toNatClampNeg s) 112) (m3 113) (m3 114) (m3 94 55) (m 94 46) (m 94 11) (m 94 12) (m 94 62) (m 94 17) (m 94 9) (aRt aa r1 (qNo (m 100) s)) from by first | (rw [(show aRt aa r1 (qNo (m 100) s) = aNc (ma_u aa 72 r1.toNatClampNeg (qNo (m 100) s)) (qNo (m 100) (m 112 r1.toNatClampNeg)) (qNo (m 100) s) from by unfold aRt; rw [Nm_no r_RB.1 r_US, (r_RB.2.2.1 r1.toNatClampNeg (by omega)).2]), p0_m3.1, p0_m3.2.2.1, p0_m3.2.2.2.1, p0_m3.2.2.2.2.1, p0_m3.2.2.2.2.2.1, p0_m3.2.2.2.2.2.2.1]; exact p1_m1; done) | (exfalso; omega; done) | (exfalso; contradiction; done)) (show qI (aRt aa r1 (qNo (m 100) s)) from by first | (rw [(show aRt aa r1 (qNo (m 100) s) = aNc (ma_u aa 72 r1.toNatClampNeg (qNo (m 100) s)) (qNo (m 100) (m 112 r1.toNatClampNeg)) (qNo (m 100) s) from by unfold aRt; rw [Nm_no r_RB.1 r_US, (r_RB.2.2.1 r1.toNatClampNeg (by omega)).2])]; exact p2_m1; done) | (exfalso; omega; done) | (exfalso; contradiction; done)) (show qMG (m 94 58) (m1 106) (m1 115) (m 94 57) (m1 94 56) (m3 99) (m 100) (aRt aa r1 (qNo (m 100) s)) from by first | (rw [(show aRt aa r1 (qNo (m 100) s) = aNc (ma_u aa 72 r1.toNatClampNeg (qNo (m 100) s)) (qNo (m 100) (m 112 r1.toNatClampNeg)) (qNo (m 100) s) from by unfold aRt; rw [Nm_no r_RB.1 r_US, (r_RB.2.2.1 r1.toNatClampNeg (by omega)).2]), p0_m3.1]; exact fun z => ⟨p4_m1 z, MI_rt (r_MG z).2 (r_MG z).1.2.2.2.2 (r_MS z)⟩; done) | (exfalso; omega; done) | (exfalso; contradiction; done)) (show (aRt aa r1 (qNo (m 100) s)) 87 8 = (m 94 58) from by first | (rw [(show aRt aa r1 (qNo (m 100) s) = aNc (ma_u aa 72 r1.toNatClampNeg (qNo (m 100) s)) (qNo (m 100) (m 112 r1.toNatClampNeg)) (qNo (m 100) s) from by unfold aRt; rw [Nm_no r_RB.1 r_US, (r_RB.2.2.1 r1.toNatClampNeg (by omega)).2])]; exact p3_m1; done) | (exfalso; omega; done) | (exfalso; contradiction; done)) (show (m3 94 45).toInt = sm (zbU (m3 99)) (m 102) 3100 from by first | (rw [p0_m3.1, p0_m3.2.2.2.2.2.2.2]; exact r_WTS; done) | (exfalso; omega; done) | (exfalso; contradiction; done))
  · skip
    have g13 := i_nlt h7
    have li14 : (4 : Int32).toInt = 4 := rfl
    refine zd (fun (h15 : (m 94 10) = (4 : Int32)) => ?_) (fun (h15 : ¬ (m 94 10) = (4 : Int32)) => ?_)
    · skip
      have g16 := i_eq h15
      exfalso; omega
    · skip
      have g17 := i_ne h15
      have hg18 : (0 ≤ r1 ∧ r1.toNatClampNeg < 16) := i_ix (by omega) (by omega)
      refine ⟨hg18, ?_⟩
      first | have f19 : -1 ≤ (m 112 r1.toNatClampNeg).toInt ∧ (m 112 r1.toNatClampNeg).toInt ≤ 3099 := ra_112 (m := m) hV (k := r1.toNatClampNeg) (i_ix (n := 16) (by omega) (by omega)).2 | have b20 := i_bd (m 112 r1.toNatClampNeg)
      have hV21 : zV (ma_u m 112 r1.toNatClampNeg s) := ua_112 hV (by omega) (by omega)
      refine sp_240r0 (aa := (ma_u aa 72 r1.toNatClampNeg (qNo (m 100) s))) ((m 112 r1.toNatClampNeg)) (s) hV21 (show (m 94 10).toInt = 0 ∧ (m 94 58).toInt = 0 from by omega) (by omega) (by omega) (by omega) (by omega) r_GG (show qRB (m 99) (m 100) (m 98) (m 101) (m 102) (m 103) (m 107) (m 108) (m 109) (m 111) ((ma_u m 112 r1.toNatClampNeg s) 112) (m 113) (m 114) (m 94 55) (m 94 46) (m 94 11) (m 94 12) (m 94 62) (m 94 17) (m 94 9) (ma_u aa 72 r1.toNatClampNeg (qNo (m 100) s)) from by first | (exact RB_rt r_RB r_US) | (exfalso; omega; done) | (exfalso; contradiction; done)) (show qI (ma_u aa 72 r1.toNatClampNeg (qNo (m 100) s)) from by first | (exact I_u r_QI (Or.inl rfl)) | (exfalso; omega; done) | (exfalso; contradiction; done)) (show (ma_u aa 72 r1.toNatClampNeg (qNo (m 100) s)) 87 8 = (m 94 58) from by first | (exact (xu_o (by decide)).trans r_MK) | (rw [un (by decide)]; exact r_MK; done) | (exfalso; omega; done) | (exfalso; contradiction; done)) (show qU (m 99) (m 112 r1.toNatClampNeg) from by first | (exact (r_RB.2.2.1 r1.toNatClampNeg (by omega)).1) | (exfalso; omega; done) | (exfalso; contradiction; done)) (show qU (m 99) s from by first | (exact r_US) | (exfalso; omega; done) | (exfalso; contradiction; done)) (show qGQ (m 94 58) (m 106) (m 115) (m 94 57) (m 94 56) (m 99) (m 100) (ma_u aa 72 r1.toNatClampNeg (qNo (m 100) s)) from by first | (exact fun z => MQ_u (r_MG z).1 (by decide)) | (exfalso; omega; done) | (exfalso; contradiction; done)) (fun m5 hV_m5 p0_m5 p1_m5 p2_m5 p3_m5 p4_m5 => zmv_n ?_)
      have p0_m5 : zGG (m 94 58) (m5 94 56) (m 94 57) (m5 106) := p0_m5
      have p1_m5 : qRB (m 99) (m 100) (m 98) (m 101) (m 102) (m 103) (m 107) (m 108) (m 109) (m 111) ((ma_u m 112 r1.toNatClampNeg s) 112) (m 113) (m 114) (m 94 55) (m 94 46) (m 94 11) (m 94 12) (m 94 62) (m 94 17) (m 94 9) (aNc (ma_u aa 72 r1.toNatClampNeg (qNo (m 100) s)) (qNo (m 100) (m 112 r1.toNatClampNeg)) (qNo (m 100) s)) := p1_m5
      have p2_m5 : qI (aNc (ma_u aa 72 r1.toNatClampNeg (qNo (m 100) s)) (qNo (m 100) (m 112 r1.toNatClampNeg)) (qNo (m 100) s)) := p2_m5
      have p3_m5 : (aNc (ma_u aa 72 r1.toNatClampNeg (qNo (m 100) s)) (qNo (m 100) (m 112 r1.toNatClampNeg)) (qNo (m 100) s)) 87 8 = (m 94 58) := p3_m5
      have p4_m5 : qGQ (m 94 58) (m5 106) (m5 115) (m 94 57) (m5 94 56) (m 99) (m 100) (aNc (ma_u aa 72 r1.toNatClampNeg (qNo (m 100) s)) (qNo (m 100) (m 112 r1.toNatClampNeg)) (qNo (m 100) s)) := p4_m5
      refine sp_241r0 ((m 112 r1.toNatClampNeg)) hV_m5 (show (m 94 10).toInt = 0 ∧ (m 94 58).toInt = 0 from by omega) (fun m7 hV_m7 p0_m7 => zmv_n ?_)
      have p0_m7 : (m7 99) = (m 99) ∧ (m7 105) = (m 105) ∧ (m7 109) = (m 109) ∧ (m7 111) = (m 111) ∧ (m7 113) = (m 113) ∧ (m7 114) = (m 114) ∧ (m7 94 55) = (m 94 55) ∧ (m7 94 45) = (m 94 45) := p0_m7
      try have rgb := rs_94_64 hV
      try have lel := LE_lo p0_m7
      try have lex3 := LE_ex p0_m7 (lexi (by omega))
      try have lexi := LE_some p0_m7
      exact K _ (zF_zov (zF_zov (zF_u zF_rfl rfl) ws_240_238) ws_241_238) hV_m7 (show zGW T (m7 94 55) (m7 109) from by first | (rw [p0_m7.2.2.1, p0_m7.2.2.2.2.2.2.1]; exact r_GW; done) | (exfalso; omega; done) | (exfalso; contradiction; done)) (show zGU T (m 94 46) (m7 99) from by first | (rw [p0_m7.1]; exact r_GU; done) | (exact GU_0 r_GU) | (exfalso; omega; done) | (exfalso; contradiction; done)) (show zOw (m7 99) (m 103) (m7 111) from by first | (rw [p0_m7.1, p0_m7.2.2.2.1]; exact r_OW; done) | (exact Ow_rm r_OW (by decide) (tn_cast (by omega)).symm) | (exfalso; omega; done) | (exfalso; contradiction; done)) p0_m5 (show qRB (m7 99) (m 100) (m 98) (m 101) (m 102) (m 103) (m 107) (m 108) (m7 109) (m7 111) ((ma_u m 112 r1.toNatClampNeg s) 112) (m7 113) (m7 114) (m7 94 55) (m 94 46) (m 94 11) (m 94 12) (m 94 62) (m 94 17) (m 94 9) (aRt aa r1 (qNo (m 100) s)) from by first | (rw [(show aRt aa r1 (qNo (m 100) s) = aNc (ma_u aa 72 r1.toNatClampNeg (qNo (m 100) s)) (qNo (m 100) (m 112 r1.toNatClampNeg)) (qNo (m 100) s) from by unfold aRt; rw [Nm_no r_RB.1 r_US, (r_RB.2.2.1 r1.toNatClampNeg (by omega)).2]), p0_m7.1, p0_m7.2.2.1, p0_m7.2.2.2.1, p0_m7.2.2.2.2.1, p0_m7.2.2.2.2.2.1, p0_m7.2.2.2.2.2.2.1]; exact p1_m5; done) | (exfalso; omega; done) | (exfalso; contradiction; done)) (show qI (aRt aa r1 (qNo (m 100) s)) from by first | (rw [(show aRt aa r1 (qNo (m 100) s) = aNc (ma_u aa 72 r1.toNatClampNeg (qNo (m 100) s)) (qNo (m 100) (m 112 r1.toNatClampNeg)) (qNo (m 100) s) from by unfold aRt; rw [Nm_no r_RB.1 r_US, (r_RB.2.2.1 r1.toNatClampNeg (by omega)).2])]; exact p2_m5; done) | (exfalso; omega; done) | (exfalso; contradiction; done)) (show qMG (m 94 58) (m5 106) (m5 115) (m 94 57) (m5 94 56) (m7 99) (m 100) (aRt aa r1 (qNo (m 100) s)) from by first | (rw [(show aRt aa r1 (qNo (m 100) s) = aNc (ma_u aa 72 r1.toNatClampNeg (qNo (m 100) s)) (qNo (m 100) (m 112 r1.toNatClampNeg)) (qNo (m 100) s) from by unfold aRt; rw [Nm_no r_RB.1 r_US, (r_RB.2.2.1 r1.toNatClampNeg (by omega)).2]), p0_m7.1]; exact fun z => ⟨p4_m5 z, MI_rt (r_MG z).2 (r_MG z).1.2.2.2.2 (r_MS z)⟩; done) | (exfalso; omega; done) | (exfalso; contradiction; done)) (show (aRt aa r1 (qNo (m 100) s)) 87 8 = (m 94 58) from by first | (rw [(show aRt aa r1 (qNo (m 100) s) = aNc (ma_u aa 72 r1.toNatClampNeg (qNo (m 100) s)) (qNo (m 100) (m 112 r1.toNatClampNeg)) (qNo (m 100) s) from by unfold aRt; rw [Nm_no r_RB.1 r_US, (r_RB.2.2.1 r1.toNatClampNeg (by omega)).2])]; exact p3_m5; done) | (exfalso; omega; done) | (exfalso; contradiction; done)) (show (m7 94 45).toInt = sm (zbU (m7 99)) (m 102) 3100 from by first | (rw [p0_m7.1, p0_m7.2.2.2.2.2.2.2]; exact r_WTS; done) | (exfalso; omega; done) | (exfalso; contradiction; done))

