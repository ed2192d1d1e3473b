/-! the class behind (written by wip/tools/gen95c.py) -/
theorem g_154_64_0 {X : Nat × (Nat → Int32)} {d w : Nat} {S : ma_S} {Q : Option ma_V ⊕ Nat → ma_S → Prop} (i : Int32) (o : Int32) (hd : 8 ≤ d) (hw : 132 ≤ w) (hS : zT S) (h : if i < 0 then (Q (.inr 2) (ma_bump S)) else (if (16 : Int32) ≤ i then (Q (.inr 2) (ma_bump S)) else (((mR S 64 11) = none → Q (.inr 3) (ma_bump S)) ∧ (∀ c1, (mR S 64 11) = some c1 → ma_wp X (d - 1) (w - 21) 151 0 [(0, .inr (.inr (some 64))), (1, .inl o)] [] S (zo (fun v3 S2 => zT S2 ∧ ((0 ≤ i ∧ i.toNatClampNeg < 16) ∧ ((v3 = none → (0 ≤ i ∧ i.toNatClampNeg < 16) ∧ (Q (.inl (some (.inl (mI S2 73 i.toNatClampNeg)))) (ma_put S2 73 i.toNatClampNeg (.inl (-1 : Int32))))) ∧ (∀ c4, v3 = some c4 → (126 ≤ c4 ∧ c4 < mN S2) ∧ ((0 ≤ i ∧ i.toNatClampNeg < 16) ∧ (Q (.inl (some (.inl (mI S2 73 i.toNatClampNeg)))) (ma_put S2 73 i.toNatClampNeg (.inl (mI S2 c4 0))))))))) (fun x S9 => Q (.inr x) S9)))))) : ma_wp X d w 154 0 [(0, .inr (.inr (some 64))), (1, .inl i), (2, .inl o)] [] S Q := by
  refine zw_push hm_154 dX11_weak_0 (v := .inl i) rfl ?_
  refine zw_cs hm_154 dX11_weak_1 pn_11_109 sl_11_109 hm_142 [.inl i] [] rfl ⟨by omega, by omega⟩ rfl ?_
  show ma_wp X (d - 1) (w - 20) 142 0 [(0, .inl i)] [] S _
  refine zw_push hm_142 dX11_isSlot_0 (v := .inl i) rfl ?_
  refine zw_if0 hm_142 dX11_isSlot_1 (t := 14) rfl zc0_lt ?_ ?_
  · intro hc
    rw [if_pos hc] at h
    refine zw_push hm_142 dX11_isSlot_14 (v := .inl (0 : Int32)) rfl ?_
    refine zw_bret hm_142 dX11_isSlot_15 (by decide) ?_
    show ma_wp X d w 154 4 [(0, .inr (.inr (some 64))), (1, .inl i), (2, .inl o)] [.inl (0 : Int32)] S _
    refine zw_if0 hm_154 dX11_weak_4 (t := 15) rfl zc0_ne (fun hc => absurd hc (by decide)) (fun _ => ?_)
    exact zw_thr hm_154 dX11_weak_7 dX11_weak_10 dX11_weak_11 dX11_weak_14 x_11_79_81 n_11_79 (by omega) (by show 0 + 81 ≤ w; omega) h
  · intro hc
    rw [if_neg hc] at h
    refine zw_push hm_142 dX11_isSlot_4 (v := .inl i) rfl ?_
    refine zw_push hm_142 dX11_isSlot_5 (v := .inl (16 : Int32)) rfl ?_
    refine zw_if2 hm_142 dX11_isSlot_7 (t := 14) rfl zc2_ge ?_ ?_
    · intro hc
      rw [if_pos hc] at h
      refine zw_push hm_142 dX11_isSlot_14 (v := .inl (0 : Int32)) rfl ?_
      refine zw_bret hm_142 dX11_isSlot_15 (by decide) ?_
      show ma_wp X d w 154 4 [(0, .inr (.inr (some 64))), (1, .inl i), (2, .inl o)] [.inl (0 : Int32)] S _
      refine zw_if0 hm_154 dX11_weak_4 (t := 15) rfl zc0_ne (fun hc => absurd hc (by decide)) (fun _ => ?_)
      exact zw_thr hm_154 dX11_weak_7 dX11_weak_10 dX11_weak_11 dX11_weak_14 x_11_79_81 n_11_79 (by omega) (by show 0 + 81 ≤ w; omega) h
    · intro hc
      rw [if_neg hc] at h
      refine zw_push hm_142 dX11_isSlot_10 (v := .inl (1 : Int32)) rfl ?_
      refine zw_goto hm_142 dX11_isSlot_11 (t := 15) rfl ?_
      refine zw_bret hm_142 dX11_isSlot_15 (by decide) ?_
      show ma_wp X d w 154 4 [(0, .inr (.inr (some 64))), (1, .inl i), (2, .inl o)] [.inl (1 : Int32)] S _
      refine zw_if0 hm_154 dX11_weak_4 (t := 15) rfl zc0_ne (fun _ => ?_) (fun hc => absurd (by decide) hc)
      refine zw_push hm_154 dX11_weak_15 (v := .inr (.inr (some 64))) rfl ?_
      refine zw_cv hm_154 dX11_weak_16 v_11_119_11 hm_144 [] [] rfl (zT_rt hS s_64 rfl) ⟨by omega, by omega⟩ rfl ?_
      show ma_wp X (d - 1) (w - 20) 144 0 [(0, .inr (.inr (some 64)))] [] S _
      refine zw_push hm_144 dX11_needCollector_0 (v := .inr (.inr (some 64))) rfl ?_
      refine zw_gf hm_144 dX11_needCollector_1 (v := .inr (.inr (mR S 64 11))) (zT_is hS s_64) (zT_t hS s_64) rfl f_11_98_11 rfl ?_
      refine zw_ifnonnull hm_144 dX11_needCollector_4 (t := 15) rfl ?_ ?_
      · intro hc
        have h := h.1 hc
        (try rw [hc])
        show ma_wp X (d - 1) (w - 20) 144 7 [(0, .inr (.inr (some 64)))] [] S _
        exact zw_thr hm_144 dX11_needCollector_7 dX11_needCollector_10 dX11_needCollector_11 dX11_needCollector_14 x_11_85_87 n_11_85 (by omega) (by show 0 + 81 ≤ (w - 20); omega) ⟨by decide, h⟩
      · intro c1 hc
        have h := h.2 c1 hc
        (try rw [hc])
        show ma_wp X (d - 1) (w - 20) 144 15 [(0, .inr (.inr (some 64)))] [] S _
        refine zw_push hm_144 dX11_needCollector_15 (v := .inr (.inr (some 64))) rfl ?_
        refine zw_gf hm_144 dX11_needCollector_16 (v := .inr (.inr (mR S 64 11))) (zT_is hS s_64) (zT_t hS s_64) rfl f_11_98_11 rfl ?_
        refine zw_aret hm_144 dX11_needCollector_19 ?_
        show ma_wp X d w 154 19 [(0, .inr (.inr (some 64))), (1, .inl i), (2, .inl o)] [.inr (.inr (mR S 64 11))] S _
        refine zw_stk hm_154 dX11_weak_19 (st' := []) rfl rfl ?_
        refine zw_push hm_154 dX11_weak_20 (v := .inr (.inr (some 64))) rfl ?_
        refine zw_push hm_154 dX11_weak_21 (v := .inl o) rfl ?_
        refine zw_cv hm_154 dX11_weak_22 v_11_142_11 hm_151 [.inl o] [] rfl (zT_rt hS s_64 rfl) ⟨by omega, by omega⟩ rfl (zw_mono h (zo_go ?_ ?_))
        · intro v3 S2 hv
          obtain ⟨hS2, h⟩ := hv
          refine zw_sto hm_154 dX11_weak_25 [(3, .inr (.inr v3)), (0, .inr (.inr (some 64))), (1, .inl i), (2, .inl o)] rfl rfl rfl ?_
          refine zw_push hm_154 dX11_weak_26 (v := .inr (.inr (some 64))) rfl ?_
          refine zw_gf hm_154 dX11_weak_27 (v := .inr (.inr (some 69))) (zT_is hS2 s_64) (zT_t hS2 s_64) rfl f_11_26_11 (zT_f hS2 r_64_8) ?_
          refine zw_gf hm_154 dX11_weak_30 (v := .inr (.inr (some 73))) (zT_is hS2 s_69) (zT_t hS2 s_69) rfl f_11_173_7 (zT_f hS2 r_69_3) ?_
          refine zw_push hm_154 dX11_weak_33 (v := .inl i) rfl ?_
          obtain ⟨hg, h⟩ := h
          refine zw_ia hm_154 dX11_weak_34 (zT_is hS2 s_73) (zT_h hS2 s_73) rfl hg ?_
          show ma_wp X d w 154 35 [(3, .inr (.inr v3)), (0, .inr (.inr (some 64))), (1, .inl i), (2, .inl o)] [.inl (mI S2 73 i.toNatClampNeg)] S2 _
          refine zw_sto hm_154 dX11_weak_35 [(4, .inl (mI S2 73 i.toNatClampNeg)), (3, .inr (.inr v3)), (0, .inr (.inr (some 64))), (1, .inl i), (2, .inl o)] rfl rfl rfl ?_
          refine zw_push hm_154 dX11_weak_37 (v := .inr (.inr (some 64))) rfl ?_
          refine zw_gf hm_154 dX11_weak_38 (v := .inr (.inr (some 69))) (zT_is hS2 s_64) (zT_t hS2 s_64) rfl f_11_26_11 (zT_f hS2 r_64_8) ?_
          refine zw_gf hm_154 dX11_weak_41 (v := .inr (.inr (some 73))) (zT_is hS2 s_69) (zT_t hS2 s_69) rfl f_11_173_7 (zT_f hS2 r_69_3) ?_
          refine zw_push hm_154 dX11_weak_44 (v := .inl i) rfl ?_
          refine zw_push hm_154 dX11_weak_45 (v := .inr (.inr v3)) rfl ?_
          refine zw_cs hm_154 dX11_weak_46 pn_11_161 sl_11_161 hm_146 [.inr (.inr v3)] [.inl i, .inr (.inr (some 73))] rfl ⟨by omega, by omega⟩ rfl ?_
          show ma_wp X (d - 1) (w - 20) 146 0 [(0, .inr (.inr v3))] [] S2 _
          refine zw_push hm_146 dX11_numberOf_0 (v := .inr (.inr v3)) rfl ?_
          refine zw_ifnonnull hm_146 dX11_numberOf_1 (t := 8) rfl ?_ ?_
          · intro hc
            have h := h.1 hc
            (try rw [hc])
            show ma_wp X (d - 1) (w - 20) 146 4 [(0, .inr (.inr none))] [] S2 _
            refine zw_push hm_146 dX11_numberOf_4 (v := .inl (-1 : Int32)) rfl ?_
            refine zw_goto hm_146 dX11_numberOf_5 (t := 12) rfl ?_
            refine zw_iret hm_146 dX11_numberOf_12 ?_
            show ma_wp X d w 154 49 [(4, .inl (mI S2 73 i.toNatClampNeg)), (3, .inr (.inr none)), (0, .inr (.inr (some 64))), (1, .inl i), (2, .inl o)] [.inl (-1 : Int32), .inl i, .inr (.inr (some 73))] S2 _
            obtain ⟨hg, h⟩ := h
            refine zw_ias hm_154 dX11_weak_49 (zT_is hS2 s_73) (zT_h hS2 s_73) rfl hg ?_
            refine zw_push hm_154 dX11_weak_50 (v := .inl (mI S2 73 i.toNatClampNeg)) rfl ?_
            exact zw_iret hm_154 dX11_weak_52 h
          · intro c4 hc
            have h := h.2 c4 hc
            (try rw [hc])
            show ma_wp X (d - 1) (w - 20) 146 8 [(0, .inr (.inr (some c4)))] [] S2 _
            refine zw_push hm_146 dX11_numberOf_8 (v := .inr (.inr (some c4))) rfl ?_
            obtain ⟨hg, h⟩ := h
            refine zw_gf hm_146 dX11_numberOf_9 (v := .inl (mI S2 c4 0)) (zT_tis hS2 hg) (zT_tt hS2 hg) rfl f_11_182_9 rfl ?_
            refine zw_iret hm_146 dX11_numberOf_12 ?_
            show ma_wp X d w 154 49 [(4, .inl (mI S2 73 i.toNatClampNeg)), (3, .inr (.inr (some c4))), (0, .inr (.inr (some 64))), (1, .inl i), (2, .inl o)] [.inl (mI S2 c4 0), .inl i, .inr (.inr (some 73))] S2 _
            obtain ⟨hg, h⟩ := h
            refine zw_ias hm_154 dX11_weak_49 (zT_is hS2 s_73) (zT_h hS2 s_73) rfl hg ?_
            refine zw_push hm_154 dX11_weak_50 (v := .inl (mI S2 73 i.toNatClampNeg)) rfl ?_
            exact zw_iret hm_154 dX11_weak_52 h
        · intro x S9 hx
          exact ⟨by decide, hx⟩
theorem sp_154_64 {X : Nat × (Nat → Int32)} {d w : Nat} {f : Nat → Nat → Int32} {r : Nat → Nat → Option Nat} {C Z N : Nat} {Q : Option ma_V ⊕ Nat → ma_S → Prop} {S : ma_S} (i : Int32) (o : Int32) (hd : 8 ≤ d) (hw : 132 ≤ w) (hI : zB f r C Z N S)  (K : ∀ v S', zB f r C Z N S' → (True) → Q (.inl (some (.inl v))) S') (KX : ∀ x S', (x = 2 ∨ x = 3 ∨ x = 4) → zB f r C Z N S' → Q (.inr x) (ma_bump S')) : ma_wp X d w 154 0 [(0, .inr (.inr (some 64))), (1, .inl i), (2, .inl o)] [] S Q := by
  refine g_154_64_0 i o (by omega) (by omega) (zG_T hI) ?_
  have b1 := i_bd i
  have li2 : (0 : Int32).toInt = 0 := rfl
  refine zd (fun h3 => ?_) (fun h3 => ?_)
  · skip
    have g4 := i_lt h3
    exact KX 2 _ (by decide) hI
  · skip
    have g5 := i_nlt h3
    have li6 : (16 : Int32).toInt = 16 := rfl
    refine zd (fun h7 => ?_) (fun h7 => ?_)
    · skip
      have g8 := i_le h7
      exact KX 2 _ (by decide) hI
    · skip
      have g9 := i_nle h7
      refine ⟨fun _ => ?_, fun c1 hc => ?_⟩
      · skip
        exact KX 3 _ (by decide) hI
      · skip
        have b10 := i_bd o
        refine sp_151_64 (o) (by omega) (by omega) (zB_dn_zI hI)  (fun v3 S2 hL_S2 hq_v3 => zo_n ⟨zG_T hL_S2, ?_⟩) (fun x S9 hx h9 => zo_x (KX x S9 (by omega) (zB_up_zI hI h9)))
        have hI_S2 := zB_up_zI hI hL_S2
        refine ⟨i_ix (by omega) (by omega), ?_⟩
        refine ⟨fun _ => ?_, fun c4 hc => ?_⟩
        · skip
          refine ⟨i_ix (by omega) (by omega), ?_⟩
          have hI11 : zB f r C Z N (ma_put S2 73 i.toNatClampNeg (.inl (-1 : Int32))) := zG_fa hI_S2 rfl (by decide) (by decide) (by decide) (show zB_x (mI S2) from zG_x hI_S2)
          have b12 := i_bd (mI S2 73 i.toNatClampNeg)
          exact K ((mI S2 73 i.toNatClampNeg)) _ hI11 trivial
        · skip
          have th_c4 := hq_v3 c4 hc
          subst hc
          refine ⟨zG_n hI_S2 th_c4, ?_⟩
          refine ⟨i_ix (by omega) (by omega), ?_⟩
          have hI13 : zB f r C Z N (ma_put S2 73 i.toNatClampNeg (.inl (mI S2 c4 0))) := zG_fa hI_S2 rfl (by decide) (by decide) (by decide) (show zB_x (mI S2) from zG_x hI_S2)
          have b14 := i_bd (mI S2 73 i.toNatClampNeg)
          exact K ((mI S2 73 i.toNatClampNeg)) _ hI13 trivial
theorem g_157_64_0 {X : Nat × (Nat → Int32)} {d w : Nat} {S : ma_S} {Q : Option ma_V ⊕ Nat → ma_S → Prop} (o : Int32) (hd : 7 ≤ d) (hw : 111 ≤ w) (hS : zT S) (h : ((mR S 64 11) = none → Q (.inr 3) (ma_bump S)) ∧ (∀ c1, (mR S 64 11) = some c1 → ma_wp X (d - 1) (w - 22) 149 0 [(0, .inr (.inr (some 64))), (1, .inl o)] [] S (zo (fun v3 S2 => zT S2 ∧ ((∃ c4, v3 = some c4 ∧ ((126 ≤ c4 ∧ c4 < mN S2) ∧ (if (mI S2 c4 8) = 0 then ((126 ≤ c4 ∧ c4 < mN S2) ∧ (Q (.inl (some (.inl (1 : Int32)))) (ma_put S2 c4 8 (.inl (1 : Int32))))) else ((126 ≤ c4 ∧ c4 < mN S2) ∧ (Q (.inl (some (.inl (0 : Int32)))) (ma_put S2 c4 8 (.inl (1 : Int32)))))))))) (fun x S9 => Q (.inr x) S9)))) : ma_wp X d w 157 0 [(0, .inr (.inr (some 64))), (1, .inl o)] [] S Q := by
  refine zw_push hm_157 dX11_wish_0 (v := .inr (.inr (some 64))) rfl ?_
  refine zw_cv hm_157 dX11_wish_1 v_11_119_11 hm_144 [] [] rfl (zT_rt hS s_64 rfl) ⟨by omega, by omega⟩ rfl ?_
  show ma_wp X (d - 1) (w - 20) 144 0 [(0, .inr (.inr (some 64)))] [] S _
  refine zw_push hm_144 dX11_needCollector_0 (v := .inr (.inr (some 64))) rfl ?_
  refine zw_gf hm_144 dX11_needCollector_1 (v := .inr (.inr (mR S 64 11))) (zT_is hS s_64) (zT_t hS s_64) rfl f_11_98_11 rfl ?_
  refine zw_ifnonnull hm_144 dX11_needCollector_4 (t := 15) rfl ?_ ?_
  · intro hc
    have h := h.1 hc
    (try rw [hc])
    show ma_wp X (d - 1) (w - 20) 144 7 [(0, .inr (.inr (some 64)))] [] S _
    exact zw_thr hm_144 dX11_needCollector_7 dX11_needCollector_10 dX11_needCollector_11 dX11_needCollector_14 x_11_85_87 n_11_85 (by omega) (by show 0 + 81 ≤ (w - 20); omega) ⟨by decide, h⟩
  · intro c1 hc
    have h := h.2 c1 hc
    (try rw [hc])
    show ma_wp X (d - 1) (w - 20) 144 15 [(0, .inr (.inr (some 64)))] [] S _
    refine zw_push hm_144 dX11_needCollector_15 (v := .inr (.inr (some 64))) rfl ?_
    refine zw_gf hm_144 dX11_needCollector_16 (v := .inr (.inr (mR S 64 11))) (zT_is hS s_64) (zT_t hS s_64) rfl f_11_98_11 rfl ?_
    refine zw_aret hm_144 dX11_needCollector_19 ?_
    show ma_wp X d w 157 4 [(0, .inr (.inr (some 64))), (1, .inl o)] [.inr (.inr (mR S 64 11))] S _
    refine zw_stk hm_157 dX11_wish_4 (st' := []) rfl rfl ?_
    refine zw_push hm_157 dX11_wish_5 (v := .inr (.inr (some 64))) rfl ?_
    refine zw_push hm_157 dX11_wish_6 (v := .inl o) rfl ?_
    refine zw_cv hm_157 dX11_wish_7 v_11_123_11 hm_149 [.inl o] [] rfl (zT_rt hS s_64 rfl) ⟨by omega, by omega⟩ rfl (zw_mono h (zo_go ?_ ?_))
    · intro v3 S2 hv
      obtain ⟨hS2, h⟩ := hv
      obtain ⟨c4, hc, h⟩ := h
      subst hc
      show ma_wp X d w 157 10 [(0, .inr (.inr (some 64))), (1, .inl o)] [.inr (.inr (some c4))] S2 _
      refine zw_sto hm_157 dX11_wish_10 [(2, .inr (.inr (some c4))), (0, .inr (.inr (some 64))), (1, .inl o)] rfl rfl rfl ?_
      refine zw_push hm_157 dX11_wish_11 (v := .inr (.inr (some c4))) rfl ?_
      obtain ⟨hg, h⟩ := h
      refine zw_gf hm_157 dX11_wish_12 (v := .inl (mI S2 c4 8)) (zT_tis hS2 hg) (zT_tt hS2 hg) rfl f_11_199_9 rfl ?_
      refine zw_if0 hm_157 dX11_wish_15 (t := 22) rfl zc0_eq ?_ ?_
      · intro hc
        rw [if_pos hc] at h
        refine zw_push hm_157 dX11_wish_22 (v := .inl (1 : Int32)) rfl ?_
        refine zw_sto hm_157 dX11_wish_23 [(3, .inl (1 : Int32)), (2, .inr (.inr (some c4))), (0, .inr (.inr (some 64))), (1, .inl o)] rfl rfl rfl ?_
        refine zw_push hm_157 dX11_wish_24 (v := .inr (.inr (some c4))) rfl ?_
        refine zw_push hm_157 dX11_wish_25 (v := .inl (1 : Int32)) rfl ?_
        obtain ⟨hg, h⟩ := h
        refine zw_pf hm_157 dX11_wish_26 (zT_tis hS2 hg) (zT_tt hS2 hg) p_11_199_9 (zk_bool (by decide)) ?_
        refine zw_push hm_157 dX11_wish_29 (v := .inl (1 : Int32)) rfl ?_
        exact zw_iret hm_157 dX11_wish_30 h
      · intro hc
        rw [if_neg hc] at h
        refine zw_push hm_157 dX11_wish_18 (v := .inl (0 : Int32)) rfl ?_
        refine zw_goto hm_157 dX11_wish_19 (t := 23) rfl ?_
        refine zw_sto hm_157 dX11_wish_23 [(3, .inl (0 : Int32)), (2, .inr (.inr (some c4))), (0, .inr (.inr (some 64))), (1, .inl o)] rfl rfl rfl ?_
        refine zw_push hm_157 dX11_wish_24 (v := .inr (.inr (some c4))) rfl ?_
        refine zw_push hm_157 dX11_wish_25 (v := .inl (1 : Int32)) rfl ?_
        obtain ⟨hg, h⟩ := h
        refine zw_pf hm_157 dX11_wish_26 (zT_tis hS2 hg) (zT_tt hS2 hg) p_11_199_9 (zk_bool (by decide)) ?_
        refine zw_push hm_157 dX11_wish_29 (v := .inl (0 : Int32)) rfl ?_
        exact zw_iret hm_157 dX11_wish_30 h
    · intro x S9 hx
      exact ⟨by decide, hx⟩
theorem sp_157_64 {X : Nat × (Nat → Int32)} {d w : Nat} {f : Nat → Nat → Int32} {r : Nat → Nat → Option Nat} {C Z N : Nat} {Q : Option ma_V ⊕ Nat → ma_S → Prop} {S : ma_S} (o : Int32) (hd : 7 ≤ d) (hw : 111 ≤ w) (hI : zB f r C Z N S)  (K : ∀ v S', zB f r C Z N S' → (True) → Q (.inl (some (.inl v))) S') (KX : ∀ x S', (x = 3 ∨ x = 4) → zB f r C Z N S' → Q (.inr x) (ma_bump S')) : ma_wp X d w 157 0 [(0, .inr (.inr (some 64))), (1, .inl o)] [] S Q := by
  refine g_157_64_0 o (by omega) (by omega) (zG_T hI) ?_
  refine ⟨fun _ => ?_, fun c1 hc => ?_⟩
  · skip
    exact KX 3 _ (by decide) hI
  · skip
    have b1 := i_bd o
    refine sp_149_64 (o) (by omega) (by omega) (zB_dn_zI hI)  (fun v3 S2 hL_S2 hq_v3 => zo_n ⟨zG_T hL_S2, ?_⟩) (fun x S9 hx h9 => zo_x (KX x S9 (by omega) (zB_up_zI hI h9)))
    have hI_S2 := zB_up_zI hI hL_S2
    obtain ⟨c4, hc, th_c4⟩ := hq_v3
    refine ⟨c4, hc, ?_⟩
    refine ⟨zG_n hI_S2 th_c4, ?_⟩
    have b2 := i_bd (mI S2 c4 8)
    have li3 : (0 : Int32).toInt = 0 := rfl
    refine zd (fun h4 => ?_) (fun h4 => ?_)
    · skip
      have g5 := i_eq h4
      refine ⟨zG_n hI_S2 th_c4, ?_⟩
      have hI6 : zB f r C Z N (ma_put S2 c4 8 (.inl (1 : Int32))) := zG_tf hI_S2 th_c4.1 zB_t (by decide) (by decide) (zB_xt (S := S2) th_c4.1 (zG_x hI_S2)) (by decide) (by decide) (by decide)
      have li7 : (1 : Int32).toInt = 1 := rfl
      exact K ((1 : Int32)) _ hI6 trivial
    · skip
      have g8 := i_ne h4
      refine ⟨zG_n hI_S2 th_c4, ?_⟩
      have hI9 : zB f r C Z N (ma_put S2 c4 8 (.inl (1 : Int32))) := zG_tf hI_S2 th_c4.1 zB_t (by decide) (by decide) (zB_xt (S := S2) th_c4.1 (zG_x hI_S2)) (by decide) (by decide) (by decide)
      exact K ((0 : Int32)) _ hI9 trivial
theorem g_140_64_0 {X : Nat × (Nat → Int32)} {d w : Nat} {S : ma_S} {Q : Option ma_V ⊕ Nat → ma_S → Prop} (wd : Int32) (rf : Int32) (hd : 6 ≤ d) (hw : 89 ≤ w) (hS : zT S) (h : if wd < 0 then (Q (.inr 2) (ma_bump S)) else (if (8 : Int32) < wd then (Q (.inr 2) (ma_bump S)) else (if rf < 0 then (Q (.inr 2) (ma_bump S)) else (if rf < ((1 : Int32) <<< (wd &&& 31)) then (if (mI S 64 7) < (16 : Int32) then ((0 ≤ (mI S 64 7) ∧ (mI S 64 7).toNatClampNeg < 16) ∧ ((0 ≤ (mI S 64 7) ∧ (mI S 64 7).toNatClampNeg < 16) ∧ (Q (.inl (some (.inl (((mI S 64 7) + (1 : Int32)) - (1 : Int32))))) (ma_put (ma_put (ma_put S 67 (mI S 64 7).toNatClampNeg (.inl wd)) 68 (mI S 64 7).toNatClampNeg (.inl rf)) 64 7 (.inl ((mI S 64 7) + (1 : Int32))))))) else (Q (.inr 3) (ma_bump S))) else (Q (.inr 2) (ma_bump S)))))) : ma_wp X d w 140 0 [(0, .inr (.inr (some 64))), (1, .inl wd), (2, .inl rf)] [] S Q := by
  refine zw_push hm_140 dX11_kind_0 (v := .inl wd) rfl ?_
  refine zw_if0 hm_140 dX11_kind_1 (t := 21) rfl zc0_lt ?_ ?_
  · intro hc
    rw [if_pos hc] at h
    exact zw_thr hm_140 dX11_kind_21 dX11_kind_24 dX11_kind_25 dX11_kind_28 x_11_79_81 n_11_79 (by omega) (by show 0 + 81 ≤ w; omega) h
  · intro hc
    rw [if_neg hc] at h
    refine zw_push hm_140 dX11_kind_4 (v := .inl wd) rfl ?_
    refine zw_push hm_140 dX11_kind_5 (v := .inl (8 : Int32)) rfl ?_
    refine zw_if2 hm_140 dX11_kind_7 (t := 21) rfl zc2_gt ?_ ?_
    · intro hc
      rw [if_pos hc] at h
      exact zw_thr hm_140 dX11_kind_21 dX11_kind_24 dX11_kind_25 dX11_kind_28 x_11_79_81 n_11_79 (by omega) (by show 0 + 81 ≤ w; omega) h
    · intro hc
      rw [if_neg hc] at h
      refine zw_push hm_140 dX11_kind_10 (v := .inl rf) rfl ?_
      refine zw_if0 hm_140 dX11_kind_11 (t := 21) rfl zc0_lt ?_ ?_
      · intro hc
        rw [if_pos hc] at h
        exact zw_thr hm_140 dX11_kind_21 dX11_kind_24 dX11_kind_25 dX11_kind_28 x_11_79_81 n_11_79 (by omega) (by show 0 + 81 ≤ w; omega) h
      · intro hc
        rw [if_neg hc] at h
        refine zw_push hm_140 dX11_kind_14 (v := .inl rf) rfl ?_
        refine zw_push hm_140 dX11_kind_15 (v := .inl (1 : Int32)) rfl ?_
        refine zw_push hm_140 dX11_kind_16 (v := .inl wd) rfl ?_
        refine zw_stk hm_140 dX11_kind_17 (st' := [.inl ((1 : Int32) <<< (wd &&& 31)), .inl rf]) rfl rfl ?_
        refine zw_if2 hm_140 dX11_kind_18 (t := 29) rfl zc2_lt ?_ ?_
        · intro hc
          rw [if_pos hc] at h
          refine zw_push hm_140 dX11_kind_29 (v := .inr (.inr (some 64))) rfl ?_
          refine zw_gf hm_140 dX11_kind_30 (v := .inl (mI S 64 7)) (zT_is hS s_64) (zT_t hS s_64) rfl f_11_82_11 rfl ?_
          refine zw_push hm_140 dX11_kind_33 (v := .inl (16 : Int32)) rfl ?_
          refine zw_if2 hm_140 dX11_kind_35 (t := 46) rfl zc2_lt ?_ ?_
          · intro hc
            rw [if_pos hc] at h
            refine zw_push hm_140 dX11_kind_46 (v := .inr (.inr (some 64))) rfl ?_
            refine zw_gf hm_140 dX11_kind_47 (v := .inr (.inr (some 67))) (zT_is hS s_64) (zT_t hS s_64) rfl f_11_17_11 (zT_f hS r_64_5) ?_
            refine zw_push hm_140 dX11_kind_50 (v := .inr (.inr (some 64))) rfl ?_
            refine zw_gf hm_140 dX11_kind_51 (v := .inl (mI S 64 7)) (zT_is hS s_64) (zT_t hS s_64) rfl f_11_82_11 rfl ?_
            refine zw_push hm_140 dX11_kind_54 (v := .inl wd) rfl ?_
            obtain ⟨hg, h⟩ := h
            refine zw_ias hm_140 dX11_kind_55 (zT_is hS s_67) (zT_h hS s_67) rfl hg ?_
            refine zw_push hm_140 dX11_kind_56 (v := .inr (.inr (some 64))) rfl ?_
            refine zw_gf hm_140 dX11_kind_57 (v := .inr (.inr (some 68))) (zT_is (zT_pi hS) s_64) (zT_t (zT_pi hS) s_64) rfl f_11_20_11 (zT_f (zT_pi hS) r_64_6) ?_
            refine zw_push hm_140 dX11_kind_60 (v := .inr (.inr (some 64))) rfl ?_
            refine zw_gf hm_140 dX11_kind_61 (v := .inl (mI S 64 7)) (zT_is (zT_pi hS) s_64) (zT_t (zT_pi hS) s_64) rfl f_11_82_11 rfl ?_
            refine zw_push hm_140 dX11_kind_64 (v := .inl rf) rfl ?_
            obtain ⟨hg, h⟩ := h
            refine zw_ias hm_140 dX11_kind_65 (zT_is (zT_pi hS) s_68) (zT_h (zT_pi hS) s_68) rfl hg ?_
            refine zw_push hm_140 dX11_kind_66 (v := .inr (.inr (some 64))) rfl ?_
            refine zw_stk hm_140 dX11_kind_67 (st' := [.inr (.inr (some 64)), .inr (.inr (some 64))]) rfl rfl ?_
            refine zw_gf hm_140 dX11_kind_68 (v := .inl (mI S 64 7)) (zT_is (zT_pi (zT_pi hS)) s_64) (zT_t (zT_pi (zT_pi hS)) s_64) rfl f_11_82_11 rfl ?_
            refine zw_push hm_140 dX11_kind_71 (v := .inl (1 : Int32)) rfl ?_
            refine zw_stk hm_140 dX11_kind_72 (st' := [.inl ((mI S 64 7) + (1 : Int32)), .inr (.inr (some 64))]) rfl rfl ?_
            refine zw_pf hm_140 dX11_kind_73 (zT_is (zT_pi (zT_pi hS)) s_64) (zT_t (zT_pi (zT_pi hS)) s_64) p_11_82_11 zk_int ?_
            refine zw_push hm_140 dX11_kind_76 (v := .inr (.inr (some 64))) rfl ?_
            refine zw_gf hm_140 dX11_kind_77 (v := .inl ((mI S 64 7) + (1 : Int32))) (zT_is (zT_pi (zT_pi (zT_pi hS))) s_64) (zT_t (zT_pi (zT_pi (zT_pi hS))) s_64) rfl f_11_82_11 rfl ?_
            refine zw_push hm_140 dX11_kind_80 (v := .inl (1 : Int32)) rfl ?_
            refine zw_stk hm_140 dX11_kind_81 (st' := [.inl (((mI S 64 7) + (1 : Int32)) - (1 : Int32))]) rfl rfl ?_
            exact zw_iret hm_140 dX11_kind_82 h
          · intro hc
            rw [if_neg hc] at h
            exact zw_thr hm_140 dX11_kind_38 dX11_kind_41 dX11_kind_42 dX11_kind_45 x_11_85_87 n_11_85 (by omega) (by show 0 + 81 ≤ w; omega) h
        · intro hc
          rw [if_neg hc] at h
          exact zw_thr hm_140 dX11_kind_21 dX11_kind_24 dX11_kind_25 dX11_kind_28 x_11_79_81 n_11_79 (by omega) (by show 0 + 81 ≤ w; omega) h
theorem sp_140_64 {X : Nat × (Nat → Int32)} {d w : Nat} {f : Nat → Nat → Int32} {r : Nat → Nat → Option Nat} {C Z N : Nat} {Q : Option ma_V ⊕ Nat → ma_S → Prop} {S : ma_S} (wd : Int32) (rf : Int32) (hd : 6 ≤ d) (hw : 89 ≤ w) (hI : zAn f r C Z N S) (hpre0 : (mI S 64 1).toInt = (mI S 94 3).toInt) (hpre1 : (mI S 64 7).toInt = (mI S 94 7).toInt) (K : ∀ v S', zAn f r C Z N S' → ((mI S' 64 1).toInt = (mI S' 94 3).toInt ∧ v.toInt = (mI S' 94 7).toInt ∧ (mI S' 64 7).toInt = (mI S' 94 7).toInt + 1 ∧ (mI S' 94 7).toInt < 16 ∧ ¬ (wd.toInt < 0 ∨ 8 < wd.toInt ∨ rf.toInt < 0 ∨ ((1 : Int32) <<< (wd &&& 31)).toInt ≤ rf.toInt)) → Q (.inl (some (.inl v))) S') (KX : ∀ x S', (x = 2 ∨ x = 3) → zAn f r C Z N S' → ((mI S' 64 1).toInt = (mI S' 94 3).toInt ∧ (mI S' 64 7).toInt = (mI S' 94 7).toInt ∧ (x = 2 → (wd.toInt < 0 ∨ 8 < wd.toInt ∨ rf.toInt < 0 ∨ ((1 : Int32) <<< (wd &&& 31)).toInt ≤ rf.toInt)) ∧ (x = 3 → ¬ (wd.toInt < 0 ∨ 8 < wd.toInt ∨ rf.toInt < 0 ∨ ((1 : Int32) <<< (wd &&& 31)).toInt ≤ rf.toInt) ∧ 16 ≤ (mI S' 94 7).toInt)) → Q (.inr x) (ma_bump S')) : ma_wp X d w 140 0 [(0, .inr (.inr (some 64))), (1, .inl wd), (2, .inl rf)] [] S Q := by
  refine g_140_64_0 wd rf (by omega) (by omega) (zG_T hI) ?_
  have f1 := zG_s hI (0) (100) (c := 64) (k := 1) (by decide)
  have q2 : (mI S 94 3).toInt = (f 94 3).toInt := zG_zi hI rfl
  have b3 := i_bd (mI S 94 3)
  have f4 := zG_s hI (0) (16) (c := 64) (k := 7) (by decide)
  have q5 : (mI S 94 7).toInt = (f 94 7).toInt := zG_zi hI rfl
  have b6 := i_bd (mI S 94 7)
  have b7 := i_bd wd
  have li8 : (0 : Int32).toInt = 0 := rfl
  refine zd (fun h9 => ?_) (fun h9 => ?_)
  · skip
    have g10 := i_lt h9
    exact KX 2 _ (by decide) hI (show (mI S 64 1).toInt = (mI S 94 3).toInt ∧ (mI S 64 7).toInt = (mI S 94 7).toInt ∧ (2 = 2 → (wd.toInt < 0 ∨ 8 < wd.toInt ∨ rf.toInt < 0 ∨ ((1 : Int32) <<< (wd &&& 31)).toInt ≤ rf.toInt)) ∧ (2 = 3 → ¬ (wd.toInt < 0 ∨ 8 < wd.toInt ∨ rf.toInt < 0 ∨ ((1 : Int32) <<< (wd &&& 31)).toInt ≤ rf.toInt) ∧ 16 ≤ (mI S 94 7).toInt) from by omega)
  · skip
    have g11 := i_nlt h9
    have li12 : (8 : Int32).toInt = 8 := rfl
    refine zd (fun h13 => ?_) (fun h13 => ?_)
    · skip
      have g14 := i_lt h13
      exact KX 2 _ (by decide) hI (show (mI S 64 1).toInt = (mI S 94 3).toInt ∧ (mI S 64 7).toInt = (mI S 94 7).toInt ∧ (2 = 2 → (wd.toInt < 0 ∨ 8 < wd.toInt ∨ rf.toInt < 0 ∨ ((1 : Int32) <<< (wd &&& 31)).toInt ≤ rf.toInt)) ∧ (2 = 3 → ¬ (wd.toInt < 0 ∨ 8 < wd.toInt ∨ rf.toInt < 0 ∨ ((1 : Int32) <<< (wd &&& 31)).toInt ≤ rf.toInt) ∧ 16 ≤ (mI S 94 7).toInt) from by omega)
    · skip
      have g15 := i_nlt h13
      have b16 := i_bd rf
      refine zd (fun h17 => ?_) (fun h17 => ?_)
      · skip
        have g18 := i_lt h17
        exact KX 2 _ (by decide) hI (show (mI S 64 1).toInt = (mI S 94 3).toInt ∧ (mI S 64 7).toInt = (mI S 94 7).toInt ∧ (2 = 2 → (wd.toInt < 0 ∨ 8 < wd.toInt ∨ rf.toInt < 0 ∨ ((1 : Int32) <<< (wd &&& 31)).toInt ≤ rf.toInt)) ∧ (2 = 3 → ¬ (wd.toInt < 0 ∨ 8 < wd.toInt ∨ rf.toInt < 0 ∨ ((1 : Int32) <<< (wd &&& 31)).toInt ≤ rf.toInt) ∧ 16 ≤ (mI S 94 7).toInt) from by omega)
      · skip
        have g19 := i_nlt h17
        have b20 := i_bd ((1 : Int32) <<< (wd &&& 31))
        refine zd (fun h21 => ?_) (fun h21 => ?_)
        · skip
          have g22 := i_lt h21
          have li23 : (16 : Int32).toInt = 16 := rfl
          refine zd (fun h24 => ?_) (fun h24 => ?_)
          · skip
            have g25 := i_lt h24
            refine ⟨i_ix (by omega) (by omega), ?_⟩
            refine ⟨i_ix (by omega) (by omega), ?_⟩
            have hI26 : zAn f r C Z N (ma_put S 67 (mI S 64 7).toNatClampNeg (.inl wd)) := zG_sa hI (0) (8) rfl (by decide) (by decide) (by decide) (show zAn_x (mI S) from zG_x hI) (by omega) (by omega)
            have hI27 : zAn f r C Z N (ma_put (ma_put S 67 (mI S 64 7).toNatClampNeg (.inl wd)) 68 (mI S 64 7).toNatClampNeg (.inl rf)) := zG_fa hI26 rfl (by decide) (by decide) (by decide) (show zAn_x (mI (ma_put S 67 (mI S 64 7).toNatClampNeg (.inl wd))) from zG_x hI26)
            first | have e29 : ((mI S 64 7) + (1 : Int32)).toInt = (mI S 64 7).toInt + (1) := i_addk rfl (by omega) (by omega) | have b30 := i_bd ((mI S 64 7) + (1 : Int32))
            have hI28 : zAn f r C Z N (ma_put (ma_put (ma_put S 67 (mI S 64 7).toNatClampNeg (.inl wd)) 68 (mI S 64 7).toNatClampNeg (.inl rf)) 64 7 (.inl ((mI S 64 7) + (1 : Int32)))) := zG_sp hI27 (0) (16) rfl (by decide) (by decide) (by decide) (show zAn_x (mI (ma_put (ma_put S 67 (mI S 64 7).toNatClampNeg (.inl wd)) 68 (mI S 64 7).toNatClampNeg (.inl rf))) from zG_x hI27) (by omega) (by omega)
            first | have e31 : (((mI S 64 7) + (1 : Int32)) - (1 : Int32)).toInt = ((mI S 64 7) + (1 : Int32)).toInt - (1) := i_subk rfl (by omega) (by omega) | have b32 := i_bd (((mI S 64 7) + (1 : Int32)) - (1 : Int32))
            exact K ((((mI S 64 7) + (1 : Int32)) - (1 : Int32))) _ hI28 (show (mI S 64 1).toInt = (mI S 94 3).toInt ∧ (((mI S 64 7) + (1 : Int32)) - (1 : Int32)).toInt = (mI S 94 7).toInt ∧ ((mI S 64 7) + (1 : Int32)).toInt = (mI S 94 7).toInt + 1 ∧ (mI S 94 7).toInt < 16 ∧ ¬ (wd.toInt < 0 ∨ 8 < wd.toInt ∨ rf.toInt < 0 ∨ ((1 : Int32) <<< (wd &&& 31)).toInt ≤ rf.toInt) from by omega)
          · skip
            have g33 := i_nlt h24
            exact KX 3 _ (by decide) hI (show (mI S 64 1).toInt = (mI S 94 3).toInt ∧ (mI S 64 7).toInt = (mI S 94 7).toInt ∧ (3 = 2 → (wd.toInt < 0 ∨ 8 < wd.toInt ∨ rf.toInt < 0 ∨ ((1 : Int32) <<< (wd &&& 31)).toInt ≤ rf.toInt)) ∧ (3 = 3 → ¬ (wd.toInt < 0 ∨ 8 < wd.toInt ∨ rf.toInt < 0 ∨ ((1 : Int32) <<< (wd &&& 31)).toInt ≤ rf.toInt) ∧ 16 ≤ (mI S 94 7).toInt) from by omega)
        · skip
          have g34 := i_nlt h21
          exact KX 2 _ (by decide) hI (show (mI S 64 1).toInt = (mI S 94 3).toInt ∧ (mI S 64 7).toInt = (mI S 94 7).toInt ∧ (2 = 2 → (wd.toInt < 0 ∨ 8 < wd.toInt ∨ rf.toInt < 0 ∨ ((1 : Int32) <<< (wd &&& 31)).toInt ≤ rf.toInt)) ∧ (2 = 3 → ¬ (wd.toInt < 0 ∨ 8 < wd.toInt ∨ rf.toInt < 0 ∨ ((1 : Int32) <<< (wd &&& 31)).toInt ≤ rf.toInt) ∧ 16 ≤ (mI S 94 7).toInt) from by omega)
