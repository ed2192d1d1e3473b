/-! from 95.m28 -/
/-! COUNTS, the class (written by wip/tools/gen20k.py) -/
theorem g_24_84_sk_0 {X : Nat × (Nat → Int32)} {d w : Nat} {S : ma_S} {Q : Option ma_V ⊕ Nat → ma_S → Prop} (t : Option Nat) (hd : 4 ≤ d) (hw : 86 ≤ w) (hS : zT S) (h : ma_wp X (d - 1) (w - 21) 25 0 [(0, .inr (.inr (some 84))), (1, .inr (.inr t))] [] (ma_put S 84 7 (.inl (0 : Int32))) (zv (fun S1 => zT S1 ∧ (ma_wp X d w 24 12 [(0, .inr (.inr (some 84))), (2, .inl (0 : Int32))] [] S1 Q)) (fun x S9 => Q (.inr x) S9))) : ma_wp X d w 24 0 [(0, .inr (.inr (some 84))), (1, .inr (.inr t))] [] S Q := by
  refine zw_push hm_24 dX2_noteFewer_0 (v := .inr (.inr (some 84))) rfl ?_
  refine zw_push hm_24 dX2_noteFewer_1 (v := .inl (0 : Int32)) rfl ?_
  refine zw_pf hm_24 dX2_noteFewer_2 (zT_is hS s_84) (zT_t hS s_84) p_2_25_2 zk_int ?_
  refine zw_push hm_24 dX2_noteFewer_5 (v := .inr (.inr (some 84))) rfl ?_
  refine zw_push hm_24 dX2_noteFewer_6 (v := .inr (.inr t)) rfl ?_
  refine zw_cv hm_24 dX2_noteFewer_7 v_2_28_2 hm_25 [.inr (.inr t)] [] rfl (zT_rt (zT_pi hS) s_84 rfl) ⟨by omega, by omega⟩ rfl (zw_mono h (zv_go ?_ ?_))
  · intro S1 hv
    obtain ⟨hS1, h⟩ := hv
    refine zw_push hm_24 dX2_noteFewer_10 (v := .inl (0 : Int32)) rfl ?_
    refine zw_sto hm_24 dX2_noteFewer_11 [(2, .inl (0 : Int32)), (0, .inr (.inr (some 84))), (1, .inr (.inr t))] rfl rfl rfl ?_
    exact zw_sub (ma_nd_of (ks := [0, 2]) rfl (by decide)) (ma_nd_of (ks := [2, 0, 1]) rfl (by decide)) (ma_le_cons rfl (ma_le_cons rfl (ma_le_nil _))) h
  · intro x S9 hx
    exact ⟨by decide, hx⟩
theorem g_24_84_sk_12 {X : Nat × (Nat → Int32)} {d w : Nat} {S : ma_S} {Q : Option ma_V ⊕ Nat → ma_S → Prop} (l2 : Int32) (hd : 4 ≤ d) (hw : 86 ≤ w) (hS : zT S) (h : if (mI S 84 7) ≤ 0 then (Q (.inl none) S) else (if (1000000 : Int32) ≤ l2 then (Q (.inl none) S) else ((0 ≤ ((mI S 84 7) - (1 : Int32)) ∧ ((mI S 84 7) - (1 : Int32)).toNatClampNeg < 512) ∧ ((0 ≤ ((mI S 84 7) - (1 : Int32)) ∧ ((mI S 84 7) - (1 : Int32)).toNatClampNeg < 512) ∧ (((mR S 85 ((mI S 84 7) - (1 : Int32)).toNatClampNeg) = none → ma_wp X d w 24 12 [(0, .inr (.inr (some 84))), (2, .inl (l2 + (1 : Int32)))] [] (ma_put S 84 7 (.inl ((mI S 84 7) - (1 : Int32)))) Q) ∧ (∀ c1, (mR S 85 ((mI S 84 7) - (1 : Int32)).toNatClampNeg) = some c1 → (126 ≤ c1 ∧ c1 < mN S) ∧ (if (mI S 86 ((mI S 84 7) - (1 : Int32)).toNatClampNeg) < 0 then (ma_wp X (d - 1) (w - 23) 87 0 [(0, .inr (.inr (some 69))), (1, .inr (.inr (some c1)))] [] (ma_put S 84 7 (.inl ((mI S 84 7) - (1 : Int32)))) (zv (fun S2 => zT S2 ∧ (ma_wp X d w 24 12 [(0, .inr (.inr (some 84))), (2, .inl (l2 + (1 : Int32)))] [] S2 Q)) (fun x S9 => Q (.inr x) S9))) else ((126 ≤ c1 ∧ c1 < mN S) ∧ (if ((mI S c1 2) - (1 : Int32)) ≤ (mI S 86 ((mI S 84 7) - (1 : Int32)).toNatClampNeg) then (ma_wp X (d - 1) (w - 23) 87 0 [(0, .inr (.inr (some 69))), (1, .inr (.inr (some c1)))] [] (ma_put S 84 7 (.inl ((mI S 84 7) - (1 : Int32)))) (zv (fun S4 => zT S4 ∧ (ma_wp X d w 24 12 [(0, .inr (.inr (some 84))), (2, .inl (l2 + (1 : Int32)))] [] S4 Q)) (fun x S9 => Q (.inr x) S9))) else ((0 ≤ ((mI S 84 7) - (1 : Int32)) ∧ ((mI S 84 7) - (1 : Int32)).toNatClampNeg < 512) ∧ (ma_wp X (d - 1) (w - 22) 26 0 [(0, .inr (.inr (some 84))), (1, .inr (.inr (some c1))), (2, .inl (mI S 86 ((mI S 84 7) - (1 : Int32)).toNatClampNeg))] [] (ma_put S 86 ((mI S 84 7) - (1 : Int32)).toNatClampNeg (.inl ((mI S 86 ((mI S 84 7) - (1 : Int32)).toNatClampNeg) + (1 : Int32)))) (zv (fun S6 => zT S6 ∧ (ma_wp X d w 24 12 [(0, .inr (.inr (some 84))), (2, .inl (l2 + (1 : Int32)))] [] S6 Q)) (fun x S9 => Q (.inr x) S9))))))))))))) : ma_wp X d w 24 12 [(0, .inr (.inr (some 84))), (2, .inl l2)] [] S Q := by
  refine zw_push hm_24 dX2_noteFewer_12 (v := .inr (.inr (some 84))) rfl ?_
  refine zw_gf hm_24 dX2_noteFewer_13 (v := .inl (mI S 84 7)) (zT_is hS s_84) (zT_t hS s_84) rfl f_2_25_2 rfl ?_
  refine zw_if0 hm_24 dX2_noteFewer_16 (t := 125) rfl zc0_le ?_ ?_
  · intro hc
    rw [if_pos hc] at h
    exact zw_vret hm_24 dX2_noteFewer_125 h
  · intro hc
    rw [if_neg hc] at h
    refine zw_push hm_24 dX2_noteFewer_19 (v := .inl l2) rfl ?_
    refine zw_lc hm_24 dX2_noteFewer_20 lc_2_32 ?_
    refine zw_if2 hm_24 dX2_noteFewer_22 (t := 125) rfl zc2_ge ?_ ?_
    · intro hc
      rw [if_pos hc] at h
      exact zw_vret hm_24 dX2_noteFewer_125 h
    · intro hc
      rw [if_neg hc] at h
      refine zw_push hm_24 dX2_noteFewer_25 (v := .inr (.inr (some 84))) rfl ?_
      refine zw_gf hm_24 dX2_noteFewer_26 (v := .inr (.inr (some 85))) (zT_is hS s_84) (zT_t hS s_84) rfl f_2_11_2 (zT_f hS r_84_5) ?_
      refine zw_push hm_24 dX2_noteFewer_29 (v := .inr (.inr (some 84))) rfl ?_
      refine zw_gf hm_24 dX2_noteFewer_30 (v := .inl (mI S 84 7)) (zT_is hS s_84) (zT_t hS s_84) rfl f_2_25_2 rfl ?_
      refine zw_push hm_24 dX2_noteFewer_33 (v := .inl (1 : Int32)) rfl ?_
      refine zw_stk hm_24 dX2_noteFewer_34 (st₉ := [.inl ((mI S 84 7) - (1 : Int32)), .inr (.inr (some 85))]) rfl rfl ?_
      obtain ⟨hg, h⟩ := h
      refine zw_aa hm_24 dX2_noteFewer_35 (zT_is hS s_85) (zT_h hS s_85) rfl rfl hg rfl ?_
      show ma_wp X d w 24 36 [(0, .inr (.inr (some 84))), (2, .inl l2)] [.inr (.inr (mR S 85 ((mI S 84 7) - (1 : Int32)).toNatClampNeg))] S _
      refine zw_sto hm_24 dX2_noteFewer_36 [(3, .inr (.inr (mR S 85 ((mI S 84 7) - (1 : Int32)).toNatClampNeg))), (0, .inr (.inr (some 84))), (2, .inl l2)] rfl rfl rfl ?_
      refine zw_push hm_24 dX2_noteFewer_37 (v := .inr (.inr (some 84))) rfl ?_
      refine zw_gf hm_24 dX2_noteFewer_38 (v := .inr (.inr (some 86))) (zT_is hS s_84) (zT_t hS s_84) rfl f_2_17_2 (zT_f hS r_84_6) ?_
      refine zw_push hm_24 dX2_noteFewer_41 (v := .inr (.inr (some 84))) rfl ?_
      refine zw_gf hm_24 dX2_noteFewer_42 (v := .inl (mI S 84 7)) (zT_is hS s_84) (zT_t hS s_84) rfl f_2_25_2 rfl ?_
      refine zw_push hm_24 dX2_noteFewer_45 (v := .inl (1 : Int32)) rfl ?_
      refine zw_stk hm_24 dX2_noteFewer_46 (st₉ := [.inl ((mI S 84 7) - (1 : Int32)), .inr (.inr (some 86))]) rfl rfl ?_
      obtain ⟨hg, h⟩ := h
      refine zw_ia hm_24 dX2_noteFewer_47 (zT_is hS s_86) (zT_h hS s_86) rfl hg ?_
      show ma_wp X d w 24 48 [(3, .inr (.inr (mR S 85 ((mI S 84 7) - (1 : Int32)).toNatClampNeg))), (0, .inr (.inr (some 84))), (2, .inl l2)] [.inl (mI S 86 ((mI S 84 7) - (1 : Int32)).toNatClampNeg)] S _
      refine zw_sto hm_24 dX2_noteFewer_48 [(4, .inl (mI S 86 ((mI S 84 7) - (1 : Int32)).toNatClampNeg)), (3, .inr (.inr (mR S 85 ((mI S 84 7) - (1 : Int32)).toNatClampNeg))), (0, .inr (.inr (some 84))), (2, .inl l2)] rfl rfl rfl ?_
      refine zw_push hm_24 dX2_noteFewer_50 (v := .inr (.inr (mR S 85 ((mI S 84 7) - (1 : Int32)).toNatClampNeg))) rfl ?_
      refine zw_ifnonnull hm_24 dX2_noteFewer_51 (t := 67) rfl ?_ ?_
      · intro hc
        have h := h.1 hc
        (try rw [hc])
        show ma_wp X d w 24 54 [(4, .inl (mI S 86 ((mI S 84 7) - (1 : Int32)).toNatClampNeg)), (3, .inr (.inr none)), (0, .inr (.inr (some 84))), (2, .inl l2)] [] S _
        refine zw_push hm_24 dX2_noteFewer_54 (v := .inr (.inr (some 84))) rfl ?_
        refine zw_stk hm_24 dX2_noteFewer_55 (st₉ := [.inr (.inr (some 84)), .inr (.inr (some 84))]) rfl rfl ?_
        refine zw_gf hm_24 dX2_noteFewer_56 (v := .inl (mI S 84 7)) (zT_is hS s_84) (zT_t hS s_84) rfl f_2_25_2 rfl ?_
        refine zw_push hm_24 dX2_noteFewer_59 (v := .inl (1 : Int32)) rfl ?_
        refine zw_stk hm_24 dX2_noteFewer_60 (st₉ := [.inl ((mI S 84 7) - (1 : Int32)), .inr (.inr (some 84))]) rfl rfl ?_
        refine zw_pf hm_24 dX2_noteFewer_61 (zT_is hS s_84) (zT_t hS s_84) p_2_25_2 zk_int ?_
        refine zw_goto hm_24 dX2_noteFewer_64 (t := 119) rfl ?_
        refine zw_sto hm_24 dX2_noteFewer_119 [(2, .inl (l2 + (1 : Int32))), (4, .inl (mI S 86 ((mI S 84 7) - (1 : Int32)).toNatClampNeg)), (3, .inr (.inr none)), (0, .inr (.inr (some 84)))] rfl rfl rfl ?_
        refine zw_goto hm_24 dX2_noteFewer_122 (t := 12) rfl ?_
        exact zw_sub (ma_nd_of (ks := [0, 2]) rfl (by decide)) (ma_nd_of (ks := [2, 4, 3, 0]) rfl (by decide)) (ma_le_cons rfl (ma_le_cons rfl (ma_le_nil _))) h
      · intro c1 hc
        have h := h.2 c1 hc
        (try rw [hc])
        show ma_wp X d w 24 67 [(4, .inl (mI S 86 ((mI S 84 7) - (1 : Int32)).toNatClampNeg)), (3, .inr (.inr (some c1))), (0, .inr (.inr (some 84))), (2, .inl l2)] [] S _
        refine zw_push hm_24 dX2_noteFewer_67 (v := .inr (.inr (some c1))) rfl ?_
        refine zw_push hm_24 dX2_noteFewer_68 (v := .inl (mI S 86 ((mI S 84 7) - (1 : Int32)).toNatClampNeg)) rfl ?_
        obtain ⟨hg, h⟩ := h
        refine zw_cv hm_24 dX2_noteFewer_70 v_2_33_9 hm_114 [.inl (mI S 86 ((mI S 84 7) - (1 : Int32)).toNatClampNeg)] [] rfl (zT_trt hS hg) ⟨by omega, by omega⟩ rfl ?_
        show ma_wp X (d - 1) (w - 21) 114 0 [(0, .inr (.inr (some c1))), (1, .inl (mI S 86 ((mI S 84 7) - (1 : Int32)).toNatClampNeg))] [] S _
        refine zw_push hm_114 dX9_hasWord_0 (v := .inl (mI S 86 ((mI S 84 7) - (1 : Int32)).toNatClampNeg)) rfl ?_
        refine zw_if0 hm_114 dX9_hasWord_1 (t := 18) rfl zc0_lt ?_ ?_
        · intro hc
          rw [if_pos hc] at h
          refine zw_push hm_114 dX9_hasWord_18 (v := .inl (0 : Int32)) rfl ?_
          refine zw_bret hm_114 dX9_hasWord_19 (by decide) ?_
          show ma_wp X d w 24 73 [(4, .inl (mI S 86 ((mI S 84 7) - (1 : Int32)).toNatClampNeg)), (3, .inr (.inr (some c1))), (0, .inr (.inr (some 84))), (2, .inl l2)] [.inl (0 : Int32)] S _
          refine zw_if0 hm_24 dX2_noteFewer_73 (t := 101) rfl zc0_eq (fun _ => ?_) (fun hc => absurd (by decide) hc)
          refine zw_push hm_24 dX2_noteFewer_101 (v := .inr (.inr (some 84))) rfl ?_
          refine zw_stk hm_24 dX2_noteFewer_102 (st₉ := [.inr (.inr (some 84)), .inr (.inr (some 84))]) rfl rfl ?_
          refine zw_gf hm_24 dX2_noteFewer_103 (v := .inl (mI S 84 7)) (zT_is hS s_84) (zT_t hS s_84) rfl f_2_25_2 rfl ?_
          refine zw_push hm_24 dX2_noteFewer_106 (v := .inl (1 : Int32)) rfl ?_
          refine zw_stk hm_24 dX2_noteFewer_107 (st₉ := [.inl ((mI S 84 7) - (1 : Int32)), .inr (.inr (some 84))]) rfl rfl ?_
          refine zw_pf hm_24 dX2_noteFewer_108 (zT_is hS s_84) (zT_t hS s_84) p_2_25_2 zk_int ?_
          refine zw_push hm_24 dX2_noteFewer_111 (v := .inr (.inr (some 84))) rfl ?_
          refine zw_gf hm_24 dX2_noteFewer_112 (v := .inr (.inr (some 69))) (zT_is (zT_pi hS) s_84) (zT_t (zT_pi hS) s_84) rfl f_2_41_2 (zT_f (zT_pi hS) r_84_3) ?_
          refine zw_push hm_24 dX2_noteFewer_115 (v := .inr (.inr (some c1))) rfl ?_
          refine zw_cv hm_24 dX2_noteFewer_116 v_2_45_7 hm_87 [.inr (.inr (some c1))] [] rfl (zT_rt (zT_pi hS) s_69 rfl) ⟨by omega, by omega⟩ rfl (zw_mono h (zv_go ?_ ?_))
          · intro S2 hv
            obtain ⟨hS2, h⟩ := hv
            refine zw_sto hm_24 dX2_noteFewer_119 [(2, .inl (l2 + (1 : Int32))), (4, .inl (mI S 86 ((mI S 84 7) - (1 : Int32)).toNatClampNeg)), (3, .inr (.inr (some c1))), (0, .inr (.inr (some 84)))] rfl rfl rfl ?_
            refine zw_goto hm_24 dX2_noteFewer_122 (t := 12) rfl ?_
            exact zw_sub (ma_nd_of (ks := [0, 2]) rfl (by decide)) (ma_nd_of (ks := [2, 4, 3, 0]) rfl (by decide)) (ma_le_cons rfl (ma_le_cons rfl (ma_le_nil _))) h
          · intro x S9 hx
            exact ⟨by decide, hx⟩
        · intro hc
          rw [if_neg hc] at h
          refine zw_push hm_114 dX9_hasWord_4 (v := .inl (mI S 86 ((mI S 84 7) - (1 : Int32)).toNatClampNeg)) rfl ?_
          refine zw_push hm_114 dX9_hasWord_5 (v := .inr (.inr (some c1))) rfl ?_
          obtain ⟨hg, h⟩ := h
          refine zw_gf hm_114 dX9_hasWord_6 (v := .inl (mI S c1 2)) (zT_tis hS hg) (zT_tt hS hg) rfl f_9_16_9 rfl ?_
          refine zw_push hm_114 dX9_hasWord_9 (v := .inl (1 : Int32)) rfl ?_
          refine zw_stk hm_114 dX9_hasWord_10 (st₉ := [.inl ((mI S c1 2) - (1 : Int32)), .inl (mI S 86 ((mI S 84 7) - (1 : Int32)).toNatClampNeg)]) rfl rfl ?_
          refine zw_if2 hm_114 dX9_hasWord_11 (t := 18) rfl zc2_ge ?_ ?_
          · intro hc
            rw [if_pos hc] at h
            refine zw_push hm_114 dX9_hasWord_18 (v := .inl (0 : Int32)) rfl ?_
            refine zw_bret hm_114 dX9_hasWord_19 (by decide) ?_
            show ma_wp X d w 24 73 [(4, .inl (mI S 86 ((mI S 84 7) - (1 : Int32)).toNatClampNeg)), (3, .inr (.inr (some c1))), (0, .inr (.inr (some 84))), (2, .inl l2)] [.inl (0 : Int32)] S _
            refine zw_if0 hm_24 dX2_noteFewer_73 (t := 101) rfl zc0_eq (fun _ => ?_) (fun hc => absurd (by decide) hc)
            refine zw_push hm_24 dX2_noteFewer_101 (v := .inr (.inr (some 84))) rfl ?_
            refine zw_stk hm_24 dX2_noteFewer_102 (st₉ := [.inr (.inr (some 84)), .inr (.inr (some 84))]) rfl rfl ?_
            refine zw_gf hm_24 dX2_noteFewer_103 (v := .inl (mI S 84 7)) (zT_is hS s_84) (zT_t hS s_84) rfl f_2_25_2 rfl ?_
            refine zw_push hm_24 dX2_noteFewer_106 (v := .inl (1 : Int32)) rfl ?_
            refine zw_stk hm_24 dX2_noteFewer_107 (st₉ := [.inl ((mI S 84 7) - (1 : Int32)), .inr (.inr (some 84))]) rfl rfl ?_
            refine zw_pf hm_24 dX2_noteFewer_108 (zT_is hS s_84) (zT_t hS s_84) p_2_25_2 zk_int ?_
            refine zw_push hm_24 dX2_noteFewer_111 (v := .inr (.inr (some 84))) rfl ?_
            refine zw_gf hm_24 dX2_noteFewer_112 (v := .inr (.inr (some 69))) (zT_is (zT_pi hS) s_84) (zT_t (zT_pi hS) s_84) rfl f_2_41_2 (zT_f (zT_pi hS) r_84_3) ?_
            refine zw_push hm_24 dX2_noteFewer_115 (v := .inr (.inr (some c1))) rfl ?_
            refine zw_cv hm_24 dX2_noteFewer_116 v_2_45_7 hm_87 [.inr (.inr (some c1))] [] rfl (zT_rt (zT_pi hS) s_69 rfl) ⟨by omega, by omega⟩ rfl (zw_mono h (zv_go ?_ ?_))
            · intro S4 hv
              obtain ⟨hS4, h⟩ := hv
              refine zw_sto hm_24 dX2_noteFewer_119 [(2, .inl (l2 + (1 : Int32))), (4, .inl (mI S 86 ((mI S 84 7) - (1 : Int32)).toNatClampNeg)), (3, .inr (.inr (some c1))), (0, .inr (.inr (some 84)))] rfl rfl rfl ?_
              refine zw_goto hm_24 dX2_noteFewer_122 (t := 12) rfl ?_
              exact zw_sub (ma_nd_of (ks := [0, 2]) rfl (by decide)) (ma_nd_of (ks := [2, 4, 3, 0]) rfl (by decide)) (ma_le_cons rfl (ma_le_cons rfl (ma_le_nil _))) h
            · intro x S9 hx
              exact ⟨by decide, hx⟩
          · intro hc
            rw [if_neg hc] at h
            refine zw_push hm_114 dX9_hasWord_14 (v := .inl (1 : Int32)) rfl ?_
            refine zw_goto hm_114 dX9_hasWord_15 (t := 19) rfl ?_
            refine zw_bret hm_114 dX9_hasWord_19 (by decide) ?_
            show ma_wp X d w 24 73 [(4, .inl (mI S 86 ((mI S 84 7) - (1 : Int32)).toNatClampNeg)), (3, .inr (.inr (some c1))), (0, .inr (.inr (some 84))), (2, .inl l2)] [.inl (1 : Int32)] S _
            refine zw_if0 hm_24 dX2_noteFewer_73 (t := 101) rfl zc0_eq (fun hc => absurd hc (by decide)) (fun _ => ?_)
            refine zw_push hm_24 dX2_noteFewer_76 (v := .inr (.inr (some 84))) rfl ?_
            refine zw_gf hm_24 dX2_noteFewer_77 (v := .inr (.inr (some 86))) (zT_is hS s_84) (zT_t hS s_84) rfl f_2_17_2 (zT_f hS r_84_6) ?_
            refine zw_push hm_24 dX2_noteFewer_80 (v := .inr (.inr (some 84))) rfl ?_
            refine zw_gf hm_24 dX2_noteFewer_81 (v := .inl (mI S 84 7)) (zT_is hS s_84) (zT_t hS s_84) rfl f_2_25_2 rfl ?_
            refine zw_push hm_24 dX2_noteFewer_84 (v := .inl (1 : Int32)) rfl ?_
            refine zw_stk hm_24 dX2_noteFewer_85 (st₉ := [.inl ((mI S 84 7) - (1 : Int32)), .inr (.inr (some 86))]) rfl rfl ?_
            refine zw_push hm_24 dX2_noteFewer_86 (v := .inl (mI S 86 ((mI S 84 7) - (1 : Int32)).toNatClampNeg)) rfl ?_
            refine zw_push hm_24 dX2_noteFewer_88 (v := .inl (1 : Int32)) rfl ?_
            refine zw_stk hm_24 dX2_noteFewer_89 (st₉ := [.inl ((mI S 86 ((mI S 84 7) - (1 : Int32)).toNatClampNeg) + (1 : Int32)), .inl ((mI S 84 7) - (1 : Int32)), .inr (.inr (some 86))]) rfl rfl ?_
            obtain ⟨hg, h⟩ := h
            refine zw_ias hm_24 dX2_noteFewer_90 (zT_is hS s_86) (zT_h hS s_86) rfl hg ?_
            refine zw_push hm_24 dX2_noteFewer_91 (v := .inr (.inr (some 84))) rfl ?_
            refine zw_push hm_24 dX2_noteFewer_92 (v := .inr (.inr (some c1))) rfl ?_
            refine zw_push hm_24 dX2_noteFewer_93 (v := .inl (mI S 86 ((mI S 84 7) - (1 : Int32)).toNatClampNeg)) rfl ?_
            refine zw_cv hm_24 dX2_noteFewer_95 v_2_37_2 hm_26 [.inl (mI S 86 ((mI S 84 7) - (1 : Int32)).toNatClampNeg), .inr (.inr (some c1))] [] rfl (zT_rt (zT_pi hS) s_84 rfl) ⟨by omega, by omega⟩ rfl (zw_mono h (zv_go ?_ ?_))
            · intro S6 hv
              obtain ⟨hS6, h⟩ := hv
              refine zw_goto hm_24 dX2_noteFewer_98 (t := 119) rfl ?_
              refine zw_sto hm_24 dX2_noteFewer_119 [(2, .inl (l2 + (1 : Int32))), (4, .inl (mI S 86 ((mI S 84 7) - (1 : Int32)).toNatClampNeg)), (3, .inr (.inr (some c1))), (0, .inr (.inr (some 84)))] rfl rfl rfl ?_
              refine zw_goto hm_24 dX2_noteFewer_122 (t := 12) rfl ?_
              exact zw_sub (ma_nd_of (ks := [0, 2]) rfl (by decide)) (ma_nd_of (ks := [2, 4, 3, 0]) rfl (by decide)) (ma_le_cons rfl (ma_le_cons rfl (ma_le_nil _))) h
            · intro x S9 hx
              exact ⟨by decide, hx⟩
theorem lp_24_84_sk_12 {X : Nat × (Nat → Int32)} {d w : Nat} {f : Nat → Nat → Int32} {r : Nat → Nat → Option Nat} {C Z N : Nat} {Q : Option ma_V ⊕ Nat → ma_S → Prop} {ab : Nat→Nat→Int32} {W : Nat} {kk : Nat→Int32} {y : Int32} {B : Int} {fq : Nat→Int32} {n0 : Nat→Nat→Int32} (hd : 4 ≤ d) (hw : 86 ≤ w) (K : ∀ S₉, zJ84 f r C Z N S₉ → (xB S₉ (mR S₉ 70)) → (aS W S₉ = cLe ab y ∧ cC (aS W S₉) [] (kC S₉) B) → (zfP 84 (mI S₉) = fq) → (zN0 S₉ = n0) → Q (.inl none) S₉) : ∀ (n : Nat) (S : ma_S) (l2 : Int32), (1000000 - l2.toInt).toNat = n → zJ84 f r C Z N S → (0 ≤ l2.toInt) → (xB S (mR S 70)) → (xW W) → (B ≤ 1000000) → (cOk ab y) → (kk = kk) → (zNF W S B (cF1 (cPr ab []) y) l2.toInt) → (zfP 84 (mI S) = fq) → (zN0 S = n0) → ma_wp X d w 24 12 [(0, .inr (.inr (some 84))), (2, .inl l2)] [] S Q := by
  intro n
  induction n using Nat.strongRecOn with
  | _ n IH =>
    intro S l2 hmu hI  hi0 hi1 hi2 hi3 hi4 hi5 hi6 hi7 hi8
    refine g_24_84_sk_12 l2 (by omega) (by omega) (zG_T hI) ?_
    have nf0 := hi6
    obtain ⟨l, nf1, nf2, nf3, nf4⟩ := nf0
    have f1 := zG_s hI (0) (512) (c := 84) (k := 7) (by decide)
    have li2 : (0 : Int32).toInt = 0 := rfl
    refine zd (fun h3 => ?_) (fun h3 => ?_)
    · skip
      have g4 := i_le h3
      exact K _ hI (show xB S (mR S 70) from by first | (exact xB_x (xC_o (W := W) hi1).2)) (show aS W S = cLe ab y ∧ cC (aS W S) [] (kC S) B from by first | (exact NF_e hi6 hi4 (by omega))) (show zfP 84 (mI S) = fq from by first | (exact hi7)) (show zN0 S = n0 from by first | (exact hi8))
    · skip
      have g5 := i_nle h3
      have li6 : (1000000 : Int32).toInt = 1000000 := rfl
      have b7 := i_bd l2
      refine zd (fun h8 => ?_) (fun h8 => ?_)
      · skip
        have g9 := i_le h8
        exact K _ hI (show xB S (mR S 70) from by first | (exact xB_x (xC_o (W := W) hi1).2)) (show aS W S = cLe ab y ∧ cC (aS W S) [] (kC S) B from by first | (exact NF_e hi6 hi4 (by omega))) (show zfP 84 (mI S) = fq from by first | (exact hi7)) (show zN0 S = n0 from by first | (exact hi8))
      · skip
        have g10 := i_nle h8
        first | have e11 : ((mI S 84 7) - (1 : Int32)).toInt = (mI S 84 7).toInt - (1) := i_subk rfl (by omega) (by omega) | have b12 := i_bd ((mI S 84 7) - (1 : Int32))
        refine ⟨i_ix (by omega) (by omega), ?_⟩
        refine ⟨i_ix (by omega) (by omega), ?_⟩
        refine ⟨fun hc => ?_, fun c1 hc => ?_⟩
        · skip
          have rn_c1 : zTa (mR S 70) (l.headD (0, 0)).1 = none := (St_top nf1 (by omega)).2.1.symm.trans hc
          have hI13 : zJ84 f r C Z N (ma_put S 84 7 (.inl ((mI S 84 7) - (1 : Int32)))) := zG_sp hI (0) (512) rfl (by decide) (by decide) (by decide) trivial (by omega) (by omega)
          first | have e14 : (l2 + (1 : Int32)).toInt = l2.toInt + (1) := i_addk rfl (by omega) (by omega) | have b15 := i_bd (l2 + (1 : Int32))
          exact IH _ (by omega) _ ((l2 + (1 : Int32))) rfl hI13 (by omega) (show xB (ma_put S 84 7 (.inl ((mI S 84 7) - (1 : Int32)))) (mR (ma_put S 84 7 (.inl ((mI S 84 7) - (1 : Int32)))) 70) from by first | (exact xB_x (xC_n (c := 84) (k := 7) (x := ((mI S 84 7) - (1 : Int32))) (xC_o (W := W) hi1) (zir_W hi2 rfl (by decide))).2)) (show xW W from by first | (exact hi2) | (exact xW88) | (exact xW75)) (show B ≤ 1000000 from by first | (exact hi3)) (show cOk ab y from by first | (exact hi4)) (show kk = kk from by first | (exact rfl)) (show zNF W (ma_put S 84 7 (.inl ((mI S 84 7) - (1 : Int32)))) B (cF1 (cPr ab []) y) ((l2 + (1 : Int32))).toInt from by first | (exfalso; have tp := St_top nf1 (by omega); exact NF_n nf2 hi1 tp.1 rn_c1)) (show zfP 84 (mI (ma_put S 84 7 (.inl ((mI S 84 7) - (1 : Int32))))) = fq from by first | (exact (zf_7.trans hi7))) (show zN0 (ma_put S 84 7 (.inl ((mI S 84 7) - (1 : Int32)))) = n0 from by first | (exact ((n0_p (c := 84) (by decide)).trans hi8)))
        · skip
          have th_c1 := (fun _ z => zG_70 hI (c := 85) (by decide) z) c1 hc
          have rg_c1 : zTa (mR S 70) (l.headD (0, 0)).1 = some c1 := (St_top nf1 (by omega)).2.1.symm.trans hc
          refine ⟨zG_n hI th_c1, ?_⟩
          have b16 := i_bd (mI S 86 ((mI S 84 7) - (1 : Int32)).toNatClampNeg)
          refine zd (fun h17 => ?_) (fun h17 => ?_)
          · skip
            have g18 := i_lt h17
            have hI19 : zJ84 f r C Z N (ma_put S 84 7 (.inl ((mI S 84 7) - (1 : Int32)))) := zG_sp hI (0) (512) rfl (by decide) (by decide) (by decide) trivial (by omega) (by omega)
            refine sp_87_69_sk (ab := (aS W (ma_put S 84 7 (.inl ((mI S 84 7) - (1 : Int32)))))) (R := (mR (ma_put S 84 7 (.inl ((mI S 84 7) - (1 : Int32)))) 70)) (W := W) (y := (l.headD (0, 0)).1) (kk := (kC (ma_put S 84 7 (.inl ((mI S 84 7) - (1 : Int32)))))) (n0 := n0) c1 (by omega) (by omega) (zJ84_dn hI19) th_c1 (show xB (ma_put S 84 7 (.inl ((mI S 84 7) - (1 : Int32)))) (mR (ma_put S 84 7 (.inl ((mI S 84 7) - (1 : Int32)))) 70) from by first | (exact xB_x (xC_n (c := 84) (k := 7) (x := ((mI S 84 7) - (1 : Int32))) (xC_o (W := 75) hi1) ⟨by decide, Or.inl ⟨rfl, rfl⟩⟩).2)) (show aS W (ma_put S 84 7 (.inl ((mI S 84 7) - (1 : Int32)))) = (aS W (ma_put S 84 7 (.inl ((mI S 84 7) - (1 : Int32))))) from by first | (exact rfl)) (show xW W from by first | (exact hi2) | (exact xW88) | (exact xW75)) (show zTa (mR (ma_put S 84 7 (.inl ((mI S 84 7) - (1 : Int32)))) 70) (l.headD (0, 0)).1 = some c1 from by first | (exact rg_c1)) (show kC (ma_put S 84 7 (.inl ((mI S 84 7) - (1 : Int32)))) = (kC (ma_put S 84 7 (.inl ((mI S 84 7) - (1 : Int32))))) from by first | (exact rfl)) (show zN0 (ma_put S 84 7 (.inl ((mI S 84 7) - (1 : Int32)))) = n0 from by first | (exact ((n0_p (c := 84) (by decide)).trans hi8))) (fun S2 hL_S2 rp0_S2 rp1_S2 rp2_S2 rp3_S2 => zv_n ⟨zG_T hL_S2, ?_⟩)
            have hI_S2 := zJ84_up hI19 hL_S2
            have rp0_S2 : xB S2 (zRu (mR (ma_put S 84 7 (.inl ((mI S 84 7) - (1 : Int32)))) 70) (l.headD (0, 0)).1.toNatClampNeg none) := by
              have z := rp0_S2
              (try rw [show mI (ma_put S 84 7 (.inl ((mI S 84 7) - (1 : Int32)))) 65 = f 65 from funext (fun k => zG_z hI19 rfl)] at z)
              (try rw [show mI (ma_put S 84 7 (.inl ((mI S 84 7) - (1 : Int32)))) 64 1 = f 64 1 from zG_z hI19 rfl] at z)
              exact z
            have rp1_S2 : aS W S2 = aRm (aS W (ma_put S 84 7 (.inl ((mI S 84 7) - (1 : Int32))))) (l.headD (0, 0)).1 := by
              have z := rp1_S2
              (try rw [show mI (ma_put S 84 7 (.inl ((mI S 84 7) - (1 : Int32)))) 65 = f 65 from funext (fun k => zG_z hI19 rfl)] at z)
              (try rw [show mI (ma_put S 84 7 (.inl ((mI S 84 7) - (1 : Int32)))) 64 1 = f 64 1 from zG_z hI19 rfl] at z)
              exact z
            have rp2_S2 : ∀ n, xAl (aS W (ma_put S 84 7 (.inl ((mI S 84 7) - (1 : Int32))))) n → n ≠ (l.headD (0, 0)).1.toNatClampNeg → kC S2 n = (kC (ma_put S 84 7 (.inl ((mI S 84 7) - (1 : Int32))))) n - Int32.ofNat (cOb (aS W (ma_put S 84 7 (.inl ((mI S 84 7) - (1 : Int32))))) (l.headD (0, 0)).1.toNatClampNeg n) := by
              have z := rp2_S2
              (try rw [show mI (ma_put S 84 7 (.inl ((mI S 84 7) - (1 : Int32)))) 65 = f 65 from funext (fun k => zG_z hI19 rfl)] at z)
              (try rw [show mI (ma_put S 84 7 (.inl ((mI S 84 7) - (1 : Int32)))) 64 1 = f 64 1 from zG_z hI19 rfl] at z)
              exact z
            have rp3_S2 : zN0 S2 = n0 := by
              have z := rp3_S2
              (try rw [show mI (ma_put S 84 7 (.inl ((mI S 84 7) - (1 : Int32)))) 65 = f 65 from funext (fun k => zG_z hI19 rfl)] at z)
              (try rw [show mI (ma_put S 84 7 (.inl ((mI S 84 7) - (1 : Int32)))) 64 1 = f 64 1 from zG_z hI19 rfl] at z)
              exact z
            first | have e20 : (l2 + (1 : Int32)).toInt = l2.toInt + (1) := i_addk rfl (by omega) (by omega) | have b21 := i_bd (l2 + (1 : Int32))
            exact IH _ (by omega) _ ((l2 + (1 : Int32))) rfl hI_S2 (by omega) (show xB S2 (mR S2 70) from by first | (exact xB_x (xC_o (W := W) rp0_S2).2)) (show xW W from by first | (exact hi2) | (exact xW88) | (exact xW75)) (show B ≤ 1000000 from by first | (exact hi3)) (show cOk ab y from by first | (exact hi4)) (show kk = kk from by first | (exact rfl)) (show zNF W S2 B (cF1 (cPr ab []) y) ((l2 + (1 : Int32))).toInt from by first | (have tp := St_top nf1 (by omega); have ty := xB_th (W := W) hi1 rg_c1; have z2 := congrArg Int32.toInt ty.2.2.2.2.1; have i2 := congrArg Int32.toInt tp.2.2; have rm := rp1_S2; have kr := rp2_S2; rw [(xC_n (c := 84) (k := 7) (x := ((mI S 84 7) - (1 : Int32))) (xC_o (W := W) hi1) (zir_W hi2 rfl (by decide))).1] at rm kr; rw [(xK_n (c := 84) (k := 7) (x := ((mI S 84 7) - (1 : Int32))) (xK_o (W := W) hi1 rfl) (zir_W hi2 rfl (by decide))).2] at kr; have h1 := nf1; rw [tp.1] at h1; have h2 := nf2; rw [tp.1] at h2; have hq := (h2.2.1 _ List.mem_cons_self).2.2.1; exact NF_p nf2 nf3 nf4 tp.1 (show (l2 + (1 : Int32)).toInt = l2.toInt + 1 by omega) (by omega) rm kr (St_fr (St_off h1 rfl) (funext (fun k => zG_r hL_S2 (by decide))) (funext (fun k => zG_z hL_S2 rfl)) (zG_z hL_S2 rfl)) rp0_S2.1)) (show zfP 84 (mI S2) = fq from by first | (exact ((zf_fr (P := 84) (S₉ := S2) (S := (ma_put S 84 7 (.inl ((mI S 84 7) - (1 : Int32))))) (fun _ => zG_z hL_S2 rfl)).trans (zf_7.trans hi7)))) (show zN0 S2 = n0 from by first | (exact rp3_S2))
          · skip
            have g22 := i_nlt h17
            refine ⟨zG_n hI th_c1, ?_⟩
            have f23 := zG_th hI th_c1
            first | have e24 : ((mI S c1 2) - (1 : Int32)).toInt = (mI S c1 2).toInt - (1) := i_subk rfl (by omega) (by omega) | have b25 := i_bd ((mI S c1 2) - (1 : Int32))
            refine zd (fun h26 => ?_) (fun h26 => ?_)
            · skip
              have g27 := i_le h26
              have hI28 : zJ84 f r C Z N (ma_put S 84 7 (.inl ((mI S 84 7) - (1 : Int32)))) := zG_sp hI (0) (512) rfl (by decide) (by decide) (by decide) trivial (by omega) (by omega)
              refine sp_87_69_sk (ab := (aS W (ma_put S 84 7 (.inl ((mI S 84 7) - (1 : Int32)))))) (R := (mR (ma_put S 84 7 (.inl ((mI S 84 7) - (1 : Int32)))) 70)) (W := W) (y := (l.headD (0, 0)).1) (kk := (kC (ma_put S 84 7 (.inl ((mI S 84 7) - (1 : Int32)))))) (n0 := n0) c1 (by omega) (by omega) (zJ84_dn hI28) th_c1 (show xB (ma_put S 84 7 (.inl ((mI S 84 7) - (1 : Int32)))) (mR (ma_put S 84 7 (.inl ((mI S 84 7) - (1 : Int32)))) 70) from by first | (exact xB_x (xC_n (c := 84) (k := 7) (x := ((mI S 84 7) - (1 : Int32))) (xC_o (W := 75) hi1) ⟨by decide, Or.inl ⟨rfl, rfl⟩⟩).2)) (show aS W (ma_put S 84 7 (.inl ((mI S 84 7) - (1 : Int32)))) = (aS W (ma_put S 84 7 (.inl ((mI S 84 7) - (1 : Int32))))) from by first | (exact rfl)) (show xW W from by first | (exact hi2) | (exact xW88) | (exact xW75)) (show zTa (mR (ma_put S 84 7 (.inl ((mI S 84 7) - (1 : Int32)))) 70) (l.headD (0, 0)).1 = some c1 from by first | (exact rg_c1)) (show kC (ma_put S 84 7 (.inl ((mI S 84 7) - (1 : Int32)))) = (kC (ma_put S 84 7 (.inl ((mI S 84 7) - (1 : Int32))))) from by first | (exact rfl)) (show zN0 (ma_put S 84 7 (.inl ((mI S 84 7) - (1 : Int32)))) = n0 from by first | (exact ((n0_p (c := 84) (by decide)).trans hi8))) (fun S4 hL_S4 rp0_S4 rp1_S4 rp2_S4 rp3_S4 => zv_n ⟨zG_T hL_S4, ?_⟩)
              have hI_S4 := zJ84_up hI28 hL_S4
              have rp0_S4 : xB S4 (zRu (mR (ma_put S 84 7 (.inl ((mI S 84 7) - (1 : Int32)))) 70) (l.headD (0, 0)).1.toNatClampNeg none) := by
                have z := rp0_S4
                (try rw [show mI (ma_put S 84 7 (.inl ((mI S 84 7) - (1 : Int32)))) 65 = f 65 from funext (fun k => zG_z hI28 rfl)] at z)
                (try rw [show mI (ma_put S 84 7 (.inl ((mI S 84 7) - (1 : Int32)))) 64 1 = f 64 1 from zG_z hI28 rfl] at z)
                exact z
              have rp1_S4 : aS W S4 = aRm (aS W (ma_put S 84 7 (.inl ((mI S 84 7) - (1 : Int32))))) (l.headD (0, 0)).1 := by
                have z := rp1_S4
                (try rw [show mI (ma_put S 84 7 (.inl ((mI S 84 7) - (1 : Int32)))) 65 = f 65 from funext (fun k => zG_z hI28 rfl)] at z)
                (try rw [show mI (ma_put S 84 7 (.inl ((mI S 84 7) - (1 : Int32)))) 64 1 = f 64 1 from zG_z hI28 rfl] at z)
                exact z
              have rp2_S4 : ∀ n, xAl (aS W (ma_put S 84 7 (.inl ((mI S 84 7) - (1 : Int32))))) n → n ≠ (l.headD (0, 0)).1.toNatClampNeg → kC S4 n = (kC (ma_put S 84 7 (.inl ((mI S 84 7) - (1 : Int32))))) n - Int32.ofNat (cOb (aS W (ma_put S 84 7 (.inl ((mI S 84 7) - (1 : Int32))))) (l.headD (0, 0)).1.toNatClampNeg n) := by
                have z := rp2_S4
                (try rw [show mI (ma_put S 84 7 (.inl ((mI S 84 7) - (1 : Int32)))) 65 = f 65 from funext (fun k => zG_z hI28 rfl)] at z)
                (try rw [show mI (ma_put S 84 7 (.inl ((mI S 84 7) - (1 : Int32)))) 64 1 = f 64 1 from zG_z hI28 rfl] at z)
                exact z
              have rp3_S4 : zN0 S4 = n0 := by
                have z := rp3_S4
                (try rw [show mI (ma_put S 84 7 (.inl ((mI S 84 7) - (1 : Int32)))) 65 = f 65 from funext (fun k => zG_z hI28 rfl)] at z)
                (try rw [show mI (ma_put S 84 7 (.inl ((mI S 84 7) - (1 : Int32)))) 64 1 = f 64 1 from zG_z hI28 rfl] at z)
                exact z
              first | have e29 : (l2 + (1 : Int32)).toInt = l2.toInt + (1) := i_addk rfl (by omega) (by omega) | have b30 := i_bd (l2 + (1 : Int32))
              exact IH _ (by omega) _ ((l2 + (1 : Int32))) rfl hI_S4 (by omega) (show xB S4 (mR S4 70) from by first | (exact xB_x (xC_o (W := W) rp0_S4).2)) (show xW W from by first | (exact hi2) | (exact xW88) | (exact xW75)) (show B ≤ 1000000 from by first | (exact hi3)) (show cOk ab y from by first | (exact hi4)) (show kk = kk from by first | (exact rfl)) (show zNF W S4 B (cF1 (cPr ab []) y) ((l2 + (1 : Int32))).toInt from by first | (have tp := St_top nf1 (by omega); have ty := xB_th (W := W) hi1 rg_c1; have z2 := congrArg Int32.toInt ty.2.2.2.2.1; have i2 := congrArg Int32.toInt tp.2.2; have rm := rp1_S4; have kr := rp2_S4; rw [(xC_n (c := 84) (k := 7) (x := ((mI S 84 7) - (1 : Int32))) (xC_o (W := W) hi1) (zir_W hi2 rfl (by decide))).1] at rm kr; rw [(xK_n (c := 84) (k := 7) (x := ((mI S 84 7) - (1 : Int32))) (xK_o (W := W) hi1 rfl) (zir_W hi2 rfl (by decide))).2] at kr; have h1 := nf1; rw [tp.1] at h1; have h2 := nf2; rw [tp.1] at h2; have hq := (h2.2.1 _ List.mem_cons_self).2.2.1; exact NF_p nf2 nf3 nf4 tp.1 (show (l2 + (1 : Int32)).toInt = l2.toInt + 1 by omega) (by omega) rm kr (St_fr (St_off h1 rfl) (funext (fun k => zG_r hL_S4 (by decide))) (funext (fun k => zG_z hL_S4 rfl)) (zG_z hL_S4 rfl)) rp0_S4.1)) (show zfP 84 (mI S4) = fq from by first | (exact ((zf_fr (P := 84) (S₉ := S4) (S := (ma_put S 84 7 (.inl ((mI S 84 7) - (1 : Int32))))) (fun _ => zG_z hL_S4 rfl)).trans (zf_7.trans hi7)))) (show zN0 S4 = n0 from by first | (exact rp3_S4))
            · skip
              have g31 := i_nle h26
              refine ⟨i_ix (by omega) (by omega), ?_⟩
              have hI32 : zJ84 f r C Z N (ma_put S 86 ((mI S 84 7) - (1 : Int32)).toNatClampNeg (.inl ((mI S 86 ((mI S 84 7) - (1 : Int32)).toNatClampNeg) + (1 : Int32)))) := zG_fa hI rfl (by decide) (by decide) (by decide) trivial
              refine sp_26_84_sk (ab := (aS W (ma_put S 86 ((mI S 84 7) - (1 : Int32)).toNatClampNeg (.inl ((mI S 86 ((mI S 84 7) - (1 : Int32)).toNatClampNeg) + (1 : Int32)))))) (R := (mR (ma_put S 86 ((mI S 84 7) - (1 : Int32)).toNatClampNeg (.inl ((mI S 86 ((mI S 84 7) - (1 : Int32)).toNatClampNeg) + (1 : Int32)))) 70)) (W := W) (kk := (kC (ma_put S 86 ((mI S 84 7) - (1 : Int32)).toNatClampNeg (.inl ((mI S 86 ((mI S 84 7) - (1 : Int32)).toNatClampNeg) + (1 : Int32)))))) (y := ((l.headD (0, 0)).1)) (l := l.tail) (B := B) (fq := (zfP 84 (mI (ma_put S 86 ((mI S 84 7) - (1 : Int32)).toNatClampNeg (.inl ((mI S 86 ((mI S 84 7) - (1 : Int32)).toNatClampNeg) + (1 : Int32))))))) (n0 := n0) c1 ((mI S 86 ((mI S 84 7) - (1 : Int32)).toNatClampNeg)) (by omega) (by omega) hI32 th_c1 (show xB (ma_put S 86 ((mI S 84 7) - (1 : Int32)).toNatClampNeg (.inl ((mI S 86 ((mI S 84 7) - (1 : Int32)).toNatClampNeg) + (1 : Int32)))) (mR (ma_put S 86 ((mI S 84 7) - (1 : Int32)).toNatClampNeg (.inl ((mI S 86 ((mI S 84 7) - (1 : Int32)).toNatClampNeg) + (1 : Int32)))) 70) from by first | (exact xB_x (xC_n (c := 86) (k := ((mI S 84 7) - (1 : Int32)).toNatClampNeg) (x := ((mI S 86 ((mI S 84 7) - (1 : Int32)).toNatClampNeg) + (1 : Int32))) (xC_o (W := W) hi1) (zir_W hi2 rfl (by decide))).2)) (show aS W (ma_put S 86 ((mI S 84 7) - (1 : Int32)).toNatClampNeg (.inl ((mI S 86 ((mI S 84 7) - (1 : Int32)).toNatClampNeg) + (1 : Int32)))) = (aS W (ma_put S 86 ((mI S 84 7) - (1 : Int32)).toNatClampNeg (.inl ((mI S 86 ((mI S 84 7) - (1 : Int32)).toNatClampNeg) + (1 : Int32))))) from by first | (exact rfl)) (show xW W from by first | (exact hi2) | (exact xW88) | (exact xW75)) (show zTa (mR (ma_put S 86 ((mI S 84 7) - (1 : Int32)).toNatClampNeg (.inl ((mI S 86 ((mI S 84 7) - (1 : Int32)).toNatClampNeg) + (1 : Int32)))) 70) ((l.headD (0, 0)).1) = some c1 from by first | (exact rg_c1)) (show kC (ma_put S 86 ((mI S 84 7) - (1 : Int32)).toNatClampNeg (.inl ((mI S 86 ((mI S 84 7) - (1 : Int32)).toNatClampNeg) + (1 : Int32)))) = (kC (ma_put S 86 ((mI S 84 7) - (1 : Int32)).toNatClampNeg (.inl ((mI S 86 ((mI S 84 7) - (1 : Int32)).toNatClampNeg) + (1 : Int32))))) from by first | (exact rfl)) (show zSt (ma_put S 86 ((mI S 84 7) - (1 : Int32)).toNatClampNeg (.inl ((mI S 86 ((mI S 84 7) - (1 : Int32)).toNatClampNeg) + (1 : Int32)))) (mR (ma_put S 86 ((mI S 84 7) - (1 : Int32)).toNatClampNeg (.inl ((mI S 86 ((mI S 84 7) - (1 : Int32)).toNatClampNeg) + (1 : Int32)))) 70) ((((l.headD (0, 0)).1), (mI S 86 ((mI S 84 7) - (1 : Int32)).toNatClampNeg) + 1) :: l.tail) from by first | (have tp := St_top nf1 (by omega); have h1 := nf1; rw [tp.1] at h1; exact St_nxt h1 rfl)) (show cC (aS W (ma_put S 86 ((mI S 84 7) - (1 : Int32)).toNatClampNeg (.inl ((mI S 86 ((mI S 84 7) - (1 : Int32)).toNatClampNeg) + (1 : Int32))))) ((((l.headD (0, 0)).1), (mI S 86 ((mI S 84 7) - (1 : Int32)).toNatClampNeg)) :: l.tail) (kC (ma_put S 86 ((mI S 84 7) - (1 : Int32)).toNatClampNeg (.inl ((mI S 86 ((mI S 84 7) - (1 : Int32)).toNatClampNeg) + (1 : Int32))))) B from by first | (have tp := St_top nf1 (by omega); have h2 := nf2; rw [tp.1] at h2; rw [(xC_n (c := 86) (k := ((mI S 84 7) - (1 : Int32)).toNatClampNeg) (x := ((mI S 86 ((mI S 84 7) - (1 : Int32)).toNatClampNeg) + (1 : Int32))) (xC_o (W := W) hi1) (zir_W hi2 rfl (by decide))).1, (xK_n (c := 86) (k := ((mI S 84 7) - (1 : Int32)).toNatClampNeg) (x := ((mI S 86 ((mI S 84 7) - (1 : Int32)).toNatClampNeg) + (1 : Int32))) (xK_o (W := W) hi1 rfl) (zir_W hi2 rfl (by decide))).2, tp.2.2]; exact h2)) (show B ≤ 1000000 from by first | (exact hi3)) (by omega) (show (mI S 86 ((mI S 84 7) - (1 : Int32)).toNatClampNeg).toInt < ((aS W (ma_put S 86 ((mI S 84 7) - (1 : Int32)).toNatClampNeg (.inl ((mI S 86 ((mI S 84 7) - (1 : Int32)).toNatClampNeg) + (1 : Int32))))) 128 ((l.headD (0, 0)).1).toNatClampNeg).toInt - 1 from by first | (have ty := xB_th (W := W) hi1 rg_c1; have z2 := congrArg Int32.toInt ty.2.2.2.2.1; rw [(xC_n (c := 86) (k := ((mI S 84 7) - (1 : Int32)).toNatClampNeg) (x := ((mI S 86 ((mI S 84 7) - (1 : Int32)).toNatClampNeg) + (1 : Int32))) (xC_o (W := W) hi1) (zir_W hi2 rfl (by decide))).1]; omega)) (show zfP 84 (mI (ma_put S 86 ((mI S 84 7) - (1 : Int32)).toNatClampNeg (.inl ((mI S 86 ((mI S 84 7) - (1 : Int32)).toNatClampNeg) + (1 : Int32))))) = (zfP 84 (mI (ma_put S 86 ((mI S 84 7) - (1 : Int32)).toNatClampNeg (.inl ((mI S 86 ((mI S 84 7) - (1 : Int32)).toNatClampNeg) + (1 : Int32)))))) from by first | (exact rfl)) (show zN0 (ma_put S 86 ((mI S 84 7) - (1 : Int32)).toNatClampNeg (.inl ((mI S 86 ((mI S 84 7) - (1 : Int32)).toNatClampNeg) + (1 : Int32)))) = n0 from by first | (exact ((n0_p (c := 86) (by decide)).trans hi8))) (fun S6 hI_S6 rp0_S6 rp1_S6 rp2_S6 rp3_S6 => zv_n ⟨zG_T hI_S6, ?_⟩)
              have rp0_S6 : xB S6 (mR (ma_put S 86 ((mI S 84 7) - (1 : Int32)).toNatClampNeg (.inl ((mI S 86 ((mI S 84 7) - (1 : Int32)).toNatClampNeg) + (1 : Int32)))) 70) := rp0_S6
              have rp1_S6 : zFo W S6 (mR (ma_put S 86 ((mI S 84 7) - (1 : Int32)).toNatClampNeg (.inl ((mI S 86 ((mI S 84 7) - (1 : Int32)).toNatClampNeg) + (1 : Int32)))) 70) B (cSt (cPr (aS W (ma_put S 86 ((mI S 84 7) - (1 : Int32)).toNatClampNeg (.inl ((mI S 86 ((mI S 84 7) - (1 : Int32)).toNatClampNeg) + (1 : Int32))))) ((((l.headD (0, 0)).1), (mI S 86 ((mI S 84 7) - (1 : Int32)).toNatClampNeg)) :: l.tail))) := rp1_S6
              have rp2_S6 : zfP 84 (mI S6) = (zfP 84 (mI (ma_put S 86 ((mI S 84 7) - (1 : Int32)).toNatClampNeg (.inl ((mI S 86 ((mI S 84 7) - (1 : Int32)).toNatClampNeg) + (1 : Int32)))))) := rp2_S6
              have rp3_S6 : zN0 S6 = n0 := rp3_S6
              first | have e33 : (l2 + (1 : Int32)).toInt = l2.toInt + (1) := i_addk rfl (by omega) (by omega) | have b34 := i_bd (l2 + (1 : Int32))
              exact IH _ (by omega) _ ((l2 + (1 : Int32))) rfl hI_S6 (by omega) (show xB S6 (mR S6 70) from by first | (exact xB_x (xC_o (W := W) rp0_S6).2)) (show xW W from by first | (exact hi2) | (exact xW88) | (exact xW75)) (show B ≤ 1000000 from by first | (exact hi3)) (show cOk ab y from by first | (exact hi4)) (show kk = kk from by first | (exact rfl)) (show zNF W S6 B (cF1 (cPr ab []) y) ((l2 + (1 : Int32))).toInt from by first | (have tp := St_top nf1 (by omega); have q := rp1_S6; rw [(xC_n (c := 86) (k := ((mI S 84 7) - (1 : Int32)).toNatClampNeg) (x := ((mI S 86 ((mI S 84 7) - (1 : Int32)).toNatClampNeg) + (1 : Int32))) (xC_o (W := W) hi1) (zir_W hi2 rfl (by decide))).1, tp.2.2] at q; exact NF_d (l := l) (by have e0 : l = ((l.headD (0, 0)).1, (l.headD (0, 0)).2) :: l.tail := tp.1; rw [e0]; exact q) rp0_S6.1 nf2 nf3 nf4 tp.1 (show (l2 + (1 : Int32)).toInt = l2.toInt + 1 by omega))) (show zfP 84 (mI S6) = fq from by first | (exact (rp2_S6.trans ((zf_n (P := 84) (c := 86) (by decide)).trans hi7)))) (show zN0 S6 = n0 from by first | (exact rp3_S6))
theorem sp_24_84_sk {X : Nat × (Nat → Int32)} {d w : Nat} {f : Nat → Nat → Int32} {r : Nat → Nat → Option Nat} {C Z N : Nat} {Q : Option ma_V ⊕ Nat → ma_S → Prop} {ab : Nat→Nat→Int32} {W : Nat} {kk : Nat→Int32} {y : Int32} {B : Int} {fq : Nat→Int32} {n0 : Nat→Nat→Int32} {S : ma_S} (t : Option Nat) (hd : 4 ≤ d) (hw : 86 ≤ w) (hI : zJ84 f r C Z N S) (hq_t : ∀ c, t = some c → 126 ≤ c ∧ c < N) (hpre0 : xB S (mR S 70)) (hpre1 : aS W S = ab) (hpre2 : xW W) (hpre3 : t = zTa (mR S 70) y) (hpre4 : kC S = kk) (hpre5 : cC ab [] kk B) (hpre6 : cOk ab y) (hpre7 : B ≤ 1000000) (hpre8 : zfP 84 (mI S) = fq) (hpre9 : zN0 S = n0) (K : ∀ S₉, zJ84 f r C Z N S₉ → (xB S₉ (mR S₉ 70)) → (aS W S₉ = cLe ab y ∧ cC (aS W S₉) [] (kC S₉) B) → (zfP 84 (mI S₉) = fq) → (zN0 S₉ = n0) → Q (.inl none) S₉) : ma_wp X d w 24 0 [(0, .inr (.inr (some 84))), (1, .inr (.inr t))] [] S Q := by
  refine g_24_84_sk_0 t (by omega) (by omega) (zG_T hI) ?_
  have li2 : (0 : Int32).toInt = 0 := rfl
  have hI1 : zJ84 f r C Z N (ma_put S 84 7 (.inl (0 : Int32))) := zG_sp hI (0) (512) rfl (by decide) (by decide) (by decide) trivial (by omega) (by omega)
  refine sp_25_84_sk (ab := (aS W (ma_put S 84 7 (.inl (0 : Int32))))) (R := (mR (ma_put S 84 7 (.inl (0 : Int32))) 70)) (W := W) (kk := (kC (ma_put S 84 7 (.inl (0 : Int32))))) (y := (y)) (l := []) (B := B) (fq := (zfP 84 (mI (ma_put S 84 7 (.inl (0 : Int32)))))) (n0 := n0) (t) (by omega) (by omega) hI1 hq_t (show xB (ma_put S 84 7 (.inl (0 : Int32))) (mR (ma_put S 84 7 (.inl (0 : Int32))) 70) from by first | (exact xB_x (xC_n (c := 84) (k := 7) (x := (0 : Int32)) (xC_o (W := W) hpre0) (zir_W hpre2 rfl (by decide))).2)) (show aS W (ma_put S 84 7 (.inl (0 : Int32))) = (aS W (ma_put S 84 7 (.inl (0 : Int32)))) from by first | (exact rfl)) (show xW W from by first | (exact hpre2) | (exact xW88) | (exact xW75)) (show t = zTa (mR (ma_put S 84 7 (.inl (0 : Int32))) 70) (y) from by first | (exact hpre3)) (show kC (ma_put S 84 7 (.inl (0 : Int32))) = (kC (ma_put S 84 7 (.inl (0 : Int32)))) from by first | (exact rfl)) (show zSt (ma_put S 84 7 (.inl (0 : Int32))) (mR (ma_put S 84 7 (.inl (0 : Int32))) 70) [] from by first | (exact St_0 rfl)) (show cC (aS W (ma_put S 84 7 (.inl (0 : Int32)))) [] (kC (ma_put S 84 7 (.inl (0 : Int32)))) B from by first | (rw [(xC_n (c := 84) (k := 7) (x := (0 : Int32)) (xC_o (W := W) hpre0) (zir_W hpre2 rfl (by decide))).1, (xK_n (c := 84) (k := 7) (x := (0 : Int32)) (xK_o (W := W) hpre0 rfl) (zir_W hpre2 rfl (by decide))).2, hpre1, hpre4]; exact hpre5)) (show cOk (cRa (aS W (ma_put S 84 7 (.inl (0 : Int32)))) []) (y) from by first | (show cOk (aS W _) _; rw [(xC_n (c := 84) (k := 7) (x := (0 : Int32)) (xC_o (W := W) hpre0) (zir_W hpre2 rfl (by decide))).1, hpre1]; exact hpre6)) (show B ≤ 1000000 from by first | (exact hpre7)) (show zfP 84 (mI (ma_put S 84 7 (.inl (0 : Int32)))) = (zfP 84 (mI (ma_put S 84 7 (.inl (0 : Int32))))) from by first | (exact rfl)) (show zN0 (ma_put S 84 7 (.inl (0 : Int32))) = n0 from by first | (exact ((n0_p (c := 84) (by decide)).trans hpre9))) (fun S1 hI_S1 rp0_S1 rp1_S1 rp2_S1 rp3_S1 => zv_n ⟨zG_T hI_S1, ?_⟩)
  have rp0_S1 : xB S1 (mR (ma_put S 84 7 (.inl (0 : Int32))) 70) := rp0_S1
  have rp1_S1 : zFo W S1 (mR (ma_put S 84 7 (.inl (0 : Int32))) 70) B (cF1 (cPr (aS W (ma_put S 84 7 (.inl (0 : Int32)))) []) (y)) := rp1_S1
  have rp2_S1 : zfP 84 (mI S1) = (zfP 84 (mI (ma_put S 84 7 (.inl (0 : Int32))))) := rp2_S1
  have rp3_S1 : zN0 S1 = n0 := rp3_S1
  exact lp_24_84_sk_12 (by omega) (by omega) K _ _ ((0 : Int32)) rfl hI_S1 (by omega) (show xB S1 (mR S1 70) from by first | (exact xB_x (xC_o (W := W) rp0_S1).2)) (show xW W from by first | (exact hpre2) | (exact xW88) | (exact xW75)) (show B ≤ 1000000 from by first | (exact hpre7)) (show cOk ab y from by first | (exact hpre6)) (show kk = kk from by first | (exact rfl)) (show zNF W S1 B (cF1 (cPr ab []) y) ((0 : Int32)).toInt from by first | (have q := rp1_S1; rw [(xC_n (c := 84) (k := 7) (x := (0 : Int32)) (xC_o (W := W) hpre0) (zir_W hpre2 rfl (by decide))).1, hpre1] at q; exact NF_0 q rp0_S1.1)) (show zfP 84 (mI S1) = fq from by first | (exact (rp2_S1.trans (zf_7.trans hpre8)))) (show zN0 S1 = n0 from by first | (exact rp3_S1))

