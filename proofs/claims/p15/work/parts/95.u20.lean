/-! AGES, the class (written by wip/tools/gen15y.py) -/
theorem g_8_82_sy_0 {X : Nat × (Nat → Int32)} {d w : Nat} {S : ma_S} {Q : Option ma_V ⊕ Nat → ma_S → Prop} (t : Nat) (i : Int32) (x : Option Nat) (hd : 1 ≤ d) (hw : 22 ≤ w) (hS : zT S) (h : if (mI S 82 5) ≤ 0 then ((x = none → Q (.inl none) S) ∧ (∀ c1, x = some c1 → (126 ≤ t ∧ t < mN S) ∧ (if (mI S t 4) < (mI S 82 3) then ((126 ≤ c1 ∧ c1 < mN S) ∧ (if (mI S c1 4) < (mI S 82 3) then (Q (.inl none) S) else (Q (.inl none) S))) else (Q (.inl none) S)))) else ((126 ≤ t ∧ t < mN S) ∧ ((mI S 82 5) ≠ 0 ∧ ((x = none → Q (.inl none) S) ∧ (∀ c2, x = some c2 → (126 ≤ t ∧ t < mN S) ∧ (if (mI S t 4) < (mI S 82 3) then ((126 ≤ c2 ∧ c2 < mN S) ∧ (if (mI S c2 4) < (mI S 82 3) then (Q (.inl none) S) else (if ((((mI S t 4) + (1 : Int32)) + i) / (mI S 82 5)) < 0 then (Q (.inl none) S) else (if (375 : Int32) ≤ ((((mI S t 4) + (1 : Int32)) + i) / (mI S 82 5)) then (Q (.inl none) S) else ((0 ≤ ((((mI S t 4) + (1 : Int32)) + i) / (mI S 82 5)) ∧ ((((mI S t 4) + (1 : Int32)) + i) / (mI S 82 5)).toNatClampNeg < 375) ∧ (Q (.inl none) (ma_put S 83 ((((mI S t 4) + (1 : Int32)) + i) / (mI S 82 5)).toNatClampNeg (.inl (1 : Int32))))))))) else (Q (.inl none) S))))))) : ma_wp X d w 8 0 [(0, .inr (.inr (some 82))), (1, .inr (.inr (some t))), (2, .inl i), (3, .inr (.inr x))] [] S Q := by
  refine zw_push hm_8 dX0_noteReference_0 (v := .inr (.inr (some 82))) rfl ?_
  refine zw_push hm_8 dX0_noteReference_1 (v := .inr (.inr (some t))) rfl ?_
  refine zw_push hm_8 dX0_noteReference_2 (v := .inl i) rfl ?_
  refine zw_cv hm_8 dX0_noteReference_3 v_1_136_1 hm_9 [.inl i, .inr (.inr (some t))] [] rfl (zT_rt hS s_82 rfl) ⟨by omega, by omega⟩ rfl ?_
  show ma_wp X (d - 1) (w - 22) 9 0 [(0, .inr (.inr (some 82))), (1, .inr (.inr (some t))), (2, .inl i)] [] S _
  refine zw_push hm_9 dX0_cardOf_0 (v := .inr (.inr (some 82))) rfl ?_
  refine zw_gf hm_9 dX0_cardOf_1 (v := .inl (mI S 82 5)) (zT_is hS s_82) (zT_t hS s_82) rfl f_1_25_1 rfl ?_
  refine zw_if0 hm_9 dX0_cardOf_4 (t := 23) rfl zc0_le ?_ ?_
  · intro hc
    rw [if_pos hc] at h
    refine zw_push hm_9 dX0_cardOf_23 (v := .inl (-1 : Int32)) rfl ?_
    refine zw_iret hm_9 dX0_cardOf_24 ?_
    show ma_wp X d w 8 6 [(0, .inr (.inr (some 82))), (1, .inr (.inr (some t))), (2, .inl i), (3, .inr (.inr x))] [.inl (-1 : Int32)] S _
    refine zw_sto hm_8 dX0_noteReference_6 [(4, .inl (-1 : Int32)), (0, .inr (.inr (some 82))), (1, .inr (.inr (some t))), (2, .inl i), (3, .inr (.inr x))] rfl rfl rfl ?_
    refine zw_push hm_8 dX0_noteReference_8 (v := .inr (.inr x)) rfl ?_
    refine zw_ifnull hm_8 dX0_noteReference_9 (t := 49) rfl ?_ ?_
    · intro hc
      have h := h.1 hc
      (try rw [hc])
      show ma_wp X d w 8 49 [(4, .inl (-1 : Int32)), (0, .inr (.inr (some 82))), (1, .inr (.inr (some t))), (2, .inl i), (3, .inr (.inr none))] [] S _
      exact zw_vret hm_8 dX0_noteReference_49 h
    · intro c1 hc
      have h := h.2 c1 hc
      (try rw [hc])
      show ma_wp X d w 8 12 [(4, .inl (-1 : Int32)), (0, .inr (.inr (some 82))), (1, .inr (.inr (some t))), (2, .inl i), (3, .inr (.inr (some c1)))] [] S _
      refine zw_push hm_8 dX0_noteReference_12 (v := .inr (.inr (some 82))) rfl ?_
      refine zw_push hm_8 dX0_noteReference_13 (v := .inr (.inr (some t))) rfl ?_
      refine zw_cv hm_8 dX0_noteReference_14 v_1_58_1 hm_7 [.inr (.inr (some t))] [] rfl (zT_rt hS s_82 rfl) ⟨by omega, by omega⟩ rfl ?_
      show ma_wp X (d - 1) (w - 21) 7 0 [(0, .inr (.inr (some 82))), (1, .inr (.inr (some t)))] [] S _
      refine zw_push hm_7 dX0_isYoung_0 (v := .inr (.inr (some t))) rfl ?_
      obtain ⟨hg, h⟩ := h
      refine zw_gf hm_7 dX0_isYoung_1 (v := .inl (mI S t 4)) (zT_tis hS hg) (zT_tt hS hg) rfl f_1_62_9 rfl ?_
      refine zw_push hm_7 dX0_isYoung_4 (v := .inr (.inr (some 82))) rfl ?_
      refine zw_gf hm_7 dX0_isYoung_5 (v := .inl (mI S 82 3)) (zT_is hS s_82) (zT_t hS s_82) rfl f_1_19_1 rfl ?_
      refine zw_if2 hm_7 dX0_isYoung_8 (t := 15) rfl zc2_lt ?_ ?_
      · intro hc
        rw [if_pos hc] at h
        refine zw_push hm_7 dX0_isYoung_15 (v := .inl (0 : Int32)) rfl ?_
        refine zw_bret hm_7 dX0_isYoung_16 (by decide) ?_
        show ma_wp X d w 8 17 [(4, .inl (-1 : Int32)), (0, .inr (.inr (some 82))), (1, .inr (.inr (some t))), (2, .inl i), (3, .inr (.inr (some c1)))] [.inl (0 : Int32)] S _
        refine zw_if0 hm_8 dX0_noteReference_17 (t := 49) rfl zc0_ne (fun hc => absurd hc (by decide)) (fun _ => ?_)
        refine zw_push hm_8 dX0_noteReference_20 (v := .inr (.inr (some 82))) rfl ?_
        refine zw_push hm_8 dX0_noteReference_21 (v := .inr (.inr (some c1))) rfl ?_
        refine zw_cv hm_8 dX0_noteReference_22 v_1_58_1 hm_7 [.inr (.inr (some c1))] [] rfl (zT_rt hS s_82 rfl) ⟨by omega, by omega⟩ rfl ?_
        show ma_wp X (d - 1) (w - 21) 7 0 [(0, .inr (.inr (some 82))), (1, .inr (.inr (some c1)))] [] S _
        refine zw_push hm_7 dX0_isYoung_0 (v := .inr (.inr (some c1))) rfl ?_
        obtain ⟨hg, h⟩ := h
        refine zw_gf hm_7 dX0_isYoung_1 (v := .inl (mI S c1 4)) (zT_tis hS hg) (zT_tt hS hg) rfl f_1_62_9 rfl ?_
        refine zw_push hm_7 dX0_isYoung_4 (v := .inr (.inr (some 82))) rfl ?_
        refine zw_gf hm_7 dX0_isYoung_5 (v := .inl (mI S 82 3)) (zT_is hS s_82) (zT_t hS s_82) rfl f_1_19_1 rfl ?_
        refine zw_if2 hm_7 dX0_isYoung_8 (t := 15) rfl zc2_lt ?_ ?_
        · intro hc
          rw [if_pos hc] at h
          refine zw_push hm_7 dX0_isYoung_15 (v := .inl (0 : Int32)) rfl ?_
          refine zw_bret hm_7 dX0_isYoung_16 (by decide) ?_
          show ma_wp X d w 8 25 [(4, .inl (-1 : Int32)), (0, .inr (.inr (some 82))), (1, .inr (.inr (some t))), (2, .inl i), (3, .inr (.inr (some c1)))] [.inl (0 : Int32)] S _
          refine zw_if0 hm_8 dX0_noteReference_25 (t := 49) rfl zc0_eq (fun _ => ?_) (fun hc => absurd (by decide) hc)
          exact zw_vret hm_8 dX0_noteReference_49 h
        · intro hc
          rw [if_neg hc] at h
          refine zw_push hm_7 dX0_isYoung_11 (v := .inl (1 : Int32)) rfl ?_
          refine zw_goto hm_7 dX0_isYoung_12 (t := 16) rfl ?_
          refine zw_bret hm_7 dX0_isYoung_16 (by decide) ?_
          show ma_wp X d w 8 25 [(4, .inl (-1 : Int32)), (0, .inr (.inr (some 82))), (1, .inr (.inr (some t))), (2, .inl i), (3, .inr (.inr (some c1)))] [.inl (1 : Int32)] S _
          refine zw_if0 hm_8 dX0_noteReference_25 (t := 49) rfl zc0_eq (fun hc => absurd hc (by decide)) (fun _ => ?_)
          refine zw_push hm_8 dX0_noteReference_28 (v := .inl (-1 : Int32)) rfl ?_
          refine zw_if0 hm_8 dX0_noteReference_30 (t := 49) rfl zc0_lt (fun _ => ?_) (fun hc => absurd (by decide) hc)
          exact zw_vret hm_8 dX0_noteReference_49 h
      · intro hc
        rw [if_neg hc] at h
        refine zw_push hm_7 dX0_isYoung_11 (v := .inl (1 : Int32)) rfl ?_
        refine zw_goto hm_7 dX0_isYoung_12 (t := 16) rfl ?_
        refine zw_bret hm_7 dX0_isYoung_16 (by decide) ?_
        show ma_wp X d w 8 17 [(4, .inl (-1 : Int32)), (0, .inr (.inr (some 82))), (1, .inr (.inr (some t))), (2, .inl i), (3, .inr (.inr (some c1)))] [.inl (1 : Int32)] S _
        refine zw_if0 hm_8 dX0_noteReference_17 (t := 49) rfl zc0_ne (fun _ => ?_) (fun hc => absurd (by decide) hc)
        exact zw_vret hm_8 dX0_noteReference_49 h
  · intro hc
    rw [if_neg hc] at h
    refine zw_push hm_9 dX0_cardOf_7 (v := .inr (.inr (some t))) rfl ?_
    obtain ⟨hg, h⟩ := h
    refine zw_gf hm_9 dX0_cardOf_8 (v := .inl (mI S t 4)) (zT_tis hS hg) (zT_tt hS hg) rfl f_1_62_9 rfl ?_
    refine zw_push hm_9 dX0_cardOf_11 (v := .inl (1 : Int32)) rfl ?_
    refine zw_stk hm_9 dX0_cardOf_12 (st' := [.inl ((mI S t 4) + (1 : Int32))]) rfl rfl ?_
    refine zw_push hm_9 dX0_cardOf_13 (v := .inl i) rfl ?_
    refine zw_stk hm_9 dX0_cardOf_14 (st' := [.inl (((mI S t 4) + (1 : Int32)) + i)]) rfl rfl ?_
    refine zw_push hm_9 dX0_cardOf_15 (v := .inr (.inr (some 82))) rfl ?_
    refine zw_gf hm_9 dX0_cardOf_16 (v := .inl (mI S 82 5)) (zT_is hS s_82) (zT_t hS s_82) rfl f_1_25_1 rfl ?_
    obtain ⟨hg, h⟩ := h
    refine zw_stk hm_9 dX0_cardOf_19 (st' := [.inl ((((mI S t 4) + (1 : Int32)) + i) / (mI S 82 5))]) rfl (if_neg hg) ?_
    refine zw_goto hm_9 dX0_cardOf_20 (t := 24) rfl ?_
    refine zw_iret hm_9 dX0_cardOf_24 ?_
    show ma_wp X d w 8 6 [(0, .inr (.inr (some 82))), (1, .inr (.inr (some t))), (2, .inl i), (3, .inr (.inr x))] [.inl ((((mI S t 4) + (1 : Int32)) + i) / (mI S 82 5))] S _
    refine zw_sto hm_8 dX0_noteReference_6 [(4, .inl ((((mI S t 4) + (1 : Int32)) + i) / (mI S 82 5))), (0, .inr (.inr (some 82))), (1, .inr (.inr (some t))), (2, .inl i), (3, .inr (.inr x))] rfl rfl rfl ?_
    refine zw_push hm_8 dX0_noteReference_8 (v := .inr (.inr x)) rfl ?_
    refine zw_ifnull hm_8 dX0_noteReference_9 (t := 49) rfl ?_ ?_
    · intro hc
      have h := h.1 hc
      (try rw [hc])
      show ma_wp X d w 8 49 [(4, .inl ((((mI S t 4) + (1 : Int32)) + i) / (mI S 82 5))), (0, .inr (.inr (some 82))), (1, .inr (.inr (some t))), (2, .inl i), (3, .inr (.inr none))] [] S _
      exact zw_vret hm_8 dX0_noteReference_49 h
    · intro c2 hc
      have h := h.2 c2 hc
      (try rw [hc])
      show ma_wp X d w 8 12 [(4, .inl ((((mI S t 4) + (1 : Int32)) + i) / (mI S 82 5))), (0, .inr (.inr (some 82))), (1, .inr (.inr (some t))), (2, .inl i), (3, .inr (.inr (some c2)))] [] S _
      refine zw_push hm_8 dX0_noteReference_12 (v := .inr (.inr (some 82))) rfl ?_
      refine zw_push hm_8 dX0_noteReference_13 (v := .inr (.inr (some t))) rfl ?_
      refine zw_cv hm_8 dX0_noteReference_14 v_1_58_1 hm_7 [.inr (.inr (some t))] [] rfl (zT_rt hS s_82 rfl) ⟨by omega, by omega⟩ rfl ?_
      show ma_wp X (d - 1) (w - 21) 7 0 [(0, .inr (.inr (some 82))), (1, .inr (.inr (some t)))] [] S _
      refine zw_push hm_7 dX0_isYoung_0 (v := .inr (.inr (some t))) rfl ?_
      obtain ⟨hg, h⟩ := h
      refine zw_gf hm_7 dX0_isYoung_1 (v := .inl (mI S t 4)) (zT_tis hS hg) (zT_tt hS hg) rfl f_1_62_9 rfl ?_
      refine zw_push hm_7 dX0_isYoung_4 (v := .inr (.inr (some 82))) rfl ?_
      refine zw_gf hm_7 dX0_isYoung_5 (v := .inl (mI S 82 3)) (zT_is hS s_82) (zT_t hS s_82) rfl f_1_19_1 rfl ?_
      refine zw_if2 hm_7 dX0_isYoung_8 (t := 15) rfl zc2_lt ?_ ?_
      · intro hc
        rw [if_pos hc] at h
        refine zw_push hm_7 dX0_isYoung_15 (v := .inl (0 : Int32)) rfl ?_
        refine zw_bret hm_7 dX0_isYoung_16 (by decide) ?_
        show ma_wp X d w 8 17 [(4, .inl ((((mI S t 4) + (1 : Int32)) + i) / (mI S 82 5))), (0, .inr (.inr (some 82))), (1, .inr (.inr (some t))), (2, .inl i), (3, .inr (.inr (some c2)))] [.inl (0 : Int32)] S _
        refine zw_if0 hm_8 dX0_noteReference_17 (t := 49) rfl zc0_ne (fun hc => absurd hc (by decide)) (fun _ => ?_)
        refine zw_push hm_8 dX0_noteReference_20 (v := .inr (.inr (some 82))) rfl ?_
        refine zw_push hm_8 dX0_noteReference_21 (v := .inr (.inr (some c2))) rfl ?_
        refine zw_cv hm_8 dX0_noteReference_22 v_1_58_1 hm_7 [.inr (.inr (some c2))] [] rfl (zT_rt hS s_82 rfl) ⟨by omega, by omega⟩ rfl ?_
        show ma_wp X (d - 1) (w - 21) 7 0 [(0, .inr (.inr (some 82))), (1, .inr (.inr (some c2)))] [] S _
        refine zw_push hm_7 dX0_isYoung_0 (v := .inr (.inr (some c2))) rfl ?_
        obtain ⟨hg, h⟩ := h
        refine zw_gf hm_7 dX0_isYoung_1 (v := .inl (mI S c2 4)) (zT_tis hS hg) (zT_tt hS hg) rfl f_1_62_9 rfl ?_
        refine zw_push hm_7 dX0_isYoung_4 (v := .inr (.inr (some 82))) rfl ?_
        refine zw_gf hm_7 dX0_isYoung_5 (v := .inl (mI S 82 3)) (zT_is hS s_82) (zT_t hS s_82) rfl f_1_19_1 rfl ?_
        refine zw_if2 hm_7 dX0_isYoung_8 (t := 15) rfl zc2_lt ?_ ?_
        · intro hc
          rw [if_pos hc] at h
          refine zw_push hm_7 dX0_isYoung_15 (v := .inl (0 : Int32)) rfl ?_
          refine zw_bret hm_7 dX0_isYoung_16 (by decide) ?_
          show ma_wp X d w 8 25 [(4, .inl ((((mI S t 4) + (1 : Int32)) + i) / (mI S 82 5))), (0, .inr (.inr (some 82))), (1, .inr (.inr (some t))), (2, .inl i), (3, .inr (.inr (some c2)))] [.inl (0 : Int32)] S _
          refine zw_if0 hm_8 dX0_noteReference_25 (t := 49) rfl zc0_eq (fun _ => ?_) (fun hc => absurd (by decide) hc)
          exact zw_vret hm_8 dX0_noteReference_49 h
        · intro hc
          rw [if_neg hc] at h
          refine zw_push hm_7 dX0_isYoung_11 (v := .inl (1 : Int32)) rfl ?_
          refine zw_goto hm_7 dX0_isYoung_12 (t := 16) rfl ?_
          refine zw_bret hm_7 dX0_isYoung_16 (by decide) ?_
          show ma_wp X d w 8 25 [(4, .inl ((((mI S t 4) + (1 : Int32)) + i) / (mI S 82 5))), (0, .inr (.inr (some 82))), (1, .inr (.inr (some t))), (2, .inl i), (3, .inr (.inr (some c2)))] [.inl (1 : Int32)] S _
          refine zw_if0 hm_8 dX0_noteReference_25 (t := 49) rfl zc0_eq (fun hc => absurd hc (by decide)) (fun _ => ?_)
          refine zw_push hm_8 dX0_noteReference_28 (v := .inl ((((mI S t 4) + (1 : Int32)) + i) / (mI S 82 5))) rfl ?_
          refine zw_if0 hm_8 dX0_noteReference_30 (t := 49) rfl zc0_lt ?_ ?_
          · intro hc
            rw [if_pos hc] at h
            exact zw_vret hm_8 dX0_noteReference_49 h
          · intro hc
            rw [if_neg hc] at h
            refine zw_push hm_8 dX0_noteReference_33 (v := .inl ((((mI S t 4) + (1 : Int32)) + i) / (mI S 82 5))) rfl ?_
            refine zw_push hm_8 dX0_noteReference_35 (v := .inl (375 : Int32)) rfl ?_
            refine zw_if2 hm_8 dX0_noteReference_38 (t := 49) rfl zc2_ge ?_ ?_
            · intro hc
              rw [if_pos hc] at h
              exact zw_vret hm_8 dX0_noteReference_49 h
            · intro hc
              rw [if_neg hc] at h
              refine zw_push hm_8 dX0_noteReference_41 (v := .inr (.inr (some 82))) rfl ?_
              refine zw_gf hm_8 dX0_noteReference_42 (v := .inr (.inr (some 83))) (zT_is hS s_82) (zT_t hS s_82) rfl f_1_9_1 (zT_f hS r_82_9) ?_
              refine zw_push hm_8 dX0_noteReference_45 (v := .inl ((((mI S t 4) + (1 : Int32)) + i) / (mI S 82 5))) rfl ?_
              refine zw_push hm_8 dX0_noteReference_47 (v := .inl (1 : Int32)) rfl ?_
              obtain ⟨hg, h⟩ := h
              refine zw_ias hm_8 dX0_noteReference_48 (zT_is hS s_83) (zT_h hS s_83) rfl hg ?_
              exact zw_vret hm_8 dX0_noteReference_49 h
      · intro hc
        rw [if_neg hc] at h
        refine zw_push hm_7 dX0_isYoung_11 (v := .inl (1 : Int32)) rfl ?_
        refine zw_goto hm_7 dX0_isYoung_12 (t := 16) rfl ?_
        refine zw_bret hm_7 dX0_isYoung_16 (by decide) ?_
        show ma_wp X d w 8 17 [(4, .inl ((((mI S t 4) + (1 : Int32)) + i) / (mI S 82 5))), (0, .inr (.inr (some 82))), (1, .inr (.inr (some t))), (2, .inl i), (3, .inr (.inr (some c2)))] [.inl (1 : Int32)] S _
        refine zw_if0 hm_8 dX0_noteReference_17 (t := 49) rfl zc0_ne (fun _ => ?_) (fun hc => absurd (by decide) hc)
        exact zw_vret hm_8 dX0_noteReference_49 h
theorem sp_8_82_sy {X : Nat × (Nat → Int32)} {d w : Nat} {f : Nat → Nat → Int32} {r : Nat → Nat → Option Nat} {C Z N : Nat} {Q : Option ma_V ⊕ Nat → ma_S → Prop} {ab : Nat→Nat→Int32} {R : zRT} {yt : Int32} {y : Int32} {S : ma_S} (t : Nat) (i : Int32) (x : Option Nat) (hd : 1 ≤ d) (hw : 22 ≤ w) (hI : zJ82 f r C Z N S) (th_t : 126 ≤ t ∧ t < N) (hq_x : ∀ c, x = some c → 126 ≤ c ∧ c < N) (hpre0 : xB S R) (hpre1 : aG S = ab) (hpre2 : zTa R yt = some t) (hpre3 : x = zTa R y) (hpre4 : 0 ≤ i.toInt) (hpre5 : i.toInt ≤ 61) (K : ∀ S', zJ82 f r C Z N S' → (xB S' R) → (aG S' = (gNr ab yt.toNatClampNeg i.toInt y)) → Q (.inl none) S') : ma_wp X d w 8 0 [(0, .inr (.inr (some 82))), (1, .inr (.inr (some t))), (2, .inl i), (3, .inr (.inr x))] [] S Q := by
  refine g_8_82_sy_0 t i x (by omega) (by omega) (zG_T hI) ?_
  have b1 := i_bd (mI S 82 5)
  have li2 : (0 : Int32).toInt = 0 := rfl
  refine zd (fun h3 => ?_) (fun h3 => ?_)
  · skip
    have g4 := i_le h3
    refine ⟨fun hc => ?_, fun c1 hc => ?_⟩
    · skip
      have rn_c1 : zTa R y = none := hpre3.symm.trans hc
      exact K _ hI (show xB S R from by first | (exact (xC_o (W := 75) hpre0).2)) (show aG S = (gNr ab yt.toNatClampNeg i.toInt y) from by first | (have tt := xB_th (W := 75) hpre0 hpre2; have e9 : (ab 87 9).toInt = (mI S 82 3).toInt := (by rw [← hpre1]; rfl); have e12 : (ab 87 12).toInt = (mI S 82 5).toInt := (by rw [← hpre1]; rfl); have et : (ab 130 yt.toNatClampNeg).toInt = (mI S t 4).toInt := (by rw [← hpre1, aG_o (by decide) (by decide), ← tt.2.2.2.2.2.1]); unfold gNr; rw [if_neg (fun z => ?_)]; (exact hpre1); (exact xB_nt (W := 75) hpre0 rn_c1 ⟨z.1.1, z.1.2.1, by rw [← aG_o (by decide) (by decide), hpre1]; exact z.1.2.2.1⟩)) | (exfalso; omega))
    · skip
      have th_c1 := hq_x c1 hc
      have rg_c1 : zTa R y = some c1 := hpre3.symm.trans hc
      subst hc
      refine ⟨zG_n hI th_t, ?_⟩
      have f5 := zG_th hI th_t
      have x6 : (mI S 82 3).toInt ≤ (mI S 82 7).toInt ∧ (mI S 82 7).toInt ≤ (mI S 82 3).toInt + (mI S 82 2).toInt := zG_x hI
      have f7 := zG_s hI (0) (1500) (c := 82) (k := 3) (by decide)
      refine zd (fun h8 => ?_) (fun h8 => ?_)
      · skip
        have g9 := i_lt h8
        refine ⟨zG_n hI th_c1, ?_⟩
        have f10 := zG_th hI th_c1
        refine zd (fun h11 => ?_) (fun h11 => ?_)
        · skip
          have g12 := i_lt h11
          exact K _ hI (show xB S R from by first | (exact (xC_o (W := 75) hpre0).2)) (show aG S = (gNr ab yt.toNatClampNeg i.toInt y) from by first | (have tt := xB_th (W := 75) hpre0 hpre2; have e9 : (ab 87 9).toInt = (mI S 82 3).toInt := (by rw [← hpre1]; rfl); have e12 : (ab 87 12).toInt = (mI S 82 5).toInt := (by rw [← hpre1]; rfl); have et : (ab 130 yt.toNatClampNeg).toInt = (mI S t 4).toInt := (by rw [← hpre1, aG_o (by decide) (by decide), ← tt.2.2.2.2.2.1]); have tx := xB_th (W := 75) hpre0 rg_c1; have ex : (ab 130 y.toNatClampNeg).toInt = (mI S c1 4).toInt := (by rw [← hpre1, aG_o (by decide) (by decide), ← tx.2.2.2.2.2.1]); have ea : ab 126 y.toNatClampNeg ≠ 0 := (by rw [← hpre1, aG_o (by decide) (by decide), tx.2.2.2.2.2.2.2.2]; decide); unfold gNr; rw [if_neg (fun z => ?_)]; (exact hpre1); omega) | (have tt := xB_th (W := 75) hpre0 hpre2; have e9 : (ab 87 9).toInt = (mI S 82 3).toInt := (by rw [← hpre1]; rfl); have e12 : (ab 87 12).toInt = (mI S 82 5).toInt := (by rw [← hpre1]; rfl); have et : (ab 130 yt.toNatClampNeg).toInt = (mI S t 4).toInt := (by rw [← hpre1, aG_o (by decide) (by decide), ← tt.2.2.2.2.2.1]); have tx := xB_th (W := 75) hpre0 rg_c1; have ex : (ab 130 y.toNatClampNeg).toInt = (mI S c1 4).toInt := (by rw [← hpre1, aG_o (by decide) (by decide), ← tx.2.2.2.2.2.1]); have ea : ab 126 y.toNatClampNeg ≠ 0 := (by rw [← hpre1, aG_o (by decide) (by decide), tx.2.2.2.2.2.2.2.2]; decide); have d := dy_e hpre0 hpre2 (i := i) (by omega) (by omega) (by omega) (by omega); rw [hpre1] at d; unfold gNr; rw [if_neg (fun z => ?_)]; (exact hpre1); omega) | (exfalso; omega))
        · skip
          have g13 := i_nlt h11
          exact K _ hI (show xB S R from by first | (exact (xC_o (W := 75) hpre0).2)) (show aG S = (gNr ab yt.toNatClampNeg i.toInt y) from by first | (have tt := xB_th (W := 75) hpre0 hpre2; have e9 : (ab 87 9).toInt = (mI S 82 3).toInt := (by rw [← hpre1]; rfl); have e12 : (ab 87 12).toInt = (mI S 82 5).toInt := (by rw [← hpre1]; rfl); have et : (ab 130 yt.toNatClampNeg).toInt = (mI S t 4).toInt := (by rw [← hpre1, aG_o (by decide) (by decide), ← tt.2.2.2.2.2.1]); have tx := xB_th (W := 75) hpre0 rg_c1; have ex : (ab 130 y.toNatClampNeg).toInt = (mI S c1 4).toInt := (by rw [← hpre1, aG_o (by decide) (by decide), ← tx.2.2.2.2.2.1]); have ea : ab 126 y.toNatClampNeg ≠ 0 := (by rw [← hpre1, aG_o (by decide) (by decide), tx.2.2.2.2.2.2.2.2]; decide); unfold gNr; rw [if_neg (fun z => ?_)]; (exact hpre1); omega) | (have tt := xB_th (W := 75) hpre0 hpre2; have e9 : (ab 87 9).toInt = (mI S 82 3).toInt := (by rw [← hpre1]; rfl); have e12 : (ab 87 12).toInt = (mI S 82 5).toInt := (by rw [← hpre1]; rfl); have et : (ab 130 yt.toNatClampNeg).toInt = (mI S t 4).toInt := (by rw [← hpre1, aG_o (by decide) (by decide), ← tt.2.2.2.2.2.1]); have tx := xB_th (W := 75) hpre0 rg_c1; have ex : (ab 130 y.toNatClampNeg).toInt = (mI S c1 4).toInt := (by rw [← hpre1, aG_o (by decide) (by decide), ← tx.2.2.2.2.2.1]); have ea : ab 126 y.toNatClampNeg ≠ 0 := (by rw [← hpre1, aG_o (by decide) (by decide), tx.2.2.2.2.2.2.2.2]; decide); have d := dy_e hpre0 hpre2 (i := i) (by omega) (by omega) (by omega) (by omega); rw [hpre1] at d; unfold gNr; rw [if_neg (fun z => ?_)]; (exact hpre1); omega) | (exfalso; omega))
      · skip
        have g14 := i_nlt h8
        exact K _ hI (show xB S R from by first | (exact (xC_o (W := 75) hpre0).2)) (show aG S = (gNr ab yt.toNatClampNeg i.toInt y) from by first | (have tt := xB_th (W := 75) hpre0 hpre2; have e9 : (ab 87 9).toInt = (mI S 82 3).toInt := (by rw [← hpre1]; rfl); have e12 : (ab 87 12).toInt = (mI S 82 5).toInt := (by rw [← hpre1]; rfl); have et : (ab 130 yt.toNatClampNeg).toInt = (mI S t 4).toInt := (by rw [← hpre1, aG_o (by decide) (by decide), ← tt.2.2.2.2.2.1]); have tx := xB_th (W := 75) hpre0 rg_c1; have ex : (ab 130 y.toNatClampNeg).toInt = (mI S c1 4).toInt := (by rw [← hpre1, aG_o (by decide) (by decide), ← tx.2.2.2.2.2.1]); have ea : ab 126 y.toNatClampNeg ≠ 0 := (by rw [← hpre1, aG_o (by decide) (by decide), tx.2.2.2.2.2.2.2.2]; decide); unfold gNr; rw [if_neg (fun z => ?_)]; (exact hpre1); omega) | (have tt := xB_th (W := 75) hpre0 hpre2; have e9 : (ab 87 9).toInt = (mI S 82 3).toInt := (by rw [← hpre1]; rfl); have e12 : (ab 87 12).toInt = (mI S 82 5).toInt := (by rw [← hpre1]; rfl); have et : (ab 130 yt.toNatClampNeg).toInt = (mI S t 4).toInt := (by rw [← hpre1, aG_o (by decide) (by decide), ← tt.2.2.2.2.2.1]); have tx := xB_th (W := 75) hpre0 rg_c1; have ex : (ab 130 y.toNatClampNeg).toInt = (mI S c1 4).toInt := (by rw [← hpre1, aG_o (by decide) (by decide), ← tx.2.2.2.2.2.1]); have ea : ab 126 y.toNatClampNeg ≠ 0 := (by rw [← hpre1, aG_o (by decide) (by decide), tx.2.2.2.2.2.2.2.2]; decide); have d := dy_e hpre0 hpre2 (i := i) (by omega) (by omega) (by omega) (by omega); rw [hpre1] at d; unfold gNr; rw [if_neg (fun z => ?_)]; (exact hpre1); omega) | (exfalso; omega))
  · skip
    have g15 := i_nle h3
    refine ⟨zG_n hI th_t, ?_⟩
    refine ⟨i_nz (by omega), ?_⟩
    refine ⟨fun hc => ?_, fun c2 hc => ?_⟩
    · skip
      have rn_c2 : zTa R y = none := hpre3.symm.trans hc
      exact K _ hI (show xB S R from by first | (exact (xC_o (W := 75) hpre0).2)) (show aG S = (gNr ab yt.toNatClampNeg i.toInt y) from by first | (have tt := xB_th (W := 75) hpre0 hpre2; have e9 : (ab 87 9).toInt = (mI S 82 3).toInt := (by rw [← hpre1]; rfl); have e12 : (ab 87 12).toInt = (mI S 82 5).toInt := (by rw [← hpre1]; rfl); have et : (ab 130 yt.toNatClampNeg).toInt = (mI S t 4).toInt := (by rw [← hpre1, aG_o (by decide) (by decide), ← tt.2.2.2.2.2.1]); unfold gNr; rw [if_neg (fun z => ?_)]; (exact hpre1); (exact xB_nt (W := 75) hpre0 rn_c2 ⟨z.1.1, z.1.2.1, by rw [← aG_o (by decide) (by decide), hpre1]; exact z.1.2.2.1⟩)) | (exfalso; omega))
    · skip
      have th_c2 := hq_x c2 hc
      have rg_c2 : zTa R y = some c2 := hpre3.symm.trans hc
      subst hc
      refine ⟨zG_n hI th_t, ?_⟩
      have f16 := zG_th hI th_t
      have x17 : (mI S 82 3).toInt ≤ (mI S 82 7).toInt ∧ (mI S 82 7).toInt ≤ (mI S 82 3).toInt + (mI S 82 2).toInt := zG_x hI
      have f18 := zG_s hI (0) (1500) (c := 82) (k := 3) (by decide)
      refine zd (fun h19 => ?_) (fun h19 => ?_)
      · skip
        have g20 := i_lt h19
        refine ⟨zG_n hI th_c2, ?_⟩
        have f21 := zG_th hI th_c2
        refine zd (fun h22 => ?_) (fun h22 => ?_)
        · skip
          have g23 := i_lt h22
          exact K _ hI (show xB S R from by first | (exact (xC_o (W := 75) hpre0).2)) (show aG S = (gNr ab yt.toNatClampNeg i.toInt y) from by first | (have tt := xB_th (W := 75) hpre0 hpre2; have e9 : (ab 87 9).toInt = (mI S 82 3).toInt := (by rw [← hpre1]; rfl); have e12 : (ab 87 12).toInt = (mI S 82 5).toInt := (by rw [← hpre1]; rfl); have et : (ab 130 yt.toNatClampNeg).toInt = (mI S t 4).toInt := (by rw [← hpre1, aG_o (by decide) (by decide), ← tt.2.2.2.2.2.1]); have tx := xB_th (W := 75) hpre0 rg_c2; have ex : (ab 130 y.toNatClampNeg).toInt = (mI S c2 4).toInt := (by rw [← hpre1, aG_o (by decide) (by decide), ← tx.2.2.2.2.2.1]); have ea : ab 126 y.toNatClampNeg ≠ 0 := (by rw [← hpre1, aG_o (by decide) (by decide), tx.2.2.2.2.2.2.2.2]; decide); unfold gNr; rw [if_neg (fun z => ?_)]; (exact hpre1); omega) | (have tt := xB_th (W := 75) hpre0 hpre2; have e9 : (ab 87 9).toInt = (mI S 82 3).toInt := (by rw [← hpre1]; rfl); have e12 : (ab 87 12).toInt = (mI S 82 5).toInt := (by rw [← hpre1]; rfl); have et : (ab 130 yt.toNatClampNeg).toInt = (mI S t 4).toInt := (by rw [← hpre1, aG_o (by decide) (by decide), ← tt.2.2.2.2.2.1]); have tx := xB_th (W := 75) hpre0 rg_c2; have ex : (ab 130 y.toNatClampNeg).toInt = (mI S c2 4).toInt := (by rw [← hpre1, aG_o (by decide) (by decide), ← tx.2.2.2.2.2.1]); have ea : ab 126 y.toNatClampNeg ≠ 0 := (by rw [← hpre1, aG_o (by decide) (by decide), tx.2.2.2.2.2.2.2.2]; decide); have d := dy_e hpre0 hpre2 (i := i) (by omega) (by omega) (by omega) (by omega); rw [hpre1] at d; unfold gNr; rw [if_neg (fun z => ?_)]; (exact hpre1); omega) | (exfalso; omega))
        · skip
          have g24 := i_nlt h22
          first | have e25 : ((mI S t 4) + (1 : Int32)).toInt = (mI S t 4).toInt + (1) := i_addk rfl (by omega) (by omega) | have b26 := i_bd ((mI S t 4) + (1 : Int32))
          have b27 := i_bd i
          first | have e28 : (((mI S t 4) + (1 : Int32)) + i).toInt = ((mI S t 4) + (1 : Int32)).toInt + i.toInt := i_add (by omega) (by omega) | have b29 := i_bd (((mI S t 4) + (1 : Int32)) + i)
          first | have f30 := i_div (x := (((mI S t 4) + (1 : Int32)) + i)) (y := (mI S 82 5)) (by omega) (by omega) | have b31 := i_bd ((((mI S t 4) + (1 : Int32)) + i) / (mI S 82 5))
          refine zd (fun h32 => ?_) (fun h32 => ?_)
          · skip
            have g33 := i_lt h32
            exact K _ hI (show xB S R from by first | (exact (xC_o (W := 75) hpre0).2)) (show aG S = (gNr ab yt.toNatClampNeg i.toInt y) from by first | (have tt := xB_th (W := 75) hpre0 hpre2; have e9 : (ab 87 9).toInt = (mI S 82 3).toInt := (by rw [← hpre1]; rfl); have e12 : (ab 87 12).toInt = (mI S 82 5).toInt := (by rw [← hpre1]; rfl); have et : (ab 130 yt.toNatClampNeg).toInt = (mI S t 4).toInt := (by rw [← hpre1, aG_o (by decide) (by decide), ← tt.2.2.2.2.2.1]); have tx := xB_th (W := 75) hpre0 rg_c2; have ex : (ab 130 y.toNatClampNeg).toInt = (mI S c2 4).toInt := (by rw [← hpre1, aG_o (by decide) (by decide), ← tx.2.2.2.2.2.1]); have ea : ab 126 y.toNatClampNeg ≠ 0 := (by rw [← hpre1, aG_o (by decide) (by decide), tx.2.2.2.2.2.2.2.2]; decide); unfold gNr; rw [if_neg (fun z => ?_)]; (exact hpre1); omega) | (have tt := xB_th (W := 75) hpre0 hpre2; have e9 : (ab 87 9).toInt = (mI S 82 3).toInt := (by rw [← hpre1]; rfl); have e12 : (ab 87 12).toInt = (mI S 82 5).toInt := (by rw [← hpre1]; rfl); have et : (ab 130 yt.toNatClampNeg).toInt = (mI S t 4).toInt := (by rw [← hpre1, aG_o (by decide) (by decide), ← tt.2.2.2.2.2.1]); have tx := xB_th (W := 75) hpre0 rg_c2; have ex : (ab 130 y.toNatClampNeg).toInt = (mI S c2 4).toInt := (by rw [← hpre1, aG_o (by decide) (by decide), ← tx.2.2.2.2.2.1]); have ea : ab 126 y.toNatClampNeg ≠ 0 := (by rw [← hpre1, aG_o (by decide) (by decide), tx.2.2.2.2.2.2.2.2]; decide); have d := dy_e hpre0 hpre2 (i := i) (by omega) (by omega) (by omega) (by omega); rw [hpre1] at d; unfold gNr; rw [if_neg (fun z => ?_)]; (exact hpre1); omega) | (exfalso; omega))
          · skip
            have g34 := i_nlt h32
            have li35 : (375 : Int32).toInt = 375 := rfl
            refine zd (fun h36 => ?_) (fun h36 => ?_)
            · skip
              have g37 := i_le h36
              exact K _ hI (show xB S R from by first | (exact (xC_o (W := 75) hpre0).2)) (show aG S = (gNr ab yt.toNatClampNeg i.toInt y) from by first | (have tt := xB_th (W := 75) hpre0 hpre2; have e9 : (ab 87 9).toInt = (mI S 82 3).toInt := (by rw [← hpre1]; rfl); have e12 : (ab 87 12).toInt = (mI S 82 5).toInt := (by rw [← hpre1]; rfl); have et : (ab 130 yt.toNatClampNeg).toInt = (mI S t 4).toInt := (by rw [← hpre1, aG_o (by decide) (by decide), ← tt.2.2.2.2.2.1]); have tx := xB_th (W := 75) hpre0 rg_c2; have ex : (ab 130 y.toNatClampNeg).toInt = (mI S c2 4).toInt := (by rw [← hpre1, aG_o (by decide) (by decide), ← tx.2.2.2.2.2.1]); have ea : ab 126 y.toNatClampNeg ≠ 0 := (by rw [← hpre1, aG_o (by decide) (by decide), tx.2.2.2.2.2.2.2.2]; decide); unfold gNr; rw [if_neg (fun z => ?_)]; (exact hpre1); omega) | (have tt := xB_th (W := 75) hpre0 hpre2; have e9 : (ab 87 9).toInt = (mI S 82 3).toInt := (by rw [← hpre1]; rfl); have e12 : (ab 87 12).toInt = (mI S 82 5).toInt := (by rw [← hpre1]; rfl); have et : (ab 130 yt.toNatClampNeg).toInt = (mI S t 4).toInt := (by rw [← hpre1, aG_o (by decide) (by decide), ← tt.2.2.2.2.2.1]); have tx := xB_th (W := 75) hpre0 rg_c2; have ex : (ab 130 y.toNatClampNeg).toInt = (mI S c2 4).toInt := (by rw [← hpre1, aG_o (by decide) (by decide), ← tx.2.2.2.2.2.1]); have ea : ab 126 y.toNatClampNeg ≠ 0 := (by rw [← hpre1, aG_o (by decide) (by decide), tx.2.2.2.2.2.2.2.2]; decide); have d := dy_e hpre0 hpre2 (i := i) (by omega) (by omega) (by omega) (by omega); rw [hpre1] at d; unfold gNr; rw [if_neg (fun z => ?_)]; (exact hpre1); omega) | (exfalso; omega))
            · skip
              have g38 := i_nle h36
              refine ⟨i_ix (by omega) (by omega), ?_⟩
              have hI39 : zJ82 f r C Z N (ma_put S 83 ((((mI S t 4) + (1 : Int32)) + i) / (mI S 82 5)).toNatClampNeg (.inl (1 : Int32))) := zG_fa hI rfl (by decide) (by decide) (by decide) (show zJ82_x (mI S) from zG_x hI)
              exact K _ hI39 (show xB (ma_put S 83 ((((mI S t 4) + (1 : Int32)) + i) / (mI S 82 5)).toNatClampNeg (.inl (1 : Int32))) R from by first | (exact (xC_n (c := 83) (k := ((((mI S t 4) + (1 : Int32)) + i) / (mI S 82 5)).toNatClampNeg) (x := (1 : Int32)) (xC_o (W := 75) hpre0) ⟨by decide, Or.inl ⟨rfl, rfl⟩⟩).2)) (show aG (ma_put S 83 ((((mI S t 4) + (1 : Int32)) + i) / (mI S 82 5)).toNatClampNeg (.inl (1 : Int32))) = (gNr ab yt.toNatClampNeg i.toInt y) from by first | (have tt := xB_th (W := 75) hpre0 hpre2; have e9 : (ab 87 9).toInt = (mI S 82 3).toInt := (by rw [← hpre1]; rfl); have e12 : (ab 87 12).toInt = (mI S 82 5).toInt := (by rw [← hpre1]; rfl); have et : (ab 130 yt.toNatClampNeg).toInt = (mI S t 4).toInt := (by rw [← hpre1, aG_o (by decide) (by decide), ← tt.2.2.2.2.2.1]); have tx := xB_th (W := 75) hpre0 rg_c2; have ex : (ab 130 y.toNatClampNeg).toInt = (mI S c2 4).toInt := (by rw [← hpre1, aG_o (by decide) (by decide), ← tx.2.2.2.2.2.1]); have ea : ab 126 y.toNatClampNeg ≠ 0 := (by rw [← hpre1, aG_o (by decide) (by decide), tx.2.2.2.2.2.2.2.2]; decide); have d := dy_e hpre0 hpre2 (i := i) (by omega) (by omega) (by omega) (by omega); rw [hpre1] at d; have tc := tn_cast (x := (mI S t 4 + (1 : Int32) + i) / mI S 82 5) (by omega); unfold gNr; rw [if_pos ⟨⟨tx.1, tx.2.1, ea, by omega⟩, by omega, by omega, by omega⟩, ((G_p8 (n := ((((mI S t 4) + (1 : Int32)) + i) / (mI S 82 5)).toNatClampNeg) (x := (1 : Int32)) (xC_o (W := 75) hpre0).2).trans (congrArg (fun q => ma_u q 83 ((((mI S t 4) + (1 : Int32)) + i) / (mI S 82 5)).toNatClampNeg (1 : Int32)) (show aG S = aG S from rfl))), hpre1, show (gCx ab yt.toNatClampNeg i.toInt).toNat = ((mI S t 4 + (1 : Int32) + i) / mI S 82 5).toNatClampNeg from by omega]) | (exfalso; omega))
      · skip
        have g40 := i_nlt h19
        exact K _ hI (show xB S R from by first | (exact (xC_o (W := 75) hpre0).2)) (show aG S = (gNr ab yt.toNatClampNeg i.toInt y) from by first | (have tt := xB_th (W := 75) hpre0 hpre2; have e9 : (ab 87 9).toInt = (mI S 82 3).toInt := (by rw [← hpre1]; rfl); have e12 : (ab 87 12).toInt = (mI S 82 5).toInt := (by rw [← hpre1]; rfl); have et : (ab 130 yt.toNatClampNeg).toInt = (mI S t 4).toInt := (by rw [← hpre1, aG_o (by decide) (by decide), ← tt.2.2.2.2.2.1]); have tx := xB_th (W := 75) hpre0 rg_c2; have ex : (ab 130 y.toNatClampNeg).toInt = (mI S c2 4).toInt := (by rw [← hpre1, aG_o (by decide) (by decide), ← tx.2.2.2.2.2.1]); have ea : ab 126 y.toNatClampNeg ≠ 0 := (by rw [← hpre1, aG_o (by decide) (by decide), tx.2.2.2.2.2.2.2.2]; decide); unfold gNr; rw [if_neg (fun z => ?_)]; (exact hpre1); omega) | (have tt := xB_th (W := 75) hpre0 hpre2; have e9 : (ab 87 9).toInt = (mI S 82 3).toInt := (by rw [← hpre1]; rfl); have e12 : (ab 87 12).toInt = (mI S 82 5).toInt := (by rw [← hpre1]; rfl); have et : (ab 130 yt.toNatClampNeg).toInt = (mI S t 4).toInt := (by rw [← hpre1, aG_o (by decide) (by decide), ← tt.2.2.2.2.2.1]); have tx := xB_th (W := 75) hpre0 rg_c2; have ex : (ab 130 y.toNatClampNeg).toInt = (mI S c2 4).toInt := (by rw [← hpre1, aG_o (by decide) (by decide), ← tx.2.2.2.2.2.1]); have ea : ab 126 y.toNatClampNeg ≠ 0 := (by rw [← hpre1, aG_o (by decide) (by decide), tx.2.2.2.2.2.2.2.2]; decide); have d := dy_e hpre0 hpre2 (i := i) (by omega) (by omega) (by omega) (by omega); rw [hpre1] at d; unfold gNr; rw [if_neg (fun z => ?_)]; (exact hpre1); omega) | (exfalso; omega))
