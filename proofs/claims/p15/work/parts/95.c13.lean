/-! the class behind (written by wip/tools/gen95c.py) -/
theorem g_131_64_16_0 {X : Nat × (Nat → Int32)} {d w : Nat} {S : ma_S} {Q : Option ma_V ⊕ Nat → ma_S → Prop}  (hd : 5 ≤ d) (hw : 100 ≤ w) (hS : zT S) (h : if ((mI S 64 3) - (mI S 64 2)) = (5 : Int32) then (ma_wp X d w 131 20 [(0, .inr (.inr (some 64))), (1, .inr (.inr (some 16))), (2, .inl (0 : Int32))] [] S Q) else (Q (.inl (some (.inl (0 : Int32)))) S)) : ma_wp X d w 131 0 [(0, .inr (.inr (some 64))), (1, .inr (.inr (some 16)))] [] S Q := by
  refine zw_push hm_131 dX11_tokenIs_0 (v := .inr (.inr (some 64))) rfl ?_
  refine zw_gf hm_131 dX11_tokenIs_1 (v := .inl (mI S 64 3)) (zT_is hS s_64) (zT_t hS s_64) rfl f_11_275_11 rfl ?_
  refine zw_push hm_131 dX11_tokenIs_4 (v := .inr (.inr (some 64))) rfl ?_
  refine zw_gf hm_131 dX11_tokenIs_5 (v := .inl (mI S 64 2)) (zT_is hS s_64) (zT_t hS s_64) rfl f_11_92_11 rfl ?_
  refine zw_stk hm_131 dX11_tokenIs_8 (st' := [.inl ((mI S 64 3) - (mI S 64 2))]) rfl rfl ?_
  refine zw_push hm_131 dX11_tokenIs_9 (v := .inr (.inr (some 16))) rfl ?_
  refine zw_cv hm_131 dX11_tokenIs_10 v_11_288_17 hm_277 [] [.inl ((mI S 64 3) - (mI S 64 2))] rfl rfl ⟨by omega, by omega⟩ rfl (tx_len (v := (5 : Int32)) (by decide) (by omega) (by omega) rfl rfl ?_)
  show ma_wp X d w 131 13 [(0, .inr (.inr (some 64))), (1, .inr (.inr (some 16)))] [.inl (5 : Int32), .inl ((mI S 64 3) - (mI S 64 2))] S _
  refine zw_if2 hm_131 dX11_tokenIs_13 (t := 18) rfl zc2_eq ?_ ?_
  · intro hc
    rw [if_pos hc] at h
    refine zw_push hm_131 dX11_tokenIs_18 (v := .inl (0 : Int32)) rfl ?_
    refine zw_sto hm_131 dX11_tokenIs_19 [(2, .inl (0 : Int32)), (0, .inr (.inr (some 64))), (1, .inr (.inr (some 16)))] rfl rfl rfl ?_
    exact zw_sub (ma_nd_of (ks := [0, 1, 2]) rfl (by decide)) (ma_nd_of (ks := [2, 0, 1]) rfl (by decide)) (ma_le_cons rfl (ma_le_cons rfl (ma_le_cons rfl (ma_le_nil _)))) h
  · intro hc
    rw [if_neg hc] at h
    refine zw_push hm_131 dX11_tokenIs_16 (v := .inl (0 : Int32)) rfl ?_
    exact zw_bret hm_131 dX11_tokenIs_17 (by decide) h
theorem g_131_64_16_20 {X : Nat × (Nat → Int32)} {d w : Nat} {S : ma_S} {Q : Option ma_V ⊕ Nat → ma_S → Prop} (l2 : Int32) (hd : 5 ≤ d) (hw : 100 ≤ w) (hS : zT S) (h : if (5 : Int32) ≤ l2 then (Q (.inl (some (.inl (1 : Int32)))) S) else (if (100 : Int32) ≤ ((mI S 64 2) + l2) then (Q (.inl (some (.inl (1 : Int32)))) S) else ((0 ≤ ((mI S 64 2) + l2) ∧ ((mI S 64 2) + l2).toNatClampNeg < 100) ∧ ((0 ≤ l2 ∧ l2.toNatClampNeg < 5) ∧ (if (mI S 65 ((mI S 64 2) + l2).toNatClampNeg) = ((((ma_txb.getD 16 []).getD l2.toNatClampNeg 0 &&& 255).toUInt32 % 65536).toInt32) then (ma_wp X d w 131 20 [(0, .inr (.inr (some 64))), (1, .inr (.inr (some 16))), (2, .inl (l2 + (1 : Int32)))] [] S Q) else (Q (.inl (some (.inl (0 : Int32)))) S)))))) : ma_wp X d w 131 20 [(0, .inr (.inr (some 64))), (1, .inr (.inr (some 16))), (2, .inl l2)] [] S Q := by
  refine zw_push hm_131 dX11_tokenIs_20 (v := .inl l2) rfl ?_
  refine zw_push hm_131 dX11_tokenIs_21 (v := .inr (.inr (some 16))) rfl ?_
  refine zw_cv hm_131 dX11_tokenIs_22 v_11_288_17 hm_277 [] [.inl l2] rfl rfl ⟨by omega, by omega⟩ rfl (tx_len (v := (5 : Int32)) (by decide) (by omega) (by omega) rfl rfl ?_)
  show ma_wp X d w 131 25 [(0, .inr (.inr (some 64))), (1, .inr (.inr (some 16))), (2, .inl l2)] [.inl (5 : Int32), .inl l2] S _
  refine zw_if2 hm_131 dX11_tokenIs_25 (t := 66) rfl zc2_ge ?_ ?_
  · intro hc
    rw [if_pos hc] at h
    refine zw_push hm_131 dX11_tokenIs_66 (v := .inl (1 : Int32)) rfl ?_
    exact zw_bret hm_131 dX11_tokenIs_67 (by decide) h
  · intro hc
    rw [if_neg hc] at h
    refine zw_push hm_131 dX11_tokenIs_28 (v := .inr (.inr (some 64))) rfl ?_
    refine zw_gf hm_131 dX11_tokenIs_29 (v := .inl (mI S 64 2)) (zT_is hS s_64) (zT_t hS s_64) rfl f_11_92_11 rfl ?_
    refine zw_push hm_131 dX11_tokenIs_32 (v := .inl l2) rfl ?_
    refine zw_stk hm_131 dX11_tokenIs_33 (st' := [.inl ((mI S 64 2) + l2)]) rfl rfl ?_
    refine zw_push hm_131 dX11_tokenIs_34 (v := .inl (100 : Int32)) rfl ?_
    refine zw_if2 hm_131 dX11_tokenIs_36 (t := 66) rfl zc2_ge ?_ ?_
    · intro hc
      rw [if_pos hc] at h
      refine zw_push hm_131 dX11_tokenIs_66 (v := .inl (1 : Int32)) rfl ?_
      exact zw_bret hm_131 dX11_tokenIs_67 (by decide) h
    · intro hc
      rw [if_neg hc] at h
      refine zw_push hm_131 dX11_tokenIs_39 (v := .inr (.inr (some 64))) rfl ?_
      refine zw_gf hm_131 dX11_tokenIs_40 (v := .inr (.inr (some 65))) (zT_is hS s_64) (zT_t hS s_64) rfl f_11_9_11 (zT_f hS r_64_0) ?_
      refine zw_push hm_131 dX11_tokenIs_43 (v := .inr (.inr (some 64))) rfl ?_
      refine zw_gf hm_131 dX11_tokenIs_44 (v := .inl (mI S 64 2)) (zT_is hS s_64) (zT_t hS s_64) rfl f_11_92_11 rfl ?_
      refine zw_push hm_131 dX11_tokenIs_47 (v := .inl l2) rfl ?_
      refine zw_stk hm_131 dX11_tokenIs_48 (st' := [.inl ((mI S 64 2) + l2), .inr (.inr (some 65))]) rfl rfl ?_
      obtain ⟨hg, h⟩ := h
      refine zw_ba hm_131 dX11_tokenIs_49 (zT_is hS s_65) (zT_h hS s_65) rfl rfl hg ?_
      show ma_wp X d w 131 50 [(0, .inr (.inr (some 64))), (1, .inr (.inr (some 16))), (2, .inl l2)] [.inl (mI S 65 ((mI S 64 2) + l2).toNatClampNeg)] S _
      refine zw_push hm_131 dX11_tokenIs_50 (v := .inr (.inr (some 16))) rfl ?_
      refine zw_push hm_131 dX11_tokenIs_51 (v := .inl l2) rfl ?_
      obtain ⟨hg, h⟩ := h
      refine zw_cv hm_131 dX11_tokenIs_52 v_11_293_17 hm_279 [.inl l2] [.inl (mI S 65 ((mI S 64 2) + l2).toNatClampNeg)] rfl rfl ⟨by omega, by omega⟩ rfl (tx_char (by decide) (by omega) (by omega) hg (by decide) rfl (tx_idem _) ?_)
      show ma_wp X d w 131 55 [(0, .inr (.inr (some 64))), (1, .inr (.inr (some 16))), (2, .inl l2)] [.inl ((((ma_txb.getD 16 []).getD l2.toNatClampNeg 0 &&& 255).toUInt32 % 65536).toInt32), .inl (mI S 65 ((mI S 64 2) + l2).toNatClampNeg)] S _
      refine zw_if2 hm_131 dX11_tokenIs_55 (t := 60) rfl zc2_eq ?_ ?_
      · intro hc
        rw [if_pos hc] at h
        refine zw_sto hm_131 dX11_tokenIs_60 [(2, .inl (l2 + (1 : Int32))), (0, .inr (.inr (some 64))), (1, .inr (.inr (some 16)))] rfl rfl rfl ?_
        refine zw_goto hm_131 dX11_tokenIs_63 (t := 20) rfl ?_
        exact zw_sub (ma_nd_of (ks := [0, 1, 2]) rfl (by decide)) (ma_nd_of (ks := [2, 0, 1]) rfl (by decide)) (ma_le_cons rfl (ma_le_cons rfl (ma_le_cons rfl (ma_le_nil _)))) h
      · intro hc
        rw [if_neg hc] at h
        refine zw_push hm_131 dX11_tokenIs_58 (v := .inl (0 : Int32)) rfl ?_
        exact zw_bret hm_131 dX11_tokenIs_59 (by decide) h
theorem lp_131_64_16_20 {X : Nat × (Nat → Int32)} {d w : Nat} {f : Nat → Nat → Int32} {r : Nat → Nat → Option Nat} {C Z N : Nat} {Q : Option ma_V ⊕ Nat → ma_S → Prop} (hd : 5 ≤ d) (hw : 100 ≤ w) (K : ∀ v S', zX f r C Z N S' → (v = 0 ∨ v = 1) → Q (.inl (some (.inl v))) S') : ∀ (n : Nat) (S : ma_S) (l2 : Int32), (6 - l2.toInt).toNat = n → zX f r C Z N S → (0 ≤ l2.toInt) → ma_wp X d w 131 20 [(0, .inr (.inr (some 64))), (1, .inr (.inr (some 16))), (2, .inl l2)] [] S Q := by
  intro n
  induction n using Nat.strongRecOn with
  | _ n IH =>
    intro S l2 hmu hI  hi0
    refine g_131_64_16_20 l2 (by omega) (by omega) (zG_T hI) ?_
    have li1 : (5 : Int32).toInt = 5 := rfl
    have b2 := i_bd l2
    refine zd (fun h3 => ?_) (fun h3 => ?_)
    · skip
      have g4 := i_le h3
      have li5 : (1 : Int32).toInt = 1 := rfl
      exact K ((1 : Int32)) _ hI (by decide)
    · skip
      have g6 := i_nle h3
      have li7 : (100 : Int32).toInt = 100 := rfl
      have f8 := zG_s hI (0) (100) (c := 64) (k := 2) (by decide)
      first | have e9 : ((mI S 64 2) + l2).toInt = (mI S 64 2).toInt + l2.toInt := i_add (by omega) (by omega) | have b10 := i_bd ((mI S 64 2) + l2)
      refine zd (fun h11 => ?_) (fun h11 => ?_)
      · skip
        have g12 := i_le h11
        have li13 : (1 : Int32).toInt = 1 := rfl
        exact K ((1 : Int32)) _ hI (by decide)
      · skip
        have g14 := i_nle h11
        refine ⟨i_ix (by omega) (by omega), ?_⟩
        refine ⟨i_ix (by omega) (by omega), ?_⟩
        have b15 := i_bd (mI S 65 ((mI S 64 2) + l2).toNatClampNeg)
        have b16 := i_bd ((((ma_txb.getD 16 []).getD l2.toNatClampNeg 0 &&& 255).toUInt32 % 65536).toInt32)
        refine zd (fun h17 => ?_) (fun h17 => ?_)
        · skip
          have g18 := i_eq h17
          first | have e19 : (l2 + (1 : Int32)).toInt = l2.toInt + (1) := i_addk rfl (by omega) (by omega) | have b20 := i_bd (l2 + (1 : Int32))
          exact IH _ (by omega) _ ((l2 + (1 : Int32))) rfl hI (by omega)
        · skip
          have g21 := i_ne h17
          have li22 : (0 : Int32).toInt = 0 := rfl
          exact K ((0 : Int32)) _ hI (by decide)
theorem sp_131_64_16 {X : Nat × (Nat → Int32)} {d w : Nat} {f : Nat → Nat → Int32} {r : Nat → Nat → Option Nat} {C Z N : Nat} {Q : Option ma_V ⊕ Nat → ma_S → Prop} {S : ma_S}  (hd : 5 ≤ d) (hw : 100 ≤ w) (hI : zX f r C Z N S)  (K : ∀ v S', zX f r C Z N S' → (v = 0 ∨ v = 1) → Q (.inl (some (.inl v))) S') : ma_wp X d w 131 0 [(0, .inr (.inr (some 64))), (1, .inr (.inr (some 16)))] [] S Q := by
  refine g_131_64_16_0  (by omega) (by omega) (zG_T hI) ?_
  have f1 := zG_s hI (0) (100) (c := 64) (k := 3) (by decide)
  have f2 := zG_s hI (0) (100) (c := 64) (k := 2) (by decide)
  first | have e3 : ((mI S 64 3) - (mI S 64 2)).toInt = (mI S 64 3).toInt - (mI S 64 2).toInt := i_sub (by omega) (by omega) | have b4 := i_bd ((mI S 64 3) - (mI S 64 2))
  have li5 : (5 : Int32).toInt = 5 := rfl
  refine zd (fun h6 => ?_) (fun h6 => ?_)
  · skip
    have g7 := i_eq h6
    have li8 : (0 : Int32).toInt = 0 := rfl
    exact lp_131_64_16_20 (by omega) (by omega) K _ _ ((0 : Int32)) rfl hI (by omega)
  · skip
    have g9 := i_ne h6
    have li10 : (0 : Int32).toInt = 0 := rfl
    exact K ((0 : Int32)) _ hI (by decide)
theorem g_131_64_17_0 {X : Nat × (Nat → Int32)} {d w : Nat} {S : ma_S} {Q : Option ma_V ⊕ Nat → ma_S → Prop}  (hd : 5 ≤ d) (hw : 100 ≤ w) (hS : zT S) (h : if ((mI S 64 3) - (mI S 64 2)) = (7 : Int32) then (ma_wp X d w 131 20 [(0, .inr (.inr (some 64))), (1, .inr (.inr (some 17))), (2, .inl (0 : Int32))] [] S Q) else (Q (.inl (some (.inl (0 : Int32)))) S)) : ma_wp X d w 131 0 [(0, .inr (.inr (some 64))), (1, .inr (.inr (some 17)))] [] S Q := by
  refine zw_push hm_131 dX11_tokenIs_0 (v := .inr (.inr (some 64))) rfl ?_
  refine zw_gf hm_131 dX11_tokenIs_1 (v := .inl (mI S 64 3)) (zT_is hS s_64) (zT_t hS s_64) rfl f_11_275_11 rfl ?_
  refine zw_push hm_131 dX11_tokenIs_4 (v := .inr (.inr (some 64))) rfl ?_
  refine zw_gf hm_131 dX11_tokenIs_5 (v := .inl (mI S 64 2)) (zT_is hS s_64) (zT_t hS s_64) rfl f_11_92_11 rfl ?_
  refine zw_stk hm_131 dX11_tokenIs_8 (st' := [.inl ((mI S 64 3) - (mI S 64 2))]) rfl rfl ?_
  refine zw_push hm_131 dX11_tokenIs_9 (v := .inr (.inr (some 17))) rfl ?_
  refine zw_cv hm_131 dX11_tokenIs_10 v_11_288_17 hm_277 [] [.inl ((mI S 64 3) - (mI S 64 2))] rfl rfl ⟨by omega, by omega⟩ rfl (tx_len (v := (7 : Int32)) (by decide) (by omega) (by omega) rfl rfl ?_)
  show ma_wp X d w 131 13 [(0, .inr (.inr (some 64))), (1, .inr (.inr (some 17)))] [.inl (7 : Int32), .inl ((mI S 64 3) - (mI S 64 2))] S _
  refine zw_if2 hm_131 dX11_tokenIs_13 (t := 18) rfl zc2_eq ?_ ?_
  · intro hc
    rw [if_pos hc] at h
    refine zw_push hm_131 dX11_tokenIs_18 (v := .inl (0 : Int32)) rfl ?_
    refine zw_sto hm_131 dX11_tokenIs_19 [(2, .inl (0 : Int32)), (0, .inr (.inr (some 64))), (1, .inr (.inr (some 17)))] rfl rfl rfl ?_
    exact zw_sub (ma_nd_of (ks := [0, 1, 2]) rfl (by decide)) (ma_nd_of (ks := [2, 0, 1]) rfl (by decide)) (ma_le_cons rfl (ma_le_cons rfl (ma_le_cons rfl (ma_le_nil _)))) h
  · intro hc
    rw [if_neg hc] at h
    refine zw_push hm_131 dX11_tokenIs_16 (v := .inl (0 : Int32)) rfl ?_
    exact zw_bret hm_131 dX11_tokenIs_17 (by decide) h
theorem g_131_64_17_20 {X : Nat × (Nat → Int32)} {d w : Nat} {S : ma_S} {Q : Option ma_V ⊕ Nat → ma_S → Prop} (l2 : Int32) (hd : 5 ≤ d) (hw : 100 ≤ w) (hS : zT S) (h : if (7 : Int32) ≤ l2 then (Q (.inl (some (.inl (1 : Int32)))) S) else (if (100 : Int32) ≤ ((mI S 64 2) + l2) then (Q (.inl (some (.inl (1 : Int32)))) S) else ((0 ≤ ((mI S 64 2) + l2) ∧ ((mI S 64 2) + l2).toNatClampNeg < 100) ∧ ((0 ≤ l2 ∧ l2.toNatClampNeg < 7) ∧ (if (mI S 65 ((mI S 64 2) + l2).toNatClampNeg) = ((((ma_txb.getD 17 []).getD l2.toNatClampNeg 0 &&& 255).toUInt32 % 65536).toInt32) then (ma_wp X d w 131 20 [(0, .inr (.inr (some 64))), (1, .inr (.inr (some 17))), (2, .inl (l2 + (1 : Int32)))] [] S Q) else (Q (.inl (some (.inl (0 : Int32)))) S)))))) : ma_wp X d w 131 20 [(0, .inr (.inr (some 64))), (1, .inr (.inr (some 17))), (2, .inl l2)] [] S Q := by
  refine zw_push hm_131 dX11_tokenIs_20 (v := .inl l2) rfl ?_
  refine zw_push hm_131 dX11_tokenIs_21 (v := .inr (.inr (some 17))) rfl ?_
  refine zw_cv hm_131 dX11_tokenIs_22 v_11_288_17 hm_277 [] [.inl l2] rfl rfl ⟨by omega, by omega⟩ rfl (tx_len (v := (7 : Int32)) (by decide) (by omega) (by omega) rfl rfl ?_)
  show ma_wp X d w 131 25 [(0, .inr (.inr (some 64))), (1, .inr (.inr (some 17))), (2, .inl l2)] [.inl (7 : Int32), .inl l2] S _
  refine zw_if2 hm_131 dX11_tokenIs_25 (t := 66) rfl zc2_ge ?_ ?_
  · intro hc
    rw [if_pos hc] at h
    refine zw_push hm_131 dX11_tokenIs_66 (v := .inl (1 : Int32)) rfl ?_
    exact zw_bret hm_131 dX11_tokenIs_67 (by decide) h
  · intro hc
    rw [if_neg hc] at h
    refine zw_push hm_131 dX11_tokenIs_28 (v := .inr (.inr (some 64))) rfl ?_
    refine zw_gf hm_131 dX11_tokenIs_29 (v := .inl (mI S 64 2)) (zT_is hS s_64) (zT_t hS s_64) rfl f_11_92_11 rfl ?_
    refine zw_push hm_131 dX11_tokenIs_32 (v := .inl l2) rfl ?_
    refine zw_stk hm_131 dX11_tokenIs_33 (st' := [.inl ((mI S 64 2) + l2)]) rfl rfl ?_
    refine zw_push hm_131 dX11_tokenIs_34 (v := .inl (100 : Int32)) rfl ?_
    refine zw_if2 hm_131 dX11_tokenIs_36 (t := 66) rfl zc2_ge ?_ ?_
    · intro hc
      rw [if_pos hc] at h
      refine zw_push hm_131 dX11_tokenIs_66 (v := .inl (1 : Int32)) rfl ?_
      exact zw_bret hm_131 dX11_tokenIs_67 (by decide) h
    · intro hc
      rw [if_neg hc] at h
      refine zw_push hm_131 dX11_tokenIs_39 (v := .inr (.inr (some 64))) rfl ?_
      refine zw_gf hm_131 dX11_tokenIs_40 (v := .inr (.inr (some 65))) (zT_is hS s_64) (zT_t hS s_64) rfl f_11_9_11 (zT_f hS r_64_0) ?_
      refine zw_push hm_131 dX11_tokenIs_43 (v := .inr (.inr (some 64))) rfl ?_
      refine zw_gf hm_131 dX11_tokenIs_44 (v := .inl (mI S 64 2)) (zT_is hS s_64) (zT_t hS s_64) rfl f_11_92_11 rfl ?_
      refine zw_push hm_131 dX11_tokenIs_47 (v := .inl l2) rfl ?_
      refine zw_stk hm_131 dX11_tokenIs_48 (st' := [.inl ((mI S 64 2) + l2), .inr (.inr (some 65))]) rfl rfl ?_
      obtain ⟨hg, h⟩ := h
      refine zw_ba hm_131 dX11_tokenIs_49 (zT_is hS s_65) (zT_h hS s_65) rfl rfl hg ?_
      show ma_wp X d w 131 50 [(0, .inr (.inr (some 64))), (1, .inr (.inr (some 17))), (2, .inl l2)] [.inl (mI S 65 ((mI S 64 2) + l2).toNatClampNeg)] S _
      refine zw_push hm_131 dX11_tokenIs_50 (v := .inr (.inr (some 17))) rfl ?_
      refine zw_push hm_131 dX11_tokenIs_51 (v := .inl l2) rfl ?_
      obtain ⟨hg, h⟩ := h
      refine zw_cv hm_131 dX11_tokenIs_52 v_11_293_17 hm_279 [.inl l2] [.inl (mI S 65 ((mI S 64 2) + l2).toNatClampNeg)] rfl rfl ⟨by omega, by omega⟩ rfl (tx_char (by decide) (by omega) (by omega) hg (by decide) rfl (tx_idem _) ?_)
      show ma_wp X d w 131 55 [(0, .inr (.inr (some 64))), (1, .inr (.inr (some 17))), (2, .inl l2)] [.inl ((((ma_txb.getD 17 []).getD l2.toNatClampNeg 0 &&& 255).toUInt32 % 65536).toInt32), .inl (mI S 65 ((mI S 64 2) + l2).toNatClampNeg)] S _
      refine zw_if2 hm_131 dX11_tokenIs_55 (t := 60) rfl zc2_eq ?_ ?_
      · intro hc
        rw [if_pos hc] at h
        refine zw_sto hm_131 dX11_tokenIs_60 [(2, .inl (l2 + (1 : Int32))), (0, .inr (.inr (some 64))), (1, .inr (.inr (some 17)))] rfl rfl rfl ?_
        refine zw_goto hm_131 dX11_tokenIs_63 (t := 20) rfl ?_
        exact zw_sub (ma_nd_of (ks := [0, 1, 2]) rfl (by decide)) (ma_nd_of (ks := [2, 0, 1]) rfl (by decide)) (ma_le_cons rfl (ma_le_cons rfl (ma_le_cons rfl (ma_le_nil _)))) h
      · intro hc
        rw [if_neg hc] at h
        refine zw_push hm_131 dX11_tokenIs_58 (v := .inl (0 : Int32)) rfl ?_
        exact zw_bret hm_131 dX11_tokenIs_59 (by decide) h
theorem lp_131_64_17_20 {X : Nat × (Nat → Int32)} {d w : Nat} {f : Nat → Nat → Int32} {r : Nat → Nat → Option Nat} {C Z N : Nat} {Q : Option ma_V ⊕ Nat → ma_S → Prop} (hd : 5 ≤ d) (hw : 100 ≤ w) (K : ∀ v S', zX f r C Z N S' → (v = 0 ∨ v = 1) → Q (.inl (some (.inl v))) S') : ∀ (n : Nat) (S : ma_S) (l2 : Int32), (8 - l2.toInt).toNat = n → zX f r C Z N S → (0 ≤ l2.toInt) → ma_wp X d w 131 20 [(0, .inr (.inr (some 64))), (1, .inr (.inr (some 17))), (2, .inl l2)] [] S Q := by
  intro n
  induction n using Nat.strongRecOn with
  | _ n IH =>
    intro S l2 hmu hI  hi0
    refine g_131_64_17_20 l2 (by omega) (by omega) (zG_T hI) ?_
    have li1 : (7 : Int32).toInt = 7 := rfl
    have b2 := i_bd l2
    refine zd (fun h3 => ?_) (fun h3 => ?_)
    · skip
      have g4 := i_le h3
      have li5 : (1 : Int32).toInt = 1 := rfl
      exact K ((1 : Int32)) _ hI (by decide)
    · skip
      have g6 := i_nle h3
      have li7 : (100 : Int32).toInt = 100 := rfl
      have f8 := zG_s hI (0) (100) (c := 64) (k := 2) (by decide)
      first | have e9 : ((mI S 64 2) + l2).toInt = (mI S 64 2).toInt + l2.toInt := i_add (by omega) (by omega) | have b10 := i_bd ((mI S 64 2) + l2)
      refine zd (fun h11 => ?_) (fun h11 => ?_)
      · skip
        have g12 := i_le h11
        have li13 : (1 : Int32).toInt = 1 := rfl
        exact K ((1 : Int32)) _ hI (by decide)
      · skip
        have g14 := i_nle h11
        refine ⟨i_ix (by omega) (by omega), ?_⟩
        refine ⟨i_ix (by omega) (by omega), ?_⟩
        have b15 := i_bd (mI S 65 ((mI S 64 2) + l2).toNatClampNeg)
        have b16 := i_bd ((((ma_txb.getD 17 []).getD l2.toNatClampNeg 0 &&& 255).toUInt32 % 65536).toInt32)
        refine zd (fun h17 => ?_) (fun h17 => ?_)
        · skip
          have g18 := i_eq h17
          first | have e19 : (l2 + (1 : Int32)).toInt = l2.toInt + (1) := i_addk rfl (by omega) (by omega) | have b20 := i_bd (l2 + (1 : Int32))
          exact IH _ (by omega) _ ((l2 + (1 : Int32))) rfl hI (by omega)
        · skip
          have g21 := i_ne h17
          have li22 : (0 : Int32).toInt = 0 := rfl
          exact K ((0 : Int32)) _ hI (by decide)
theorem sp_131_64_17 {X : Nat × (Nat → Int32)} {d w : Nat} {f : Nat → Nat → Int32} {r : Nat → Nat → Option Nat} {C Z N : Nat} {Q : Option ma_V ⊕ Nat → ma_S → Prop} {S : ma_S}  (hd : 5 ≤ d) (hw : 100 ≤ w) (hI : zX f r C Z N S)  (K : ∀ v S', zX f r C Z N S' → (v = 0 ∨ v = 1) → Q (.inl (some (.inl v))) S') : ma_wp X d w 131 0 [(0, .inr (.inr (some 64))), (1, .inr (.inr (some 17)))] [] S Q := by
  refine g_131_64_17_0  (by omega) (by omega) (zG_T hI) ?_
  have f1 := zG_s hI (0) (100) (c := 64) (k := 3) (by decide)
  have f2 := zG_s hI (0) (100) (c := 64) (k := 2) (by decide)
  first | have e3 : ((mI S 64 3) - (mI S 64 2)).toInt = (mI S 64 3).toInt - (mI S 64 2).toInt := i_sub (by omega) (by omega) | have b4 := i_bd ((mI S 64 3) - (mI S 64 2))
  have li5 : (7 : Int32).toInt = 7 := rfl
  refine zd (fun h6 => ?_) (fun h6 => ?_)
  · skip
    have g7 := i_eq h6
    have li8 : (0 : Int32).toInt = 0 := rfl
    exact lp_131_64_17_20 (by omega) (by omega) K _ _ ((0 : Int32)) rfl hI (by omega)
  · skip
    have g9 := i_ne h6
    have li10 : (0 : Int32).toInt = 0 := rfl
    exact K ((0 : Int32)) _ hI (by decide)
theorem g_131_64_18_0 {X : Nat × (Nat → Int32)} {d w : Nat} {S : ma_S} {Q : Option ma_V ⊕ Nat → ma_S → Prop}  (hd : 5 ≤ d) (hw : 100 ≤ w) (hS : zT S) (h : if ((mI S 64 3) - (mI S 64 2)) = (4 : Int32) then (ma_wp X d w 131 20 [(0, .inr (.inr (some 64))), (1, .inr (.inr (some 18))), (2, .inl (0 : Int32))] [] S Q) else (Q (.inl (some (.inl (0 : Int32)))) S)) : ma_wp X d w 131 0 [(0, .inr (.inr (some 64))), (1, .inr (.inr (some 18)))] [] S Q := by
  refine zw_push hm_131 dX11_tokenIs_0 (v := .inr (.inr (some 64))) rfl ?_
  refine zw_gf hm_131 dX11_tokenIs_1 (v := .inl (mI S 64 3)) (zT_is hS s_64) (zT_t hS s_64) rfl f_11_275_11 rfl ?_
  refine zw_push hm_131 dX11_tokenIs_4 (v := .inr (.inr (some 64))) rfl ?_
  refine zw_gf hm_131 dX11_tokenIs_5 (v := .inl (mI S 64 2)) (zT_is hS s_64) (zT_t hS s_64) rfl f_11_92_11 rfl ?_
  refine zw_stk hm_131 dX11_tokenIs_8 (st' := [.inl ((mI S 64 3) - (mI S 64 2))]) rfl rfl ?_
  refine zw_push hm_131 dX11_tokenIs_9 (v := .inr (.inr (some 18))) rfl ?_
  refine zw_cv hm_131 dX11_tokenIs_10 v_11_288_17 hm_277 [] [.inl ((mI S 64 3) - (mI S 64 2))] rfl rfl ⟨by omega, by omega⟩ rfl (tx_len (v := (4 : Int32)) (by decide) (by omega) (by omega) rfl rfl ?_)
  show ma_wp X d w 131 13 [(0, .inr (.inr (some 64))), (1, .inr (.inr (some 18)))] [.inl (4 : Int32), .inl ((mI S 64 3) - (mI S 64 2))] S _
  refine zw_if2 hm_131 dX11_tokenIs_13 (t := 18) rfl zc2_eq ?_ ?_
  · intro hc
    rw [if_pos hc] at h
    refine zw_push hm_131 dX11_tokenIs_18 (v := .inl (0 : Int32)) rfl ?_
    refine zw_sto hm_131 dX11_tokenIs_19 [(2, .inl (0 : Int32)), (0, .inr (.inr (some 64))), (1, .inr (.inr (some 18)))] rfl rfl rfl ?_
    exact zw_sub (ma_nd_of (ks := [0, 1, 2]) rfl (by decide)) (ma_nd_of (ks := [2, 0, 1]) rfl (by decide)) (ma_le_cons rfl (ma_le_cons rfl (ma_le_cons rfl (ma_le_nil _)))) h
  · intro hc
    rw [if_neg hc] at h
    refine zw_push hm_131 dX11_tokenIs_16 (v := .inl (0 : Int32)) rfl ?_
    exact zw_bret hm_131 dX11_tokenIs_17 (by decide) h
theorem g_131_64_18_20 {X : Nat × (Nat → Int32)} {d w : Nat} {S : ma_S} {Q : Option ma_V ⊕ Nat → ma_S → Prop} (l2 : Int32) (hd : 5 ≤ d) (hw : 100 ≤ w) (hS : zT S) (h : if (4 : Int32) ≤ l2 then (Q (.inl (some (.inl (1 : Int32)))) S) else (if (100 : Int32) ≤ ((mI S 64 2) + l2) then (Q (.inl (some (.inl (1 : Int32)))) S) else ((0 ≤ ((mI S 64 2) + l2) ∧ ((mI S 64 2) + l2).toNatClampNeg < 100) ∧ ((0 ≤ l2 ∧ l2.toNatClampNeg < 4) ∧ (if (mI S 65 ((mI S 64 2) + l2).toNatClampNeg) = ((((ma_txb.getD 18 []).getD l2.toNatClampNeg 0 &&& 255).toUInt32 % 65536).toInt32) then (ma_wp X d w 131 20 [(0, .inr (.inr (some 64))), (1, .inr (.inr (some 18))), (2, .inl (l2 + (1 : Int32)))] [] S Q) else (Q (.inl (some (.inl (0 : Int32)))) S)))))) : ma_wp X d w 131 20 [(0, .inr (.inr (some 64))), (1, .inr (.inr (some 18))), (2, .inl l2)] [] S Q := by
  refine zw_push hm_131 dX11_tokenIs_20 (v := .inl l2) rfl ?_
  refine zw_push hm_131 dX11_tokenIs_21 (v := .inr (.inr (some 18))) rfl ?_
  refine zw_cv hm_131 dX11_tokenIs_22 v_11_288_17 hm_277 [] [.inl l2] rfl rfl ⟨by omega, by omega⟩ rfl (tx_len (v := (4 : Int32)) (by decide) (by omega) (by omega) rfl rfl ?_)
  show ma_wp X d w 131 25 [(0, .inr (.inr (some 64))), (1, .inr (.inr (some 18))), (2, .inl l2)] [.inl (4 : Int32), .inl l2] S _
  refine zw_if2 hm_131 dX11_tokenIs_25 (t := 66) rfl zc2_ge ?_ ?_
  · intro hc
    rw [if_pos hc] at h
    refine zw_push hm_131 dX11_tokenIs_66 (v := .inl (1 : Int32)) rfl ?_
    exact zw_bret hm_131 dX11_tokenIs_67 (by decide) h
  · intro hc
    rw [if_neg hc] at h
    refine zw_push hm_131 dX11_tokenIs_28 (v := .inr (.inr (some 64))) rfl ?_
    refine zw_gf hm_131 dX11_tokenIs_29 (v := .inl (mI S 64 2)) (zT_is hS s_64) (zT_t hS s_64) rfl f_11_92_11 rfl ?_
    refine zw_push hm_131 dX11_tokenIs_32 (v := .inl l2) rfl ?_
    refine zw_stk hm_131 dX11_tokenIs_33 (st' := [.inl ((mI S 64 2) + l2)]) rfl rfl ?_
    refine zw_push hm_131 dX11_tokenIs_34 (v := .inl (100 : Int32)) rfl ?_
    refine zw_if2 hm_131 dX11_tokenIs_36 (t := 66) rfl zc2_ge ?_ ?_
    · intro hc
      rw [if_pos hc] at h
      refine zw_push hm_131 dX11_tokenIs_66 (v := .inl (1 : Int32)) rfl ?_
      exact zw_bret hm_131 dX11_tokenIs_67 (by decide) h
    · intro hc
      rw [if_neg hc] at h
      refine zw_push hm_131 dX11_tokenIs_39 (v := .inr (.inr (some 64))) rfl ?_
      refine zw_gf hm_131 dX11_tokenIs_40 (v := .inr (.inr (some 65))) (zT_is hS s_64) (zT_t hS s_64) rfl f_11_9_11 (zT_f hS r_64_0) ?_
      refine zw_push hm_131 dX11_tokenIs_43 (v := .inr (.inr (some 64))) rfl ?_
      refine zw_gf hm_131 dX11_tokenIs_44 (v := .inl (mI S 64 2)) (zT_is hS s_64) (zT_t hS s_64) rfl f_11_92_11 rfl ?_
      refine zw_push hm_131 dX11_tokenIs_47 (v := .inl l2) rfl ?_
      refine zw_stk hm_131 dX11_tokenIs_48 (st' := [.inl ((mI S 64 2) + l2), .inr (.inr (some 65))]) rfl rfl ?_
      obtain ⟨hg, h⟩ := h
      refine zw_ba hm_131 dX11_tokenIs_49 (zT_is hS s_65) (zT_h hS s_65) rfl rfl hg ?_
      show ma_wp X d w 131 50 [(0, .inr (.inr (some 64))), (1, .inr (.inr (some 18))), (2, .inl l2)] [.inl (mI S 65 ((mI S 64 2) + l2).toNatClampNeg)] S _
      refine zw_push hm_131 dX11_tokenIs_50 (v := .inr (.inr (some 18))) rfl ?_
      refine zw_push hm_131 dX11_tokenIs_51 (v := .inl l2) rfl ?_
      obtain ⟨hg, h⟩ := h
      refine zw_cv hm_131 dX11_tokenIs_52 v_11_293_17 hm_279 [.inl l2] [.inl (mI S 65 ((mI S 64 2) + l2).toNatClampNeg)] rfl rfl ⟨by omega, by omega⟩ rfl (tx_char (by decide) (by omega) (by omega) hg (by decide) rfl (tx_idem _) ?_)
      show ma_wp X d w 131 55 [(0, .inr (.inr (some 64))), (1, .inr (.inr (some 18))), (2, .inl l2)] [.inl ((((ma_txb.getD 18 []).getD l2.toNatClampNeg 0 &&& 255).toUInt32 % 65536).toInt32), .inl (mI S 65 ((mI S 64 2) + l2).toNatClampNeg)] S _
      refine zw_if2 hm_131 dX11_tokenIs_55 (t := 60) rfl zc2_eq ?_ ?_
      · intro hc
        rw [if_pos hc] at h
        refine zw_sto hm_131 dX11_tokenIs_60 [(2, .inl (l2 + (1 : Int32))), (0, .inr (.inr (some 64))), (1, .inr (.inr (some 18)))] rfl rfl rfl ?_
        refine zw_goto hm_131 dX11_tokenIs_63 (t := 20) rfl ?_
        exact zw_sub (ma_nd_of (ks := [0, 1, 2]) rfl (by decide)) (ma_nd_of (ks := [2, 0, 1]) rfl (by decide)) (ma_le_cons rfl (ma_le_cons rfl (ma_le_cons rfl (ma_le_nil _)))) h
      · intro hc
        rw [if_neg hc] at h
        refine zw_push hm_131 dX11_tokenIs_58 (v := .inl (0 : Int32)) rfl ?_
        exact zw_bret hm_131 dX11_tokenIs_59 (by decide) h
theorem lp_131_64_18_20 {X : Nat × (Nat → Int32)} {d w : Nat} {f : Nat → Nat → Int32} {r : Nat → Nat → Option Nat} {C Z N : Nat} {Q : Option ma_V ⊕ Nat → ma_S → Prop} (hd : 5 ≤ d) (hw : 100 ≤ w) (K : ∀ v S', zX f r C Z N S' → (v = 0 ∨ v = 1) → Q (.inl (some (.inl v))) S') : ∀ (n : Nat) (S : ma_S) (l2 : Int32), (5 - l2.toInt).toNat = n → zX f r C Z N S → (0 ≤ l2.toInt) → ma_wp X d w 131 20 [(0, .inr (.inr (some 64))), (1, .inr (.inr (some 18))), (2, .inl l2)] [] S Q := by
  intro n
  induction n using Nat.strongRecOn with
  | _ n IH =>
    intro S l2 hmu hI  hi0
    refine g_131_64_18_20 l2 (by omega) (by omega) (zG_T hI) ?_
    have li1 : (4 : Int32).toInt = 4 := rfl
    have b2 := i_bd l2
    refine zd (fun h3 => ?_) (fun h3 => ?_)
    · skip
      have g4 := i_le h3
      have li5 : (1 : Int32).toInt = 1 := rfl
      exact K ((1 : Int32)) _ hI (by decide)
    · skip
      have g6 := i_nle h3
      have li7 : (100 : Int32).toInt = 100 := rfl
      have f8 := zG_s hI (0) (100) (c := 64) (k := 2) (by decide)
      first | have e9 : ((mI S 64 2) + l2).toInt = (mI S 64 2).toInt + l2.toInt := i_add (by omega) (by omega) | have b10 := i_bd ((mI S 64 2) + l2)
      refine zd (fun h11 => ?_) (fun h11 => ?_)
      · skip
        have g12 := i_le h11
        have li13 : (1 : Int32).toInt = 1 := rfl
        exact K ((1 : Int32)) _ hI (by decide)
      · skip
        have g14 := i_nle h11
        refine ⟨i_ix (by omega) (by omega), ?_⟩
        refine ⟨i_ix (by omega) (by omega), ?_⟩
        have b15 := i_bd (mI S 65 ((mI S 64 2) + l2).toNatClampNeg)
        have b16 := i_bd ((((ma_txb.getD 18 []).getD l2.toNatClampNeg 0 &&& 255).toUInt32 % 65536).toInt32)
        refine zd (fun h17 => ?_) (fun h17 => ?_)
        · skip
          have g18 := i_eq h17
          first | have e19 : (l2 + (1 : Int32)).toInt = l2.toInt + (1) := i_addk rfl (by omega) (by omega) | have b20 := i_bd (l2 + (1 : Int32))
          exact IH _ (by omega) _ ((l2 + (1 : Int32))) rfl hI (by omega)
        · skip
          have g21 := i_ne h17
          have li22 : (0 : Int32).toInt = 0 := rfl
          exact K ((0 : Int32)) _ hI (by decide)
theorem sp_131_64_18 {X : Nat × (Nat → Int32)} {d w : Nat} {f : Nat → Nat → Int32} {r : Nat → Nat → Option Nat} {C Z N : Nat} {Q : Option ma_V ⊕ Nat → ma_S → Prop} {S : ma_S}  (hd : 5 ≤ d) (hw : 100 ≤ w) (hI : zX f r C Z N S)  (K : ∀ v S', zX f r C Z N S' → (v = 0 ∨ v = 1) → Q (.inl (some (.inl v))) S') : ma_wp X d w 131 0 [(0, .inr (.inr (some 64))), (1, .inr (.inr (some 18)))] [] S Q := by
  refine g_131_64_18_0  (by omega) (by omega) (zG_T hI) ?_
  have f1 := zG_s hI (0) (100) (c := 64) (k := 3) (by decide)
  have f2 := zG_s hI (0) (100) (c := 64) (k := 2) (by decide)
  first | have e3 : ((mI S 64 3) - (mI S 64 2)).toInt = (mI S 64 3).toInt - (mI S 64 2).toInt := i_sub (by omega) (by omega) | have b4 := i_bd ((mI S 64 3) - (mI S 64 2))
  have li5 : (4 : Int32).toInt = 4 := rfl
  refine zd (fun h6 => ?_) (fun h6 => ?_)
  · skip
    have g7 := i_eq h6
    have li8 : (0 : Int32).toInt = 0 := rfl
    exact lp_131_64_18_20 (by omega) (by omega) K _ _ ((0 : Int32)) rfl hI (by omega)
  · skip
    have g9 := i_ne h6
    have li10 : (0 : Int32).toInt = 0 := rfl
    exact K ((0 : Int32)) _ hI (by decide)
theorem g_130_64_0 {X : Nat × (Nat → Int32)} {d w : Nat} {S : ma_S} {Q : Option ma_V ⊕ Nat → ma_S → Prop}  (hd : 6 ≤ d) (hw : 122 ≤ w) (hS : zT S) (h : ma_wp X (d - 1) (w - 22) 131 0 [(0, .inr (.inr (some 64))), (1, .inr (.inr (some 0)))] [] S (zi (fun v2 S1 => zT S1 ∧ (if v2 = 0 then (ma_wp X (d - 1) (w - 22) 131 0 [(0, .inr (.inr (some 64))), (1, .inr (.inr (some 1)))] [] S1 (zi (fun v4 S3 => zT S3 ∧ (if v4 = 0 then (ma_wp X (d - 1) (w - 22) 131 0 [(0, .inr (.inr (some 64))), (1, .inr (.inr (some 2)))] [] S3 (zi (fun v6 S5 => zT S5 ∧ (if v6 = 0 then (ma_wp X (d - 1) (w - 22) 131 0 [(0, .inr (.inr (some 64))), (1, .inr (.inr (some 3)))] [] S5 (zi (fun v8 S7 => zT S7 ∧ (if v8 = 0 then (ma_wp X (d - 1) (w - 22) 131 0 [(0, .inr (.inr (some 64))), (1, .inr (.inr (some 4)))] [] S7 (zi (fun v10 S9 => zT S9 ∧ (if v10 = 0 then (ma_wp X (d - 1) (w - 22) 131 0 [(0, .inr (.inr (some 64))), (1, .inr (.inr (some 5)))] [] S9 (zi (fun v12 S11 => zT S11 ∧ (if v12 = 0 then (ma_wp X (d - 1) (w - 22) 131 0 [(0, .inr (.inr (some 64))), (1, .inr (.inr (some 6)))] [] S11 (zi (fun v14 S13 => zT S13 ∧ (if v14 = 0 then (Q (.inl (some (.inl (-1 : Int32)))) S13) else (Q (.inl (some (.inl (6 : Int32)))) S13))) (fun x S9 => Q (.inr x) S9))) else (Q (.inl (some (.inl (5 : Int32)))) S11))) (fun x S9 => Q (.inr x) S9))) else (Q (.inl (some (.inl (4 : Int32)))) S9))) (fun x S9 => Q (.inr x) S9))) else (Q (.inl (some (.inl (3 : Int32)))) S7))) (fun x S9 => Q (.inr x) S9))) else (Q (.inl (some (.inl (2 : Int32)))) S5))) (fun x S9 => Q (.inr x) S9))) else (Q (.inl (some (.inl (1 : Int32)))) S3))) (fun x S9 => Q (.inr x) S9))) else (Q (.inl (some (.inl (0 : Int32)))) S1))) (fun x S9 => Q (.inr x) S9))) : ma_wp X d w 130 0 [(0, .inr (.inr (some 64)))] [] S Q := by
  refine zw_push hm_130 dX11_policyToken_0 (v := .inr (.inr (some 64))) rfl ?_
  refine zw_txc hm_130 dX11_policyToken_1 txi_11_301 ?_
  refine zw_cv hm_130 dX11_policyToken_4 v_11_303_11 hm_131 [.inr (.inr (some 0))] [] rfl (zT_rt hS s_64 rfl) ⟨by omega, by omega⟩ rfl (zw_mono h (zi_go ?_ ?_))
  · intro v2 S1 hv
    obtain ⟨hS1, h⟩ := hv
    refine zw_if0 hm_130 dX11_policyToken_7 (t := 12) rfl zc0_eq ?_ ?_
    · intro hc
      rw [if_pos hc] at h
      refine zw_push hm_130 dX11_policyToken_12 (v := .inr (.inr (some 64))) rfl ?_
      refine zw_txc hm_130 dX11_policyToken_13 txi_11_307 ?_
      refine zw_cv hm_130 dX11_policyToken_16 v_11_303_11 hm_131 [.inr (.inr (some 1))] [] rfl (zT_rt hS1 s_64 rfl) ⟨by omega, by omega⟩ rfl (zw_mono h (zi_go ?_ ?_))
      · intro v4 S3 hv
        obtain ⟨hS3, h⟩ := hv
        refine zw_if0 hm_130 dX11_policyToken_19 (t := 24) rfl zc0_eq ?_ ?_
        · intro hc
          rw [if_pos hc] at h
          refine zw_push hm_130 dX11_policyToken_24 (v := .inr (.inr (some 64))) rfl ?_
          refine zw_txc hm_130 dX11_policyToken_25 txi_11_309 ?_
          refine zw_cv hm_130 dX11_policyToken_28 v_11_303_11 hm_131 [.inr (.inr (some 2))] [] rfl (zT_rt hS3 s_64 rfl) ⟨by omega, by omega⟩ rfl (zw_mono h (zi_go ?_ ?_))
          · intro v6 S5 hv
            obtain ⟨hS5, h⟩ := hv
            refine zw_if0 hm_130 dX11_policyToken_31 (t := 36) rfl zc0_eq ?_ ?_
            · intro hc
              rw [if_pos hc] at h
              refine zw_push hm_130 dX11_policyToken_36 (v := .inr (.inr (some 64))) rfl ?_
              refine zw_txc hm_130 dX11_policyToken_37 txi_11_311 ?_
              refine zw_cv hm_130 dX11_policyToken_40 v_11_303_11 hm_131 [.inr (.inr (some 3))] [] rfl (zT_rt hS5 s_64 rfl) ⟨by omega, by omega⟩ rfl (zw_mono h (zi_go ?_ ?_))
              · intro v8 S7 hv
                obtain ⟨hS7, h⟩ := hv
                refine zw_if0 hm_130 dX11_policyToken_43 (t := 48) rfl zc0_eq ?_ ?_
                · intro hc
                  rw [if_pos hc] at h
                  refine zw_push hm_130 dX11_policyToken_48 (v := .inr (.inr (some 64))) rfl ?_
                  refine zw_txc hm_130 dX11_policyToken_49 txi_11_313 ?_
                  refine zw_cv hm_130 dX11_policyToken_52 v_11_303_11 hm_131 [.inr (.inr (some 4))] [] rfl (zT_rt hS7 s_64 rfl) ⟨by omega, by omega⟩ rfl (zw_mono h (zi_go ?_ ?_))
                  · intro v10 S9 hv
                    obtain ⟨hS9, h⟩ := hv
                    refine zw_if0 hm_130 dX11_policyToken_55 (t := 60) rfl zc0_eq ?_ ?_
                    · intro hc
                      rw [if_pos hc] at h
                      refine zw_push hm_130 dX11_policyToken_60 (v := .inr (.inr (some 64))) rfl ?_
                      refine zw_txc hm_130 dX11_policyToken_61 txi_11_315 ?_
                      refine zw_cv hm_130 dX11_policyToken_64 v_11_303_11 hm_131 [.inr (.inr (some 5))] [] rfl (zT_rt hS9 s_64 rfl) ⟨by omega, by omega⟩ rfl (zw_mono h (zi_go ?_ ?_))
                      · intro v12 S11 hv
                        obtain ⟨hS11, h⟩ := hv
                        refine zw_if0 hm_130 dX11_policyToken_67 (t := 72) rfl zc0_eq ?_ ?_
                        · intro hc
                          rw [if_pos hc] at h
                          refine zw_push hm_130 dX11_policyToken_72 (v := .inr (.inr (some 64))) rfl ?_
                          refine zw_txc hm_130 dX11_policyToken_73 txi_11_317 ?_
                          refine zw_cv hm_130 dX11_policyToken_76 v_11_303_11 hm_131 [.inr (.inr (some 6))] [] rfl (zT_rt hS11 s_64 rfl) ⟨by omega, by omega⟩ rfl (zw_mono h (zi_go ?_ ?_))
                          · intro v14 S13 hv
                            obtain ⟨hS13, h⟩ := hv
                            refine zw_if0 hm_130 dX11_policyToken_79 (t := 87) rfl zc0_eq ?_ ?_
                            · intro hc
                              rw [if_pos hc] at h
                              refine zw_push hm_130 dX11_policyToken_87 (v := .inl (-1 : Int32)) rfl ?_
                              exact zw_iret hm_130 dX11_policyToken_88 h
                            · intro hc
                              rw [if_neg hc] at h
                              refine zw_push hm_130 dX11_policyToken_82 (v := .inl (6 : Int32)) rfl ?_
                              refine zw_goto hm_130 dX11_policyToken_84 (t := 88) rfl ?_
                              exact zw_iret hm_130 dX11_policyToken_88 h
                          · intro x S9 hx
                            exact ⟨by decide, hx⟩
                        · intro hc
                          rw [if_neg hc] at h
                          refine zw_push hm_130 dX11_policyToken_70 (v := .inl (5 : Int32)) rfl ?_
                          exact zw_iret hm_130 dX11_policyToken_71 h
                      · intro x S9 hx
                        exact ⟨by decide, hx⟩
                    · intro hc
                      rw [if_neg hc] at h
                      refine zw_push hm_130 dX11_policyToken_58 (v := .inl (4 : Int32)) rfl ?_
                      exact zw_iret hm_130 dX11_policyToken_59 h
                  · intro x S9 hx
                    exact ⟨by decide, hx⟩
                · intro hc
                  rw [if_neg hc] at h
                  refine zw_push hm_130 dX11_policyToken_46 (v := .inl (3 : Int32)) rfl ?_
                  exact zw_iret hm_130 dX11_policyToken_47 h
              · intro x S9 hx
                exact ⟨by decide, hx⟩
            · intro hc
              rw [if_neg hc] at h
              refine zw_push hm_130 dX11_policyToken_34 (v := .inl (2 : Int32)) rfl ?_
              exact zw_iret hm_130 dX11_policyToken_35 h
          · intro x S9 hx
            exact ⟨by decide, hx⟩
        · intro hc
          rw [if_neg hc] at h
          refine zw_push hm_130 dX11_policyToken_22 (v := .inl (1 : Int32)) rfl ?_
          exact zw_iret hm_130 dX11_policyToken_23 h
      · intro x S9 hx
        exact ⟨by decide, hx⟩
    · intro hc
      rw [if_neg hc] at h
      refine zw_push hm_130 dX11_policyToken_10 (v := .inl (0 : Int32)) rfl ?_
      exact zw_iret hm_130 dX11_policyToken_11 h
  · intro x S9 hx
    exact ⟨by decide, hx⟩
theorem sp_130_64 {X : Nat × (Nat → Int32)} {d w : Nat} {f : Nat → Nat → Int32} {r : Nat → Nat → Option Nat} {C Z N : Nat} {Q : Option ma_V ⊕ Nat → ma_S → Prop} {S : ma_S}  (hd : 6 ≤ d) (hw : 122 ≤ w) (hI : zX f r C Z N S)  (K : ∀ v S', zX f r C Z N S' → (-1 ≤ v.toInt ∧ v.toInt ≤ 6) → Q (.inl (some (.inl v))) S') : ma_wp X d w 130 0 [(0, .inr (.inr (some 64)))] [] S Q := by
  refine g_130_64_0  (by omega) (by omega) (zG_T hI) ?_
  refine sp_131_64_0  (by omega) (by omega) hI  (fun v2 S1 hI_S1 hp_v2 => zi_n ⟨zG_T hI_S1, ?_⟩)
  have b1 := i_bd v2
  have li2 : (0 : Int32).toInt = 0 := rfl
  refine zd (fun h3 => ?_) (fun h3 => ?_)
  · skip
    have g4 := i_eq h3
    refine sp_131_64_1  (by omega) (by omega) hI_S1  (fun v4 S3 hI_S3 hp_v4 => zi_n ⟨zG_T hI_S3, ?_⟩)
    have b5 := i_bd v4
    refine zd (fun h6 => ?_) (fun h6 => ?_)
    · skip
      have g7 := i_eq h6
      refine sp_131_64_2  (by omega) (by omega) hI_S3  (fun v6 S5 hI_S5 hp_v6 => zi_n ⟨zG_T hI_S5, ?_⟩)
      have b8 := i_bd v6
      refine zd (fun h9 => ?_) (fun h9 => ?_)
      · skip
        have g10 := i_eq h9
        refine sp_131_64_3  (by omega) (by omega) hI_S5  (fun v8 S7 hI_S7 hp_v8 => zi_n ⟨zG_T hI_S7, ?_⟩)
        have b11 := i_bd v8
        refine zd (fun h12 => ?_) (fun h12 => ?_)
        · skip
          have g13 := i_eq h12
          refine sp_131_64_4  (by omega) (by omega) hI_S7  (fun v10 S9 hI_S9 hp_v10 => zi_n ⟨zG_T hI_S9, ?_⟩)
          have b14 := i_bd v10
          refine zd (fun h15 => ?_) (fun h15 => ?_)
          · skip
            have g16 := i_eq h15
            refine sp_131_64_5  (by omega) (by omega) hI_S9  (fun v12 S11 hI_S11 hp_v12 => zi_n ⟨zG_T hI_S11, ?_⟩)
            have b17 := i_bd v12
            refine zd (fun h18 => ?_) (fun h18 => ?_)
            · skip
              have g19 := i_eq h18
              refine sp_131_64_6  (by omega) (by omega) hI_S11  (fun v14 S13 hI_S13 hp_v14 => zi_n ⟨zG_T hI_S13, ?_⟩)
              have b20 := i_bd v14
              refine zd (fun h21 => ?_) (fun h21 => ?_)
              · skip
                have g22 := i_eq h21
                have li23 : (-1 : Int32).toInt = -1 := rfl
                exact K ((-1 : Int32)) _ hI_S13 (by omega)
              · skip
                have g24 := i_ne h21
                have li25 : (6 : Int32).toInt = 6 := rfl
                exact K ((6 : Int32)) _ hI_S13 (by omega)
            · skip
              have g26 := i_ne h18
              have li27 : (5 : Int32).toInt = 5 := rfl
              exact K ((5 : Int32)) _ hI_S11 (by omega)
          · skip
            have g28 := i_ne h15
            have li29 : (4 : Int32).toInt = 4 := rfl
            exact K ((4 : Int32)) _ hI_S9 (by omega)
        · skip
          have g30 := i_ne h12
          have li31 : (3 : Int32).toInt = 3 := rfl
          exact K ((3 : Int32)) _ hI_S7 (by omega)
      · skip
        have g32 := i_ne h9
        have li33 : (2 : Int32).toInt = 2 := rfl
        exact K ((2 : Int32)) _ hI_S5 (by omega)
    · skip
      have g34 := i_ne h6
      have li35 : (1 : Int32).toInt = 1 := rfl
      exact K ((1 : Int32)) _ hI_S3 (by omega)
  · skip
    have g36 := i_ne h3
    exact K ((0 : Int32)) _ hI_S1 (by omega)
theorem g_135_64_0 {X : Nat × (Nat → Int32)} {d w : Nat} {S : ma_S} {Q : Option ma_V ⊕ Nat → ma_S → Prop}  (hd : 6 ≤ d) (hw : 122 ≤ w) (hS : zT S) (h : ma_wp X (d - 1) (w - 22) 131 0 [(0, .inr (.inr (some 64))), (1, .inr (.inr (some 13)))] [] S (zi (fun v2 S1 => zT S1 ∧ (if v2 = 0 then (ma_wp X (d - 1) (w - 22) 131 0 [(0, .inr (.inr (some 64))), (1, .inr (.inr (some 14)))] [] S1 (zi (fun v4 S3 => zT S3 ∧ (if v4 = 0 then (ma_wp X (d - 1) (w - 22) 131 0 [(0, .inr (.inr (some 64))), (1, .inr (.inr (some 15)))] [] S3 (zi (fun v6 S5 => zT S5 ∧ (if v6 = 0 then (ma_wp X (d - 1) (w - 22) 131 0 [(0, .inr (.inr (some 64))), (1, .inr (.inr (some 16)))] [] S5 (zi (fun v8 S7 => zT S7 ∧ (if v8 = 0 then (Q (.inl (some (.inl (-1 : Int32)))) S7) else (Q (.inl (some (.inl (3 : Int32)))) S7))) (fun x S9 => Q (.inr x) S9))) else (Q (.inl (some (.inl (2 : Int32)))) S5))) (fun x S9 => Q (.inr x) S9))) else (Q (.inl (some (.inl (1 : Int32)))) S3))) (fun x S9 => Q (.inr x) S9))) else (Q (.inl (some (.inl (0 : Int32)))) S1))) (fun x S9 => Q (.inr x) S9))) : ma_wp X d w 135 0 [(0, .inr (.inr (some 64)))] [] S Q := by
  refine zw_push hm_135 dX11_formToken_0 (v := .inr (.inr (some 64))) rfl ?_
  refine zw_txc hm_135 dX11_formToken_1 txi_11_346 ?_
  refine zw_cv hm_135 dX11_formToken_4 v_11_303_11 hm_131 [.inr (.inr (some 13))] [] rfl (zT_rt hS s_64 rfl) ⟨by omega, by omega⟩ rfl (zw_mono h (zi_go ?_ ?_))
  · intro v2 S1 hv
    obtain ⟨hS1, h⟩ := hv
    refine zw_if0 hm_135 dX11_formToken_7 (t := 12) rfl zc0_eq ?_ ?_
    · intro hc
      rw [if_pos hc] at h
      refine zw_push hm_135 dX11_formToken_12 (v := .inr (.inr (some 64))) rfl ?_
      refine zw_txc hm_135 dX11_formToken_13 txi_11_348 ?_
      refine zw_cv hm_135 dX11_formToken_16 v_11_303_11 hm_131 [.inr (.inr (some 14))] [] rfl (zT_rt hS1 s_64 rfl) ⟨by omega, by omega⟩ rfl (zw_mono h (zi_go ?_ ?_))
      · intro v4 S3 hv
        obtain ⟨hS3, h⟩ := hv
        refine zw_if0 hm_135 dX11_formToken_19 (t := 24) rfl zc0_eq ?_ ?_
        · intro hc
          rw [if_pos hc] at h
          refine zw_push hm_135 dX11_formToken_24 (v := .inr (.inr (some 64))) rfl ?_
          refine zw_txc hm_135 dX11_formToken_25 txi_11_350 ?_
          refine zw_cv hm_135 dX11_formToken_28 v_11_303_11 hm_131 [.inr (.inr (some 15))] [] rfl (zT_rt hS3 s_64 rfl) ⟨by omega, by omega⟩ rfl (zw_mono h (zi_go ?_ ?_))
          · intro v6 S5 hv
            obtain ⟨hS5, h⟩ := hv
            refine zw_if0 hm_135 dX11_formToken_31 (t := 36) rfl zc0_eq ?_ ?_
            · intro hc
              rw [if_pos hc] at h
              refine zw_push hm_135 dX11_formToken_36 (v := .inr (.inr (some 64))) rfl ?_
              refine zw_txc hm_135 dX11_formToken_37 txi_11_352 ?_
              refine zw_cv hm_135 dX11_formToken_40 v_11_303_11 hm_131 [.inr (.inr (some 16))] [] rfl (zT_rt hS5 s_64 rfl) ⟨by omega, by omega⟩ rfl (zw_mono h (zi_go ?_ ?_))
              · intro v8 S7 hv
                obtain ⟨hS7, h⟩ := hv
                refine zw_if0 hm_135 dX11_formToken_43 (t := 50) rfl zc0_eq ?_ ?_
                · intro hc
                  rw [if_pos hc] at h
                  refine zw_push hm_135 dX11_formToken_50 (v := .inl (-1 : Int32)) rfl ?_
                  exact zw_iret hm_135 dX11_formToken_51 h
                · intro hc
                  rw [if_neg hc] at h
                  refine zw_push hm_135 dX11_formToken_46 (v := .inl (3 : Int32)) rfl ?_
                  refine zw_goto hm_135 dX11_formToken_47 (t := 51) rfl ?_
                  exact zw_iret hm_135 dX11_formToken_51 h
              · intro x S9 hx
                exact ⟨by decide, hx⟩
            · intro hc
              rw [if_neg hc] at h
              refine zw_push hm_135 dX11_formToken_34 (v := .inl (2 : Int32)) rfl ?_
              exact zw_iret hm_135 dX11_formToken_35 h
          · intro x S9 hx
            exact ⟨by decide, hx⟩
        · intro hc
          rw [if_neg hc] at h
          refine zw_push hm_135 dX11_formToken_22 (v := .inl (1 : Int32)) rfl ?_
          exact zw_iret hm_135 dX11_formToken_23 h
      · intro x S9 hx
        exact ⟨by decide, hx⟩
    · intro hc
      rw [if_neg hc] at h
      refine zw_push hm_135 dX11_formToken_10 (v := .inl (0 : Int32)) rfl ?_
      exact zw_iret hm_135 dX11_formToken_11 h
  · intro x S9 hx
    exact ⟨by decide, hx⟩
theorem sp_135_64 {X : Nat × (Nat → Int32)} {d w : Nat} {f : Nat → Nat → Int32} {r : Nat → Nat → Option Nat} {C Z N : Nat} {Q : Option ma_V ⊕ Nat → ma_S → Prop} {S : ma_S}  (hd : 6 ≤ d) (hw : 122 ≤ w) (hI : zX f r C Z N S)  (K : ∀ v S', zX f r C Z N S' → (-1 ≤ v.toInt ∧ v.toInt ≤ 3) → Q (.inl (some (.inl v))) S') : ma_wp X d w 135 0 [(0, .inr (.inr (some 64)))] [] S Q := by
  refine g_135_64_0  (by omega) (by omega) (zG_T hI) ?_
  refine sp_131_64_13  (by omega) (by omega) hI  (fun v2 S1 hI_S1 hp_v2 => zi_n ⟨zG_T hI_S1, ?_⟩)
  have b1 := i_bd v2
  have li2 : (0 : Int32).toInt = 0 := rfl
  refine zd (fun h3 => ?_) (fun h3 => ?_)
  · skip
    have g4 := i_eq h3
    refine sp_131_64_14  (by omega) (by omega) hI_S1  (fun v4 S3 hI_S3 hp_v4 => zi_n ⟨zG_T hI_S3, ?_⟩)
    have b5 := i_bd v4
    refine zd (fun h6 => ?_) (fun h6 => ?_)
    · skip
      have g7 := i_eq h6
      refine sp_131_64_15  (by omega) (by omega) hI_S3  (fun v6 S5 hI_S5 hp_v6 => zi_n ⟨zG_T hI_S5, ?_⟩)
      have b8 := i_bd v6
      refine zd (fun h9 => ?_) (fun h9 => ?_)
      · skip
        have g10 := i_eq h9
        refine sp_131_64_16  (by omega) (by omega) hI_S5  (fun v8 S7 hI_S7 hp_v8 => zi_n ⟨zG_T hI_S7, ?_⟩)
        have b11 := i_bd v8
        refine zd (fun h12 => ?_) (fun h12 => ?_)
        · skip
          have g13 := i_eq h12
          have li14 : (-1 : Int32).toInt = -1 := rfl
          exact K ((-1 : Int32)) _ hI_S7 (by omega)
        · skip
          have g15 := i_ne h12
          have li16 : (3 : Int32).toInt = 3 := rfl
          exact K ((3 : Int32)) _ hI_S7 (by omega)
      · skip
        have g17 := i_ne h9
        have li18 : (2 : Int32).toInt = 2 := rfl
        exact K ((2 : Int32)) _ hI_S5 (by omega)
    · skip
      have g19 := i_ne h6
      have li20 : (1 : Int32).toInt = 1 := rfl
      exact K ((1 : Int32)) _ hI_S3 (by omega)
  · skip
    have g21 := i_ne h3
    exact K ((0 : Int32)) _ hI_S1 (by omega)
theorem g_136_64_0 {X : Nat × (Nat → Int32)} {d w : Nat} {S : ma_S} {Q : Option ma_V ⊕ Nat → ma_S → Prop}  (hd : 6 ≤ d) (hw : 122 ≤ w) (hS : zT S) (h : ma_wp X (d - 1) (w - 22) 131 0 [(0, .inr (.inr (some 64))), (1, .inr (.inr (some 17)))] [] S (zi (fun v2 S1 => zT S1 ∧ (if v2 = 0 then (ma_wp X (d - 1) (w - 22) 131 0 [(0, .inr (.inr (some 64))), (1, .inr (.inr (some 18)))] [] S1 (zi (fun v4 S3 => zT S3 ∧ (if v4 = 0 then (Q (.inl (some (.inl (-1 : Int32)))) S3) else (Q (.inl (some (.inl (1 : Int32)))) S3))) (fun x S9 => Q (.inr x) S9))) else (Q (.inl (some (.inl (0 : Int32)))) S1))) (fun x S9 => Q (.inr x) S9))) : ma_wp X d w 136 0 [(0, .inr (.inr (some 64)))] [] S Q := by
  refine zw_push hm_136 dX11_barrierToken_0 (v := .inr (.inr (some 64))) rfl ?_
  refine zw_txc hm_136 dX11_barrierToken_1 txi_11_354 ?_
  refine zw_cv hm_136 dX11_barrierToken_4 v_11_303_11 hm_131 [.inr (.inr (some 17))] [] rfl (zT_rt hS s_64 rfl) ⟨by omega, by omega⟩ rfl (zw_mono h (zi_go ?_ ?_))
  · intro v2 S1 hv
    obtain ⟨hS1, h⟩ := hv
    refine zw_if0 hm_136 dX11_barrierToken_7 (t := 12) rfl zc0_eq ?_ ?_
    · intro hc
      rw [if_pos hc] at h
      refine zw_push hm_136 dX11_barrierToken_12 (v := .inr (.inr (some 64))) rfl ?_
      refine zw_txc hm_136 dX11_barrierToken_13 txi_11_356 ?_
      refine zw_cv hm_136 dX11_barrierToken_16 v_11_303_11 hm_131 [.inr (.inr (some 18))] [] rfl (zT_rt hS1 s_64 rfl) ⟨by omega, by omega⟩ rfl (zw_mono h (zi_go ?_ ?_))
      · intro v4 S3 hv
        obtain ⟨hS3, h⟩ := hv
        refine zw_if0 hm_136 dX11_barrierToken_19 (t := 26) rfl zc0_eq ?_ ?_
        · intro hc
          rw [if_pos hc] at h
          refine zw_push hm_136 dX11_barrierToken_26 (v := .inl (-1 : Int32)) rfl ?_
          exact zw_iret hm_136 dX11_barrierToken_27 h
        · intro hc
          rw [if_neg hc] at h
          refine zw_push hm_136 dX11_barrierToken_22 (v := .inl (1 : Int32)) rfl ?_
          refine zw_goto hm_136 dX11_barrierToken_23 (t := 27) rfl ?_
          exact zw_iret hm_136 dX11_barrierToken_27 h
      · intro x S9 hx
        exact ⟨by decide, hx⟩
    · intro hc
      rw [if_neg hc] at h
      refine zw_push hm_136 dX11_barrierToken_10 (v := .inl (0 : Int32)) rfl ?_
      exact zw_iret hm_136 dX11_barrierToken_11 h
  · intro x S9 hx
    exact ⟨by decide, hx⟩
theorem sp_136_64 {X : Nat × (Nat → Int32)} {d w : Nat} {f : Nat → Nat → Int32} {r : Nat → Nat → Option Nat} {C Z N : Nat} {Q : Option ma_V ⊕ Nat → ma_S → Prop} {S : ma_S}  (hd : 6 ≤ d) (hw : 122 ≤ w) (hI : zX f r C Z N S)  (K : ∀ v S', zX f r C Z N S' → (-1 ≤ v.toInt ∧ v.toInt ≤ 3) → Q (.inl (some (.inl v))) S') : ma_wp X d w 136 0 [(0, .inr (.inr (some 64)))] [] S Q := by
  refine g_136_64_0  (by omega) (by omega) (zG_T hI) ?_
  refine sp_131_64_17  (by omega) (by omega) hI  (fun v2 S1 hI_S1 hp_v2 => zi_n ⟨zG_T hI_S1, ?_⟩)
  have b1 := i_bd v2
  have li2 : (0 : Int32).toInt = 0 := rfl
  refine zd (fun h3 => ?_) (fun h3 => ?_)
  · skip
    have g4 := i_eq h3
    refine sp_131_64_18  (by omega) (by omega) hI_S1  (fun v4 S3 hI_S3 hp_v4 => zi_n ⟨zG_T hI_S3, ?_⟩)
    have b5 := i_bd v4
    refine zd (fun h6 => ?_) (fun h6 => ?_)
    · skip
      have g7 := i_eq h6
      have li8 : (-1 : Int32).toInt = -1 := rfl
      exact K ((-1 : Int32)) _ hI_S3 (by omega)
    · skip
      have g9 := i_ne h6
      have li10 : (1 : Int32).toInt = 1 := rfl
      exact K ((1 : Int32)) _ hI_S3 (by omega)
  · skip
    have g11 := i_ne h3
    exact K ((0 : Int32)) _ hI_S1 (by omega)
