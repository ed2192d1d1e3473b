/-! the class behind (written by wip/tools/gen95c.py) -/
theorem g_129_64_0 {X : Nat × (Nat → Int32)} {d w : Nat} {S : ma_S} {Q : Option ma_V ⊕ Nat → ma_S → Prop}  (hd : 0 ≤ d) (hw : 0 ≤ w) (hS : zT S) (h : ma_wp X d w 129 5 [(0, .inr (.inr (some 64))), (1, .inl (mI S 64 3))] [] S Q) : ma_wp X d w 129 0 [(0, .inr (.inr (some 64)))] [] S Q := by
  refine zw_push hm_129 dX11_nextToken_0 (v := .inr (.inr (some 64))) rfl ?_
  refine zw_gf hm_129 dX11_nextToken_1 (v := .inl (mI S 64 3)) (zT_is hS s_64) (zT_t hS s_64) rfl f_11_275_11 rfl ?_
  refine zw_sto hm_129 dX11_nextToken_4 [(1, .inl (mI S 64 3)), (0, .inr (.inr (some 64)))] rfl rfl rfl ?_
  exact zw_sub (ma_nd_of (ks := [0, 1]) rfl (by decide)) (ma_nd_of (ks := [1, 0]) rfl (by decide)) (ma_le_cons rfl (ma_le_cons rfl (ma_le_nil _))) h
theorem g_129_64_5 {X : Nat × (Nat → Int32)} {d w : Nat} {S : ma_S} {Q : Option ma_V ⊕ Nat → ma_S → Prop} (l1 : Int32) (hd : 0 ≤ d) (hw : 0 ≤ w) (hS : zT S) (h : if (mI S 64 1) ≤ l1 then (ma_wp X d w 129 35 [(0, .inr (.inr (some 64))), (1, .inl l1)] [] (ma_put S 64 2 (.inl l1)) Q) else ((0 ≤ l1 ∧ l1.toNatClampNeg < 100) ∧ (if (mI S 65 l1.toNatClampNeg) = (32 : Int32) then (ma_wp X d w 129 5 [(0, .inr (.inr (some 64))), (1, .inl (l1 + (1 : Int32)))] [] S Q) else (ma_wp X d w 129 35 [(0, .inr (.inr (some 64))), (1, .inl l1)] [] (ma_put S 64 2 (.inl l1)) Q)))) : ma_wp X d w 129 5 [(0, .inr (.inr (some 64))), (1, .inl l1)] [] S Q := by
  refine zw_push hm_129 dX11_nextToken_5 (v := .inl l1) rfl ?_
  refine zw_push hm_129 dX11_nextToken_6 (v := .inr (.inr (some 64))) rfl ?_
  refine zw_gf hm_129 dX11_nextToken_7 (v := .inl (mI S 64 1)) (zT_is hS s_64) (zT_t hS s_64) rfl f_11_68_11 rfl ?_
  refine zw_if2 hm_129 dX11_nextToken_10 (t := 30) rfl zc2_ge ?_ ?_
  · intro hc
    rw [if_pos hc] at h
    refine zw_push hm_129 dX11_nextToken_30 (v := .inr (.inr (some 64))) rfl ?_
    refine zw_push hm_129 dX11_nextToken_31 (v := .inl l1) rfl ?_
    refine zw_pf hm_129 dX11_nextToken_32 (zT_is hS s_64) (zT_t hS s_64) p_11_92_11 zk_int ?_
    exact h
  · intro hc
    rw [if_neg hc] at h
    refine zw_push hm_129 dX11_nextToken_13 (v := .inr (.inr (some 64))) rfl ?_
    refine zw_gf hm_129 dX11_nextToken_14 (v := .inr (.inr (some 65))) (zT_is hS s_64) (zT_t hS s_64) rfl f_11_9_11 (zT_f hS r_64_0) ?_
    refine zw_push hm_129 dX11_nextToken_17 (v := .inl l1) rfl ?_
    obtain ⟨hg, h⟩ := h
    refine zw_ba hm_129 dX11_nextToken_18 (zT_is hS s_65) (zT_h hS s_65) rfl rfl hg ?_
    show ma_wp X d w 129 19 [(0, .inr (.inr (some 64))), (1, .inl l1)] [.inl (mI S 65 l1.toNatClampNeg)] S _
    refine zw_push hm_129 dX11_nextToken_19 (v := .inl (32 : Int32)) rfl ?_
    refine zw_if2 hm_129 dX11_nextToken_21 (t := 30) rfl zc2_ne ?_ ?_
    · intro hc
      rw [if_neg hc] at h
      refine zw_push hm_129 dX11_nextToken_30 (v := .inr (.inr (some 64))) rfl ?_
      refine zw_push hm_129 dX11_nextToken_31 (v := .inl l1) rfl ?_
      refine zw_pf hm_129 dX11_nextToken_32 (zT_is hS s_64) (zT_t hS s_64) p_11_92_11 zk_int ?_
      exact h
    · intro hc
      rw [if_pos (Classical.not_not.mp hc)] at h
      refine zw_sto hm_129 dX11_nextToken_24 [(1, .inl (l1 + (1 : Int32))), (0, .inr (.inr (some 64)))] rfl rfl rfl ?_
      refine zw_goto hm_129 dX11_nextToken_27 (t := 5) rfl ?_
      exact zw_sub (ma_nd_of (ks := [0, 1]) rfl (by decide)) (ma_nd_of (ks := [1, 0]) rfl (by decide)) (ma_le_cons rfl (ma_le_cons rfl (ma_le_nil _))) h
theorem g_129_64_35 {X : Nat × (Nat → Int32)} {d w : Nat} {S : ma_S} {Q : Option ma_V ⊕ Nat → ma_S → Prop} (l1 : Int32) (hd : 0 ≤ d) (hw : 0 ≤ w) (hS : zT S) (h : if (mI S 64 1) ≤ l1 then (if l1 ≤ (mI S 64 2) then (Q (.inl (some (.inl (0 : Int32)))) (ma_put S 64 3 (.inl l1))) else (Q (.inl (some (.inl (1 : Int32)))) (ma_put S 64 3 (.inl l1)))) else ((0 ≤ l1 ∧ l1.toNatClampNeg < 100) ∧ (if (mI S 65 l1.toNatClampNeg) = (32 : Int32) then (if l1 ≤ (mI S 64 2) then (Q (.inl (some (.inl (0 : Int32)))) (ma_put S 64 3 (.inl l1))) else (Q (.inl (some (.inl (1 : Int32)))) (ma_put S 64 3 (.inl l1)))) else (ma_wp X d w 129 35 [(0, .inr (.inr (some 64))), (1, .inl (l1 + (1 : Int32)))] [] S Q)))) : ma_wp X d w 129 35 [(0, .inr (.inr (some 64))), (1, .inl l1)] [] S Q := by
  refine zw_push hm_129 dX11_nextToken_35 (v := .inl l1) rfl ?_
  refine zw_push hm_129 dX11_nextToken_36 (v := .inr (.inr (some 64))) rfl ?_
  refine zw_gf hm_129 dX11_nextToken_37 (v := .inl (mI S 64 1)) (zT_is hS s_64) (zT_t hS s_64) rfl f_11_68_11 rfl ?_
  refine zw_if2 hm_129 dX11_nextToken_40 (t := 60) rfl zc2_ge ?_ ?_
  · intro hc
    rw [if_pos hc] at h
    refine zw_push hm_129 dX11_nextToken_60 (v := .inr (.inr (some 64))) rfl ?_
    refine zw_push hm_129 dX11_nextToken_61 (v := .inl l1) rfl ?_
    refine zw_pf hm_129 dX11_nextToken_62 (zT_is hS s_64) (zT_t hS s_64) p_11_275_11 zk_int ?_
    refine zw_push hm_129 dX11_nextToken_65 (v := .inr (.inr (some 64))) rfl ?_
    refine zw_gf hm_129 dX11_nextToken_66 (v := .inl (mI S 64 2)) (zT_is (zT_pi hS) s_64) (zT_t (zT_pi hS) s_64) rfl f_11_92_11 rfl ?_
    refine zw_push hm_129 dX11_nextToken_69 (v := .inr (.inr (some 64))) rfl ?_
    refine zw_gf hm_129 dX11_nextToken_70 (v := .inl l1) (zT_is (zT_pi hS) s_64) (zT_t (zT_pi hS) s_64) rfl f_11_275_11 rfl ?_
    refine zw_if2 hm_129 dX11_nextToken_73 (t := 80) rfl zc2_ge ?_ ?_
    · intro hc
      rw [if_pos hc] at h
      refine zw_push hm_129 dX11_nextToken_80 (v := .inl (0 : Int32)) rfl ?_
      exact zw_bret hm_129 dX11_nextToken_81 (by decide) h
    · intro hc
      rw [if_neg hc] at h
      refine zw_push hm_129 dX11_nextToken_76 (v := .inl (1 : Int32)) rfl ?_
      refine zw_goto hm_129 dX11_nextToken_77 (t := 81) rfl ?_
      exact zw_bret hm_129 dX11_nextToken_81 (by decide) h
  · intro hc
    rw [if_neg hc] at h
    refine zw_push hm_129 dX11_nextToken_43 (v := .inr (.inr (some 64))) rfl ?_
    refine zw_gf hm_129 dX11_nextToken_44 (v := .inr (.inr (some 65))) (zT_is hS s_64) (zT_t hS s_64) rfl f_11_9_11 (zT_f hS r_64_0) ?_
    refine zw_push hm_129 dX11_nextToken_47 (v := .inl l1) rfl ?_
    obtain ⟨hg, h⟩ := h
    refine zw_ba hm_129 dX11_nextToken_48 (zT_is hS s_65) (zT_h hS s_65) rfl rfl hg ?_
    show ma_wp X d w 129 49 [(0, .inr (.inr (some 64))), (1, .inl l1)] [.inl (mI S 65 l1.toNatClampNeg)] S _
    refine zw_push hm_129 dX11_nextToken_49 (v := .inl (32 : Int32)) rfl ?_
    refine zw_if2 hm_129 dX11_nextToken_51 (t := 60) rfl zc2_eq ?_ ?_
    · intro hc
      rw [if_pos hc] at h
      refine zw_push hm_129 dX11_nextToken_60 (v := .inr (.inr (some 64))) rfl ?_
      refine zw_push hm_129 dX11_nextToken_61 (v := .inl l1) rfl ?_
      refine zw_pf hm_129 dX11_nextToken_62 (zT_is hS s_64) (zT_t hS s_64) p_11_275_11 zk_int ?_
      refine zw_push hm_129 dX11_nextToken_65 (v := .inr (.inr (some 64))) rfl ?_
      refine zw_gf hm_129 dX11_nextToken_66 (v := .inl (mI S 64 2)) (zT_is (zT_pi hS) s_64) (zT_t (zT_pi hS) s_64) rfl f_11_92_11 rfl ?_
      refine zw_push hm_129 dX11_nextToken_69 (v := .inr (.inr (some 64))) rfl ?_
      refine zw_gf hm_129 dX11_nextToken_70 (v := .inl l1) (zT_is (zT_pi hS) s_64) (zT_t (zT_pi hS) s_64) rfl f_11_275_11 rfl ?_
      refine zw_if2 hm_129 dX11_nextToken_73 (t := 80) rfl zc2_ge ?_ ?_
      · intro hc
        rw [if_pos hc] at h
        refine zw_push hm_129 dX11_nextToken_80 (v := .inl (0 : Int32)) rfl ?_
        exact zw_bret hm_129 dX11_nextToken_81 (by decide) h
      · intro hc
        rw [if_neg hc] at h
        refine zw_push hm_129 dX11_nextToken_76 (v := .inl (1 : Int32)) rfl ?_
        refine zw_goto hm_129 dX11_nextToken_77 (t := 81) rfl ?_
        exact zw_bret hm_129 dX11_nextToken_81 (by decide) h
    · intro hc
      rw [if_neg hc] at h
      refine zw_sto hm_129 dX11_nextToken_54 [(1, .inl (l1 + (1 : Int32))), (0, .inr (.inr (some 64)))] rfl rfl rfl ?_
      refine zw_goto hm_129 dX11_nextToken_57 (t := 35) rfl ?_
      exact zw_sub (ma_nd_of (ks := [0, 1]) rfl (by decide)) (ma_nd_of (ks := [1, 0]) rfl (by decide)) (ma_le_cons rfl (ma_le_cons rfl (ma_le_nil _))) h
theorem lp_129_64_35 {X : Nat × (Nat → Int32)} {d w : Nat} {f : Nat → Nat → Int32} {r : Nat → Nat → Option Nat} {C Z N : Nat} {Q : Option ma_V ⊕ Nat → ma_S → Prop} (hd : 0 ≤ d) (hw : 0 ≤ w) (K : ∀ v S', zX f r C Z N S' → (v = 0 ∨ v = 1) → Q (.inl (some (.inl v))) S') : ∀ (n : Nat) (S : ma_S) (l1 : Int32), (100 - l1.toInt).toNat = n → zX f r C Z N S → (0 ≤ l1.toInt) → (l1.toInt ≤ 100) → ma_wp X d w 129 35 [(0, .inr (.inr (some 64))), (1, .inl l1)] [] S Q := by
  intro n
  induction n using Nat.strongRecOn with
  | _ n IH =>
    intro S l1 hmu hI  hi0 hi1
    refine g_129_64_35 l1 (by omega) (by omega) (zG_T hI) ?_
    have f1 := zG_s hI (0) (100) (c := 64) (k := 1) (by decide)
    have b2 := i_bd l1
    refine zd (fun h3 => ?_) (fun h3 => ?_)
    · skip
      have g4 := i_le h3
      have f5 := zG_s hI (0) (100) (c := 64) (k := 2) (by decide)
      refine zd (fun h6 => ?_) (fun h6 => ?_)
      · skip
        have g7 := i_le h6
        have hI8 : zX f r C Z N (ma_put S 64 3 (.inl l1)) := zG_sp hI (0) (100) rfl (by decide) (by decide) (by decide) trivial (by omega) (by omega)
        have li9 : (0 : Int32).toInt = 0 := rfl
        exact K ((0 : Int32)) _ hI8 (by decide)
      · skip
        have g10 := i_nle h6
        have hI11 : zX f r C Z N (ma_put S 64 3 (.inl l1)) := zG_sp hI (0) (100) rfl (by decide) (by decide) (by decide) trivial (by omega) (by omega)
        have li12 : (1 : Int32).toInt = 1 := rfl
        exact K ((1 : Int32)) _ hI11 (by decide)
    · skip
      have g13 := i_nle h3
      refine ⟨i_ix (by omega) (by omega), ?_⟩
      have b14 := i_bd (mI S 65 l1.toNatClampNeg)
      have li15 : (32 : Int32).toInt = 32 := rfl
      refine zd (fun h16 => ?_) (fun h16 => ?_)
      · skip
        have g17 := i_eq h16
        have f18 := zG_s hI (0) (100) (c := 64) (k := 2) (by decide)
        refine zd (fun h19 => ?_) (fun h19 => ?_)
        · skip
          have g20 := i_le h19
          have hI21 : zX f r C Z N (ma_put S 64 3 (.inl l1)) := zG_sp hI (0) (100) rfl (by decide) (by decide) (by decide) trivial (by omega) (by omega)
          have li22 : (0 : Int32).toInt = 0 := rfl
          exact K ((0 : Int32)) _ hI21 (by decide)
        · skip
          have g23 := i_nle h19
          have hI24 : zX f r C Z N (ma_put S 64 3 (.inl l1)) := zG_sp hI (0) (100) rfl (by decide) (by decide) (by decide) trivial (by omega) (by omega)
          have li25 : (1 : Int32).toInt = 1 := rfl
          exact K ((1 : Int32)) _ hI24 (by decide)
      · skip
        have g26 := i_ne h16
        first | have e27 : (l1 + (1 : Int32)).toInt = l1.toInt + (1) := i_addk rfl (by omega) (by omega) | have b28 := i_bd (l1 + (1 : Int32))
        exact IH _ (by omega) _ ((l1 + (1 : Int32))) rfl hI (by omega) (by omega)
theorem lp_129_64_5 {X : Nat × (Nat → Int32)} {d w : Nat} {f : Nat → Nat → Int32} {r : Nat → Nat → Option Nat} {C Z N : Nat} {Q : Option ma_V ⊕ Nat → ma_S → Prop} (hd : 0 ≤ d) (hw : 0 ≤ w) (K : ∀ v S', zX f r C Z N S' → (v = 0 ∨ v = 1) → Q (.inl (some (.inl v))) S') : ∀ (n : Nat) (S : ma_S) (l1 : Int32), (100 - l1.toInt).toNat = n → zX f r C Z N S → (0 ≤ l1.toInt) → (l1.toInt ≤ 100) → ma_wp X d w 129 5 [(0, .inr (.inr (some 64))), (1, .inl l1)] [] S Q := by
  intro n
  induction n using Nat.strongRecOn with
  | _ n IH =>
    intro S l1 hmu hI  hi0 hi1
    refine g_129_64_5 l1 (by omega) (by omega) (zG_T hI) ?_
    have f1 := zG_s hI (0) (100) (c := 64) (k := 1) (by decide)
    have b2 := i_bd l1
    refine zd (fun h3 => ?_) (fun h3 => ?_)
    · skip
      have g4 := i_le h3
      have hI5 : zX f r C Z N (ma_put S 64 2 (.inl l1)) := zG_sp hI (0) (100) rfl (by decide) (by decide) (by decide) trivial (by omega) (by omega)
      exact lp_129_64_35 (by omega) (by omega) K _ _ (l1) rfl hI5 (by omega) (by omega)
    · skip
      have g6 := i_nle h3
      refine ⟨i_ix (by omega) (by omega), ?_⟩
      have b7 := i_bd (mI S 65 l1.toNatClampNeg)
      have li8 : (32 : Int32).toInt = 32 := rfl
      refine zd (fun h9 => ?_) (fun h9 => ?_)
      · skip
        have g10 := i_eq h9
        first | have e11 : (l1 + (1 : Int32)).toInt = l1.toInt + (1) := i_addk rfl (by omega) (by omega) | have b12 := i_bd (l1 + (1 : Int32))
        exact IH _ (by omega) _ ((l1 + (1 : Int32))) rfl hI (by omega) (by omega)
      · skip
        have g13 := i_ne h9
        have hI14 : zX f r C Z N (ma_put S 64 2 (.inl l1)) := zG_sp hI (0) (100) rfl (by decide) (by decide) (by decide) trivial (by omega) (by omega)
        exact lp_129_64_35 (by omega) (by omega) K _ _ (l1) rfl hI14 (by omega) (by omega)
theorem sp_129_64 {X : Nat × (Nat → Int32)} {d w : Nat} {f : Nat → Nat → Int32} {r : Nat → Nat → Option Nat} {C Z N : Nat} {Q : Option ma_V ⊕ Nat → ma_S → Prop} {S : ma_S}  (hd : 0 ≤ d) (hw : 0 ≤ w) (hI : zX f r C Z N S)  (K : ∀ v S', zX f r C Z N S' → (v = 0 ∨ v = 1) → Q (.inl (some (.inl v))) S') : ma_wp X d w 129 0 [(0, .inr (.inr (some 64)))] [] S Q := by
  refine g_129_64_0  (by omega) (by omega) (zG_T hI) ?_
  have f1 := zG_s hI (0) (100) (c := 64) (k := 3) (by decide)
  exact lp_129_64_5 (by omega) (by omega) K _ _ ((mI S 64 3)) rfl hI (by omega) (by omega)
theorem g_131_64_0_0 {X : Nat × (Nat → Int32)} {d w : Nat} {S : ma_S} {Q : Option ma_V ⊕ Nat → ma_S → Prop}  (hd : 5 ≤ d) (hw : 100 ≤ w) (hS : zT S) (h : if ((mI S 64 3) - (mI S 64 2)) = (5 : Int32) then (ma_wp X d w 131 20 [(0, .inr (.inr (some 64))), (1, .inr (.inr (some 0))), (2, .inl (0 : Int32))] [] S Q) else (Q (.inl (some (.inl (0 : Int32)))) S)) : ma_wp X d w 131 0 [(0, .inr (.inr (some 64))), (1, .inr (.inr (some 0)))] [] S Q := by
  refine zw_push hm_131 dX11_tokenIs_0 (v := .inr (.inr (some 64))) rfl ?_
  refine zw_gf hm_131 dX11_tokenIs_1 (v := .inl (mI S 64 3)) (zT_is hS s_64) (zT_t hS s_64) rfl f_11_275_11 rfl ?_
  refine zw_push hm_131 dX11_tokenIs_4 (v := .inr (.inr (some 64))) rfl ?_
  refine zw_gf hm_131 dX11_tokenIs_5 (v := .inl (mI S 64 2)) (zT_is hS s_64) (zT_t hS s_64) rfl f_11_92_11 rfl ?_
  refine zw_stk hm_131 dX11_tokenIs_8 (st' := [.inl ((mI S 64 3) - (mI S 64 2))]) rfl rfl ?_
  refine zw_push hm_131 dX11_tokenIs_9 (v := .inr (.inr (some 0))) rfl ?_
  refine zw_cv hm_131 dX11_tokenIs_10 v_11_288_17 hm_277 [] [.inl ((mI S 64 3) - (mI S 64 2))] rfl rfl ⟨by omega, by omega⟩ rfl (tx_len (v := (5 : Int32)) (by decide) (by omega) (by omega) rfl rfl ?_)
  show ma_wp X d w 131 13 [(0, .inr (.inr (some 64))), (1, .inr (.inr (some 0)))] [.inl (5 : Int32), .inl ((mI S 64 3) - (mI S 64 2))] S _
  refine zw_if2 hm_131 dX11_tokenIs_13 (t := 18) rfl zc2_eq ?_ ?_
  · intro hc
    rw [if_pos hc] at h
    refine zw_push hm_131 dX11_tokenIs_18 (v := .inl (0 : Int32)) rfl ?_
    refine zw_sto hm_131 dX11_tokenIs_19 [(2, .inl (0 : Int32)), (0, .inr (.inr (some 64))), (1, .inr (.inr (some 0)))] rfl rfl rfl ?_
    exact zw_sub (ma_nd_of (ks := [0, 1, 2]) rfl (by decide)) (ma_nd_of (ks := [2, 0, 1]) rfl (by decide)) (ma_le_cons rfl (ma_le_cons rfl (ma_le_cons rfl (ma_le_nil _)))) h
  · intro hc
    rw [if_neg hc] at h
    refine zw_push hm_131 dX11_tokenIs_16 (v := .inl (0 : Int32)) rfl ?_
    exact zw_bret hm_131 dX11_tokenIs_17 (by decide) h
theorem g_131_64_0_20 {X : Nat × (Nat → Int32)} {d w : Nat} {S : ma_S} {Q : Option ma_V ⊕ Nat → ma_S → Prop} (l2 : Int32) (hd : 5 ≤ d) (hw : 100 ≤ w) (hS : zT S) (h : if (5 : Int32) ≤ l2 then (Q (.inl (some (.inl (1 : Int32)))) S) else (if (100 : Int32) ≤ ((mI S 64 2) + l2) then (Q (.inl (some (.inl (1 : Int32)))) S) else ((0 ≤ ((mI S 64 2) + l2) ∧ ((mI S 64 2) + l2).toNatClampNeg < 100) ∧ ((0 ≤ l2 ∧ l2.toNatClampNeg < 5) ∧ (if (mI S 65 ((mI S 64 2) + l2).toNatClampNeg) = ((((ma_txb.getD 0 []).getD l2.toNatClampNeg 0 &&& 255).toUInt32 % 65536).toInt32) then (ma_wp X d w 131 20 [(0, .inr (.inr (some 64))), (1, .inr (.inr (some 0))), (2, .inl (l2 + (1 : Int32)))] [] S Q) else (Q (.inl (some (.inl (0 : Int32)))) S)))))) : ma_wp X d w 131 20 [(0, .inr (.inr (some 64))), (1, .inr (.inr (some 0))), (2, .inl l2)] [] S Q := by
  refine zw_push hm_131 dX11_tokenIs_20 (v := .inl l2) rfl ?_
  refine zw_push hm_131 dX11_tokenIs_21 (v := .inr (.inr (some 0))) rfl ?_
  refine zw_cv hm_131 dX11_tokenIs_22 v_11_288_17 hm_277 [] [.inl l2] rfl rfl ⟨by omega, by omega⟩ rfl (tx_len (v := (5 : Int32)) (by decide) (by omega) (by omega) rfl rfl ?_)
  show ma_wp X d w 131 25 [(0, .inr (.inr (some 64))), (1, .inr (.inr (some 0))), (2, .inl l2)] [.inl (5 : Int32), .inl l2] S _
  refine zw_if2 hm_131 dX11_tokenIs_25 (t := 66) rfl zc2_ge ?_ ?_
  · intro hc
    rw [if_pos hc] at h
    refine zw_push hm_131 dX11_tokenIs_66 (v := .inl (1 : Int32)) rfl ?_
    exact zw_bret hm_131 dX11_tokenIs_67 (by decide) h
  · intro hc
    rw [if_neg hc] at h
    refine zw_push hm_131 dX11_tokenIs_28 (v := .inr (.inr (some 64))) rfl ?_
    refine zw_gf hm_131 dX11_tokenIs_29 (v := .inl (mI S 64 2)) (zT_is hS s_64) (zT_t hS s_64) rfl f_11_92_11 rfl ?_
    refine zw_push hm_131 dX11_tokenIs_32 (v := .inl l2) rfl ?_
    refine zw_stk hm_131 dX11_tokenIs_33 (st' := [.inl ((mI S 64 2) + l2)]) rfl rfl ?_
    refine zw_push hm_131 dX11_tokenIs_34 (v := .inl (100 : Int32)) rfl ?_
    refine zw_if2 hm_131 dX11_tokenIs_36 (t := 66) rfl zc2_ge ?_ ?_
    · intro hc
      rw [if_pos hc] at h
      refine zw_push hm_131 dX11_tokenIs_66 (v := .inl (1 : Int32)) rfl ?_
      exact zw_bret hm_131 dX11_tokenIs_67 (by decide) h
    · intro hc
      rw [if_neg hc] at h
      refine zw_push hm_131 dX11_tokenIs_39 (v := .inr (.inr (some 64))) rfl ?_
      refine zw_gf hm_131 dX11_tokenIs_40 (v := .inr (.inr (some 65))) (zT_is hS s_64) (zT_t hS s_64) rfl f_11_9_11 (zT_f hS r_64_0) ?_
      refine zw_push hm_131 dX11_tokenIs_43 (v := .inr (.inr (some 64))) rfl ?_
      refine zw_gf hm_131 dX11_tokenIs_44 (v := .inl (mI S 64 2)) (zT_is hS s_64) (zT_t hS s_64) rfl f_11_92_11 rfl ?_
      refine zw_push hm_131 dX11_tokenIs_47 (v := .inl l2) rfl ?_
      refine zw_stk hm_131 dX11_tokenIs_48 (st' := [.inl ((mI S 64 2) + l2), .inr (.inr (some 65))]) rfl rfl ?_
      obtain ⟨hg, h⟩ := h
      refine zw_ba hm_131 dX11_tokenIs_49 (zT_is hS s_65) (zT_h hS s_65) rfl rfl hg ?_
      show ma_wp X d w 131 50 [(0, .inr (.inr (some 64))), (1, .inr (.inr (some 0))), (2, .inl l2)] [.inl (mI S 65 ((mI S 64 2) + l2).toNatClampNeg)] S _
      refine zw_push hm_131 dX11_tokenIs_50 (v := .inr (.inr (some 0))) rfl ?_
      refine zw_push hm_131 dX11_tokenIs_51 (v := .inl l2) rfl ?_
      obtain ⟨hg, h⟩ := h
      refine zw_cv hm_131 dX11_tokenIs_52 v_11_293_17 hm_279 [.inl l2] [.inl (mI S 65 ((mI S 64 2) + l2).toNatClampNeg)] rfl rfl ⟨by omega, by omega⟩ rfl (tx_char (by decide) (by omega) (by omega) hg (by decide) rfl (tx_idem _) ?_)
      show ma_wp X d w 131 55 [(0, .inr (.inr (some 64))), (1, .inr (.inr (some 0))), (2, .inl l2)] [.inl ((((ma_txb.getD 0 []).getD l2.toNatClampNeg 0 &&& 255).toUInt32 % 65536).toInt32), .inl (mI S 65 ((mI S 64 2) + l2).toNatClampNeg)] S _
      refine zw_if2 hm_131 dX11_tokenIs_55 (t := 60) rfl zc2_eq ?_ ?_
      · intro hc
        rw [if_pos hc] at h
        refine zw_sto hm_131 dX11_tokenIs_60 [(2, .inl (l2 + (1 : Int32))), (0, .inr (.inr (some 64))), (1, .inr (.inr (some 0)))] rfl rfl rfl ?_
        refine zw_goto hm_131 dX11_tokenIs_63 (t := 20) rfl ?_
        exact zw_sub (ma_nd_of (ks := [0, 1, 2]) rfl (by decide)) (ma_nd_of (ks := [2, 0, 1]) rfl (by decide)) (ma_le_cons rfl (ma_le_cons rfl (ma_le_cons rfl (ma_le_nil _)))) h
      · intro hc
        rw [if_neg hc] at h
        refine zw_push hm_131 dX11_tokenIs_58 (v := .inl (0 : Int32)) rfl ?_
        exact zw_bret hm_131 dX11_tokenIs_59 (by decide) h
theorem lp_131_64_0_20 {X : Nat × (Nat → Int32)} {d w : Nat} {f : Nat → Nat → Int32} {r : Nat → Nat → Option Nat} {C Z N : Nat} {Q : Option ma_V ⊕ Nat → ma_S → Prop} (hd : 5 ≤ d) (hw : 100 ≤ w) (K : ∀ v S', zX f r C Z N S' → (v = 0 ∨ v = 1) → Q (.inl (some (.inl v))) S') : ∀ (n : Nat) (S : ma_S) (l2 : Int32), (6 - l2.toInt).toNat = n → zX f r C Z N S → (0 ≤ l2.toInt) → ma_wp X d w 131 20 [(0, .inr (.inr (some 64))), (1, .inr (.inr (some 0))), (2, .inl l2)] [] S Q := by
  intro n
  induction n using Nat.strongRecOn with
  | _ n IH =>
    intro S l2 hmu hI  hi0
    refine g_131_64_0_20 l2 (by omega) (by omega) (zG_T hI) ?_
    have li1 : (5 : Int32).toInt = 5 := rfl
    have b2 := i_bd l2
    refine zd (fun h3 => ?_) (fun h3 => ?_)
    · skip
      have g4 := i_le h3
      have li5 : (1 : Int32).toInt = 1 := rfl
      exact K ((1 : Int32)) _ hI (by decide)
    · skip
      have g6 := i_nle h3
      have li7 : (100 : Int32).toInt = 100 := rfl
      have f8 := zG_s hI (0) (100) (c := 64) (k := 2) (by decide)
      first | have e9 : ((mI S 64 2) + l2).toInt = (mI S 64 2).toInt + l2.toInt := i_add (by omega) (by omega) | have b10 := i_bd ((mI S 64 2) + l2)
      refine zd (fun h11 => ?_) (fun h11 => ?_)
      · skip
        have g12 := i_le h11
        have li13 : (1 : Int32).toInt = 1 := rfl
        exact K ((1 : Int32)) _ hI (by decide)
      · skip
        have g14 := i_nle h11
        refine ⟨i_ix (by omega) (by omega), ?_⟩
        refine ⟨i_ix (by omega) (by omega), ?_⟩
        have b15 := i_bd (mI S 65 ((mI S 64 2) + l2).toNatClampNeg)
        have b16 := i_bd ((((ma_txb.getD 0 []).getD l2.toNatClampNeg 0 &&& 255).toUInt32 % 65536).toInt32)
        refine zd (fun h17 => ?_) (fun h17 => ?_)
        · skip
          have g18 := i_eq h17
          first | have e19 : (l2 + (1 : Int32)).toInt = l2.toInt + (1) := i_addk rfl (by omega) (by omega) | have b20 := i_bd (l2 + (1 : Int32))
          exact IH _ (by omega) _ ((l2 + (1 : Int32))) rfl hI (by omega)
        · skip
          have g21 := i_ne h17
          have li22 : (0 : Int32).toInt = 0 := rfl
          exact K ((0 : Int32)) _ hI (by decide)
theorem sp_131_64_0 {X : Nat × (Nat → Int32)} {d w : Nat} {f : Nat → Nat → Int32} {r : Nat → Nat → Option Nat} {C Z N : Nat} {Q : Option ma_V ⊕ Nat → ma_S → Prop} {S : ma_S}  (hd : 5 ≤ d) (hw : 100 ≤ w) (hI : zX f r C Z N S)  (K : ∀ v S', zX f r C Z N S' → (v = 0 ∨ v = 1) → Q (.inl (some (.inl v))) S') : ma_wp X d w 131 0 [(0, .inr (.inr (some 64))), (1, .inr (.inr (some 0)))] [] S Q := by
  refine g_131_64_0_0  (by omega) (by omega) (zG_T hI) ?_
  have f1 := zG_s hI (0) (100) (c := 64) (k := 3) (by decide)
  have f2 := zG_s hI (0) (100) (c := 64) (k := 2) (by decide)
  first | have e3 : ((mI S 64 3) - (mI S 64 2)).toInt = (mI S 64 3).toInt - (mI S 64 2).toInt := i_sub (by omega) (by omega) | have b4 := i_bd ((mI S 64 3) - (mI S 64 2))
  have li5 : (5 : Int32).toInt = 5 := rfl
  refine zd (fun h6 => ?_) (fun h6 => ?_)
  · skip
    have g7 := i_eq h6
    have li8 : (0 : Int32).toInt = 0 := rfl
    exact lp_131_64_0_20 (by omega) (by omega) K _ _ ((0 : Int32)) rfl hI (by omega)
  · skip
    have g9 := i_ne h6
    have li10 : (0 : Int32).toInt = 0 := rfl
    exact K ((0 : Int32)) _ hI (by decide)
theorem g_131_64_1_0 {X : Nat × (Nat → Int32)} {d w : Nat} {S : ma_S} {Q : Option ma_V ⊕ Nat → ma_S → Prop}  (hd : 5 ≤ d) (hw : 100 ≤ w) (hS : zT S) (h : if ((mI S 64 3) - (mI S 64 2)) = (5 : Int32) then (ma_wp X d w 131 20 [(0, .inr (.inr (some 64))), (1, .inr (.inr (some 1))), (2, .inl (0 : Int32))] [] S Q) else (Q (.inl (some (.inl (0 : Int32)))) S)) : ma_wp X d w 131 0 [(0, .inr (.inr (some 64))), (1, .inr (.inr (some 1)))] [] S Q := by
  refine zw_push hm_131 dX11_tokenIs_0 (v := .inr (.inr (some 64))) rfl ?_
  refine zw_gf hm_131 dX11_tokenIs_1 (v := .inl (mI S 64 3)) (zT_is hS s_64) (zT_t hS s_64) rfl f_11_275_11 rfl ?_
  refine zw_push hm_131 dX11_tokenIs_4 (v := .inr (.inr (some 64))) rfl ?_
  refine zw_gf hm_131 dX11_tokenIs_5 (v := .inl (mI S 64 2)) (zT_is hS s_64) (zT_t hS s_64) rfl f_11_92_11 rfl ?_
  refine zw_stk hm_131 dX11_tokenIs_8 (st' := [.inl ((mI S 64 3) - (mI S 64 2))]) rfl rfl ?_
  refine zw_push hm_131 dX11_tokenIs_9 (v := .inr (.inr (some 1))) rfl ?_
  refine zw_cv hm_131 dX11_tokenIs_10 v_11_288_17 hm_277 [] [.inl ((mI S 64 3) - (mI S 64 2))] rfl rfl ⟨by omega, by omega⟩ rfl (tx_len (v := (5 : Int32)) (by decide) (by omega) (by omega) rfl rfl ?_)
  show ma_wp X d w 131 13 [(0, .inr (.inr (some 64))), (1, .inr (.inr (some 1)))] [.inl (5 : Int32), .inl ((mI S 64 3) - (mI S 64 2))] S _
  refine zw_if2 hm_131 dX11_tokenIs_13 (t := 18) rfl zc2_eq ?_ ?_
  · intro hc
    rw [if_pos hc] at h
    refine zw_push hm_131 dX11_tokenIs_18 (v := .inl (0 : Int32)) rfl ?_
    refine zw_sto hm_131 dX11_tokenIs_19 [(2, .inl (0 : Int32)), (0, .inr (.inr (some 64))), (1, .inr (.inr (some 1)))] rfl rfl rfl ?_
    exact zw_sub (ma_nd_of (ks := [0, 1, 2]) rfl (by decide)) (ma_nd_of (ks := [2, 0, 1]) rfl (by decide)) (ma_le_cons rfl (ma_le_cons rfl (ma_le_cons rfl (ma_le_nil _)))) h
  · intro hc
    rw [if_neg hc] at h
    refine zw_push hm_131 dX11_tokenIs_16 (v := .inl (0 : Int32)) rfl ?_
    exact zw_bret hm_131 dX11_tokenIs_17 (by decide) h
theorem g_131_64_1_20 {X : Nat × (Nat → Int32)} {d w : Nat} {S : ma_S} {Q : Option ma_V ⊕ Nat → ma_S → Prop} (l2 : Int32) (hd : 5 ≤ d) (hw : 100 ≤ w) (hS : zT S) (h : if (5 : Int32) ≤ l2 then (Q (.inl (some (.inl (1 : Int32)))) S) else (if (100 : Int32) ≤ ((mI S 64 2) + l2) then (Q (.inl (some (.inl (1 : Int32)))) S) else ((0 ≤ ((mI S 64 2) + l2) ∧ ((mI S 64 2) + l2).toNatClampNeg < 100) ∧ ((0 ≤ l2 ∧ l2.toNatClampNeg < 5) ∧ (if (mI S 65 ((mI S 64 2) + l2).toNatClampNeg) = ((((ma_txb.getD 1 []).getD l2.toNatClampNeg 0 &&& 255).toUInt32 % 65536).toInt32) then (ma_wp X d w 131 20 [(0, .inr (.inr (some 64))), (1, .inr (.inr (some 1))), (2, .inl (l2 + (1 : Int32)))] [] S Q) else (Q (.inl (some (.inl (0 : Int32)))) S)))))) : ma_wp X d w 131 20 [(0, .inr (.inr (some 64))), (1, .inr (.inr (some 1))), (2, .inl l2)] [] S Q := by
  refine zw_push hm_131 dX11_tokenIs_20 (v := .inl l2) rfl ?_
  refine zw_push hm_131 dX11_tokenIs_21 (v := .inr (.inr (some 1))) rfl ?_
  refine zw_cv hm_131 dX11_tokenIs_22 v_11_288_17 hm_277 [] [.inl l2] rfl rfl ⟨by omega, by omega⟩ rfl (tx_len (v := (5 : Int32)) (by decide) (by omega) (by omega) rfl rfl ?_)
  show ma_wp X d w 131 25 [(0, .inr (.inr (some 64))), (1, .inr (.inr (some 1))), (2, .inl l2)] [.inl (5 : Int32), .inl l2] S _
  refine zw_if2 hm_131 dX11_tokenIs_25 (t := 66) rfl zc2_ge ?_ ?_
  · intro hc
    rw [if_pos hc] at h
    refine zw_push hm_131 dX11_tokenIs_66 (v := .inl (1 : Int32)) rfl ?_
    exact zw_bret hm_131 dX11_tokenIs_67 (by decide) h
  · intro hc
    rw [if_neg hc] at h
    refine zw_push hm_131 dX11_tokenIs_28 (v := .inr (.inr (some 64))) rfl ?_
    refine zw_gf hm_131 dX11_tokenIs_29 (v := .inl (mI S 64 2)) (zT_is hS s_64) (zT_t hS s_64) rfl f_11_92_11 rfl ?_
    refine zw_push hm_131 dX11_tokenIs_32 (v := .inl l2) rfl ?_
    refine zw_stk hm_131 dX11_tokenIs_33 (st' := [.inl ((mI S 64 2) + l2)]) rfl rfl ?_
    refine zw_push hm_131 dX11_tokenIs_34 (v := .inl (100 : Int32)) rfl ?_
    refine zw_if2 hm_131 dX11_tokenIs_36 (t := 66) rfl zc2_ge ?_ ?_
    · intro hc
      rw [if_pos hc] at h
      refine zw_push hm_131 dX11_tokenIs_66 (v := .inl (1 : Int32)) rfl ?_
      exact zw_bret hm_131 dX11_tokenIs_67 (by decide) h
    · intro hc
      rw [if_neg hc] at h
      refine zw_push hm_131 dX11_tokenIs_39 (v := .inr (.inr (some 64))) rfl ?_
      refine zw_gf hm_131 dX11_tokenIs_40 (v := .inr (.inr (some 65))) (zT_is hS s_64) (zT_t hS s_64) rfl f_11_9_11 (zT_f hS r_64_0) ?_
      refine zw_push hm_131 dX11_tokenIs_43 (v := .inr (.inr (some 64))) rfl ?_
      refine zw_gf hm_131 dX11_tokenIs_44 (v := .inl (mI S 64 2)) (zT_is hS s_64) (zT_t hS s_64) rfl f_11_92_11 rfl ?_
      refine zw_push hm_131 dX11_tokenIs_47 (v := .inl l2) rfl ?_
      refine zw_stk hm_131 dX11_tokenIs_48 (st' := [.inl ((mI S 64 2) + l2), .inr (.inr (some 65))]) rfl rfl ?_
      obtain ⟨hg, h⟩ := h
      refine zw_ba hm_131 dX11_tokenIs_49 (zT_is hS s_65) (zT_h hS s_65) rfl rfl hg ?_
      show ma_wp X d w 131 50 [(0, .inr (.inr (some 64))), (1, .inr (.inr (some 1))), (2, .inl l2)] [.inl (mI S 65 ((mI S 64 2) + l2).toNatClampNeg)] S _
      refine zw_push hm_131 dX11_tokenIs_50 (v := .inr (.inr (some 1))) rfl ?_
      refine zw_push hm_131 dX11_tokenIs_51 (v := .inl l2) rfl ?_
      obtain ⟨hg, h⟩ := h
      refine zw_cv hm_131 dX11_tokenIs_52 v_11_293_17 hm_279 [.inl l2] [.inl (mI S 65 ((mI S 64 2) + l2).toNatClampNeg)] rfl rfl ⟨by omega, by omega⟩ rfl (tx_char (by decide) (by omega) (by omega) hg (by decide) rfl (tx_idem _) ?_)
      show ma_wp X d w 131 55 [(0, .inr (.inr (some 64))), (1, .inr (.inr (some 1))), (2, .inl l2)] [.inl ((((ma_txb.getD 1 []).getD l2.toNatClampNeg 0 &&& 255).toUInt32 % 65536).toInt32), .inl (mI S 65 ((mI S 64 2) + l2).toNatClampNeg)] S _
      refine zw_if2 hm_131 dX11_tokenIs_55 (t := 60) rfl zc2_eq ?_ ?_
      · intro hc
        rw [if_pos hc] at h
        refine zw_sto hm_131 dX11_tokenIs_60 [(2, .inl (l2 + (1 : Int32))), (0, .inr (.inr (some 64))), (1, .inr (.inr (some 1)))] rfl rfl rfl ?_
        refine zw_goto hm_131 dX11_tokenIs_63 (t := 20) rfl ?_
        exact zw_sub (ma_nd_of (ks := [0, 1, 2]) rfl (by decide)) (ma_nd_of (ks := [2, 0, 1]) rfl (by decide)) (ma_le_cons rfl (ma_le_cons rfl (ma_le_cons rfl (ma_le_nil _)))) h
      · intro hc
        rw [if_neg hc] at h
        refine zw_push hm_131 dX11_tokenIs_58 (v := .inl (0 : Int32)) rfl ?_
        exact zw_bret hm_131 dX11_tokenIs_59 (by decide) h
theorem lp_131_64_1_20 {X : Nat × (Nat → Int32)} {d w : Nat} {f : Nat → Nat → Int32} {r : Nat → Nat → Option Nat} {C Z N : Nat} {Q : Option ma_V ⊕ Nat → ma_S → Prop} (hd : 5 ≤ d) (hw : 100 ≤ w) (K : ∀ v S', zX f r C Z N S' → (v = 0 ∨ v = 1) → Q (.inl (some (.inl v))) S') : ∀ (n : Nat) (S : ma_S) (l2 : Int32), (6 - l2.toInt).toNat = n → zX f r C Z N S → (0 ≤ l2.toInt) → ma_wp X d w 131 20 [(0, .inr (.inr (some 64))), (1, .inr (.inr (some 1))), (2, .inl l2)] [] S Q := by
  intro n
  induction n using Nat.strongRecOn with
  | _ n IH =>
    intro S l2 hmu hI  hi0
    refine g_131_64_1_20 l2 (by omega) (by omega) (zG_T hI) ?_
    have li1 : (5 : Int32).toInt = 5 := rfl
    have b2 := i_bd l2
    refine zd (fun h3 => ?_) (fun h3 => ?_)
    · skip
      have g4 := i_le h3
      have li5 : (1 : Int32).toInt = 1 := rfl
      exact K ((1 : Int32)) _ hI (by decide)
    · skip
      have g6 := i_nle h3
      have li7 : (100 : Int32).toInt = 100 := rfl
      have f8 := zG_s hI (0) (100) (c := 64) (k := 2) (by decide)
      first | have e9 : ((mI S 64 2) + l2).toInt = (mI S 64 2).toInt + l2.toInt := i_add (by omega) (by omega) | have b10 := i_bd ((mI S 64 2) + l2)
      refine zd (fun h11 => ?_) (fun h11 => ?_)
      · skip
        have g12 := i_le h11
        have li13 : (1 : Int32).toInt = 1 := rfl
        exact K ((1 : Int32)) _ hI (by decide)
      · skip
        have g14 := i_nle h11
        refine ⟨i_ix (by omega) (by omega), ?_⟩
        refine ⟨i_ix (by omega) (by omega), ?_⟩
        have b15 := i_bd (mI S 65 ((mI S 64 2) + l2).toNatClampNeg)
        have b16 := i_bd ((((ma_txb.getD 1 []).getD l2.toNatClampNeg 0 &&& 255).toUInt32 % 65536).toInt32)
        refine zd (fun h17 => ?_) (fun h17 => ?_)
        · skip
          have g18 := i_eq h17
          first | have e19 : (l2 + (1 : Int32)).toInt = l2.toInt + (1) := i_addk rfl (by omega) (by omega) | have b20 := i_bd (l2 + (1 : Int32))
          exact IH _ (by omega) _ ((l2 + (1 : Int32))) rfl hI (by omega)
        · skip
          have g21 := i_ne h17
          have li22 : (0 : Int32).toInt = 0 := rfl
          exact K ((0 : Int32)) _ hI (by decide)
theorem sp_131_64_1 {X : Nat × (Nat → Int32)} {d w : Nat} {f : Nat → Nat → Int32} {r : Nat → Nat → Option Nat} {C Z N : Nat} {Q : Option ma_V ⊕ Nat → ma_S → Prop} {S : ma_S}  (hd : 5 ≤ d) (hw : 100 ≤ w) (hI : zX f r C Z N S)  (K : ∀ v S', zX f r C Z N S' → (v = 0 ∨ v = 1) → Q (.inl (some (.inl v))) S') : ma_wp X d w 131 0 [(0, .inr (.inr (some 64))), (1, .inr (.inr (some 1)))] [] S Q := by
  refine g_131_64_1_0  (by omega) (by omega) (zG_T hI) ?_
  have f1 := zG_s hI (0) (100) (c := 64) (k := 3) (by decide)
  have f2 := zG_s hI (0) (100) (c := 64) (k := 2) (by decide)
  first | have e3 : ((mI S 64 3) - (mI S 64 2)).toInt = (mI S 64 3).toInt - (mI S 64 2).toInt := i_sub (by omega) (by omega) | have b4 := i_bd ((mI S 64 3) - (mI S 64 2))
  have li5 : (5 : Int32).toInt = 5 := rfl
  refine zd (fun h6 => ?_) (fun h6 => ?_)
  · skip
    have g7 := i_eq h6
    have li8 : (0 : Int32).toInt = 0 := rfl
    exact lp_131_64_1_20 (by omega) (by omega) K _ _ ((0 : Int32)) rfl hI (by omega)
  · skip
    have g9 := i_ne h6
    have li10 : (0 : Int32).toInt = 0 := rfl
    exact K ((0 : Int32)) _ hI (by decide)
theorem g_131_64_2_0 {X : Nat × (Nat → Int32)} {d w : Nat} {S : ma_S} {Q : Option ma_V ⊕ Nat → ma_S → Prop}  (hd : 5 ≤ d) (hw : 100 ≤ w) (hS : zT S) (h : if ((mI S 64 3) - (mI S 64 2)) = (6 : Int32) then (ma_wp X d w 131 20 [(0, .inr (.inr (some 64))), (1, .inr (.inr (some 2))), (2, .inl (0 : Int32))] [] S Q) else (Q (.inl (some (.inl (0 : Int32)))) S)) : ma_wp X d w 131 0 [(0, .inr (.inr (some 64))), (1, .inr (.inr (some 2)))] [] S Q := by
  refine zw_push hm_131 dX11_tokenIs_0 (v := .inr (.inr (some 64))) rfl ?_
  refine zw_gf hm_131 dX11_tokenIs_1 (v := .inl (mI S 64 3)) (zT_is hS s_64) (zT_t hS s_64) rfl f_11_275_11 rfl ?_
  refine zw_push hm_131 dX11_tokenIs_4 (v := .inr (.inr (some 64))) rfl ?_
  refine zw_gf hm_131 dX11_tokenIs_5 (v := .inl (mI S 64 2)) (zT_is hS s_64) (zT_t hS s_64) rfl f_11_92_11 rfl ?_
  refine zw_stk hm_131 dX11_tokenIs_8 (st' := [.inl ((mI S 64 3) - (mI S 64 2))]) rfl rfl ?_
  refine zw_push hm_131 dX11_tokenIs_9 (v := .inr (.inr (some 2))) rfl ?_
  refine zw_cv hm_131 dX11_tokenIs_10 v_11_288_17 hm_277 [] [.inl ((mI S 64 3) - (mI S 64 2))] rfl rfl ⟨by omega, by omega⟩ rfl (tx_len (v := (6 : Int32)) (by decide) (by omega) (by omega) rfl rfl ?_)
  show ma_wp X d w 131 13 [(0, .inr (.inr (some 64))), (1, .inr (.inr (some 2)))] [.inl (6 : Int32), .inl ((mI S 64 3) - (mI S 64 2))] S _
  refine zw_if2 hm_131 dX11_tokenIs_13 (t := 18) rfl zc2_eq ?_ ?_
  · intro hc
    rw [if_pos hc] at h
    refine zw_push hm_131 dX11_tokenIs_18 (v := .inl (0 : Int32)) rfl ?_
    refine zw_sto hm_131 dX11_tokenIs_19 [(2, .inl (0 : Int32)), (0, .inr (.inr (some 64))), (1, .inr (.inr (some 2)))] rfl rfl rfl ?_
    exact zw_sub (ma_nd_of (ks := [0, 1, 2]) rfl (by decide)) (ma_nd_of (ks := [2, 0, 1]) rfl (by decide)) (ma_le_cons rfl (ma_le_cons rfl (ma_le_cons rfl (ma_le_nil _)))) h
  · intro hc
    rw [if_neg hc] at h
    refine zw_push hm_131 dX11_tokenIs_16 (v := .inl (0 : Int32)) rfl ?_
    exact zw_bret hm_131 dX11_tokenIs_17 (by decide) h
theorem g_131_64_2_20 {X : Nat × (Nat → Int32)} {d w : Nat} {S : ma_S} {Q : Option ma_V ⊕ Nat → ma_S → Prop} (l2 : Int32) (hd : 5 ≤ d) (hw : 100 ≤ w) (hS : zT S) (h : if (6 : Int32) ≤ l2 then (Q (.inl (some (.inl (1 : Int32)))) S) else (if (100 : Int32) ≤ ((mI S 64 2) + l2) then (Q (.inl (some (.inl (1 : Int32)))) S) else ((0 ≤ ((mI S 64 2) + l2) ∧ ((mI S 64 2) + l2).toNatClampNeg < 100) ∧ ((0 ≤ l2 ∧ l2.toNatClampNeg < 6) ∧ (if (mI S 65 ((mI S 64 2) + l2).toNatClampNeg) = ((((ma_txb.getD 2 []).getD l2.toNatClampNeg 0 &&& 255).toUInt32 % 65536).toInt32) then (ma_wp X d w 131 20 [(0, .inr (.inr (some 64))), (1, .inr (.inr (some 2))), (2, .inl (l2 + (1 : Int32)))] [] S Q) else (Q (.inl (some (.inl (0 : Int32)))) S)))))) : ma_wp X d w 131 20 [(0, .inr (.inr (some 64))), (1, .inr (.inr (some 2))), (2, .inl l2)] [] S Q := by
  refine zw_push hm_131 dX11_tokenIs_20 (v := .inl l2) rfl ?_
  refine zw_push hm_131 dX11_tokenIs_21 (v := .inr (.inr (some 2))) rfl ?_
  refine zw_cv hm_131 dX11_tokenIs_22 v_11_288_17 hm_277 [] [.inl l2] rfl rfl ⟨by omega, by omega⟩ rfl (tx_len (v := (6 : Int32)) (by decide) (by omega) (by omega) rfl rfl ?_)
  show ma_wp X d w 131 25 [(0, .inr (.inr (some 64))), (1, .inr (.inr (some 2))), (2, .inl l2)] [.inl (6 : Int32), .inl l2] S _
  refine zw_if2 hm_131 dX11_tokenIs_25 (t := 66) rfl zc2_ge ?_ ?_
  · intro hc
    rw [if_pos hc] at h
    refine zw_push hm_131 dX11_tokenIs_66 (v := .inl (1 : Int32)) rfl ?_
    exact zw_bret hm_131 dX11_tokenIs_67 (by decide) h
  · intro hc
    rw [if_neg hc] at h
    refine zw_push hm_131 dX11_tokenIs_28 (v := .inr (.inr (some 64))) rfl ?_
    refine zw_gf hm_131 dX11_tokenIs_29 (v := .inl (mI S 64 2)) (zT_is hS s_64) (zT_t hS s_64) rfl f_11_92_11 rfl ?_
    refine zw_push hm_131 dX11_tokenIs_32 (v := .inl l2) rfl ?_
    refine zw_stk hm_131 dX11_tokenIs_33 (st' := [.inl ((mI S 64 2) + l2)]) rfl rfl ?_
    refine zw_push hm_131 dX11_tokenIs_34 (v := .inl (100 : Int32)) rfl ?_
    refine zw_if2 hm_131 dX11_tokenIs_36 (t := 66) rfl zc2_ge ?_ ?_
    · intro hc
      rw [if_pos hc] at h
      refine zw_push hm_131 dX11_tokenIs_66 (v := .inl (1 : Int32)) rfl ?_
      exact zw_bret hm_131 dX11_tokenIs_67 (by decide) h
    · intro hc
      rw [if_neg hc] at h
      refine zw_push hm_131 dX11_tokenIs_39 (v := .inr (.inr (some 64))) rfl ?_
      refine zw_gf hm_131 dX11_tokenIs_40 (v := .inr (.inr (some 65))) (zT_is hS s_64) (zT_t hS s_64) rfl f_11_9_11 (zT_f hS r_64_0) ?_
      refine zw_push hm_131 dX11_tokenIs_43 (v := .inr (.inr (some 64))) rfl ?_
      refine zw_gf hm_131 dX11_tokenIs_44 (v := .inl (mI S 64 2)) (zT_is hS s_64) (zT_t hS s_64) rfl f_11_92_11 rfl ?_
      refine zw_push hm_131 dX11_tokenIs_47 (v := .inl l2) rfl ?_
      refine zw_stk hm_131 dX11_tokenIs_48 (st' := [.inl ((mI S 64 2) + l2), .inr (.inr (some 65))]) rfl rfl ?_
      obtain ⟨hg, h⟩ := h
      refine zw_ba hm_131 dX11_tokenIs_49 (zT_is hS s_65) (zT_h hS s_65) rfl rfl hg ?_
      show ma_wp X d w 131 50 [(0, .inr (.inr (some 64))), (1, .inr (.inr (some 2))), (2, .inl l2)] [.inl (mI S 65 ((mI S 64 2) + l2).toNatClampNeg)] S _
      refine zw_push hm_131 dX11_tokenIs_50 (v := .inr (.inr (some 2))) rfl ?_
      refine zw_push hm_131 dX11_tokenIs_51 (v := .inl l2) rfl ?_
      obtain ⟨hg, h⟩ := h
      refine zw_cv hm_131 dX11_tokenIs_52 v_11_293_17 hm_279 [.inl l2] [.inl (mI S 65 ((mI S 64 2) + l2).toNatClampNeg)] rfl rfl ⟨by omega, by omega⟩ rfl (tx_char (by decide) (by omega) (by omega) hg (by decide) rfl (tx_idem _) ?_)
      show ma_wp X d w 131 55 [(0, .inr (.inr (some 64))), (1, .inr (.inr (some 2))), (2, .inl l2)] [.inl ((((ma_txb.getD 2 []).getD l2.toNatClampNeg 0 &&& 255).toUInt32 % 65536).toInt32), .inl (mI S 65 ((mI S 64 2) + l2).toNatClampNeg)] S _
      refine zw_if2 hm_131 dX11_tokenIs_55 (t := 60) rfl zc2_eq ?_ ?_
      · intro hc
        rw [if_pos hc] at h
        refine zw_sto hm_131 dX11_tokenIs_60 [(2, .inl (l2 + (1 : Int32))), (0, .inr (.inr (some 64))), (1, .inr (.inr (some 2)))] rfl rfl rfl ?_
        refine zw_goto hm_131 dX11_tokenIs_63 (t := 20) rfl ?_
        exact zw_sub (ma_nd_of (ks := [0, 1, 2]) rfl (by decide)) (ma_nd_of (ks := [2, 0, 1]) rfl (by decide)) (ma_le_cons rfl (ma_le_cons rfl (ma_le_cons rfl (ma_le_nil _)))) h
      · intro hc
        rw [if_neg hc] at h
        refine zw_push hm_131 dX11_tokenIs_58 (v := .inl (0 : Int32)) rfl ?_
        exact zw_bret hm_131 dX11_tokenIs_59 (by decide) h
theorem lp_131_64_2_20 {X : Nat × (Nat → Int32)} {d w : Nat} {f : Nat → Nat → Int32} {r : Nat → Nat → Option Nat} {C Z N : Nat} {Q : Option ma_V ⊕ Nat → ma_S → Prop} (hd : 5 ≤ d) (hw : 100 ≤ w) (K : ∀ v S', zX f r C Z N S' → (v = 0 ∨ v = 1) → Q (.inl (some (.inl v))) S') : ∀ (n : Nat) (S : ma_S) (l2 : Int32), (7 - l2.toInt).toNat = n → zX f r C Z N S → (0 ≤ l2.toInt) → ma_wp X d w 131 20 [(0, .inr (.inr (some 64))), (1, .inr (.inr (some 2))), (2, .inl l2)] [] S Q := by
  intro n
  induction n using Nat.strongRecOn with
  | _ n IH =>
    intro S l2 hmu hI  hi0
    refine g_131_64_2_20 l2 (by omega) (by omega) (zG_T hI) ?_
    have li1 : (6 : Int32).toInt = 6 := rfl
    have b2 := i_bd l2
    refine zd (fun h3 => ?_) (fun h3 => ?_)
    · skip
      have g4 := i_le h3
      have li5 : (1 : Int32).toInt = 1 := rfl
      exact K ((1 : Int32)) _ hI (by decide)
    · skip
      have g6 := i_nle h3
      have li7 : (100 : Int32).toInt = 100 := rfl
      have f8 := zG_s hI (0) (100) (c := 64) (k := 2) (by decide)
      first | have e9 : ((mI S 64 2) + l2).toInt = (mI S 64 2).toInt + l2.toInt := i_add (by omega) (by omega) | have b10 := i_bd ((mI S 64 2) + l2)
      refine zd (fun h11 => ?_) (fun h11 => ?_)
      · skip
        have g12 := i_le h11
        have li13 : (1 : Int32).toInt = 1 := rfl
        exact K ((1 : Int32)) _ hI (by decide)
      · skip
        have g14 := i_nle h11
        refine ⟨i_ix (by omega) (by omega), ?_⟩
        refine ⟨i_ix (by omega) (by omega), ?_⟩
        have b15 := i_bd (mI S 65 ((mI S 64 2) + l2).toNatClampNeg)
        have b16 := i_bd ((((ma_txb.getD 2 []).getD l2.toNatClampNeg 0 &&& 255).toUInt32 % 65536).toInt32)
        refine zd (fun h17 => ?_) (fun h17 => ?_)
        · skip
          have g18 := i_eq h17
          first | have e19 : (l2 + (1 : Int32)).toInt = l2.toInt + (1) := i_addk rfl (by omega) (by omega) | have b20 := i_bd (l2 + (1 : Int32))
          exact IH _ (by omega) _ ((l2 + (1 : Int32))) rfl hI (by omega)
        · skip
          have g21 := i_ne h17
          have li22 : (0 : Int32).toInt = 0 := rfl
          exact K ((0 : Int32)) _ hI (by decide)
theorem sp_131_64_2 {X : Nat × (Nat → Int32)} {d w : Nat} {f : Nat → Nat → Int32} {r : Nat → Nat → Option Nat} {C Z N : Nat} {Q : Option ma_V ⊕ Nat → ma_S → Prop} {S : ma_S}  (hd : 5 ≤ d) (hw : 100 ≤ w) (hI : zX f r C Z N S)  (K : ∀ v S', zX f r C Z N S' → (v = 0 ∨ v = 1) → Q (.inl (some (.inl v))) S') : ma_wp X d w 131 0 [(0, .inr (.inr (some 64))), (1, .inr (.inr (some 2)))] [] S Q := by
  refine g_131_64_2_0  (by omega) (by omega) (zG_T hI) ?_
  have f1 := zG_s hI (0) (100) (c := 64) (k := 3) (by decide)
  have f2 := zG_s hI (0) (100) (c := 64) (k := 2) (by decide)
  first | have e3 : ((mI S 64 3) - (mI S 64 2)).toInt = (mI S 64 3).toInt - (mI S 64 2).toInt := i_sub (by omega) (by omega) | have b4 := i_bd ((mI S 64 3) - (mI S 64 2))
  have li5 : (6 : Int32).toInt = 6 := rfl
  refine zd (fun h6 => ?_) (fun h6 => ?_)
  · skip
    have g7 := i_eq h6
    have li8 : (0 : Int32).toInt = 0 := rfl
    exact lp_131_64_2_20 (by omega) (by omega) K _ _ ((0 : Int32)) rfl hI (by omega)
  · skip
    have g9 := i_ne h6
    have li10 : (0 : Int32).toInt = 0 := rfl
    exact K ((0 : Int32)) _ hI (by decide)
theorem g_131_64_3_0 {X : Nat × (Nat → Int32)} {d w : Nat} {S : ma_S} {Q : Option ma_V ⊕ Nat → ma_S → Prop}  (hd : 5 ≤ d) (hw : 100 ≤ w) (hS : zT S) (h : if ((mI S 64 3) - (mI S 64 2)) = (4 : Int32) then (ma_wp X d w 131 20 [(0, .inr (.inr (some 64))), (1, .inr (.inr (some 3))), (2, .inl (0 : Int32))] [] S Q) else (Q (.inl (some (.inl (0 : Int32)))) S)) : ma_wp X d w 131 0 [(0, .inr (.inr (some 64))), (1, .inr (.inr (some 3)))] [] S Q := by
  refine zw_push hm_131 dX11_tokenIs_0 (v := .inr (.inr (some 64))) rfl ?_
  refine zw_gf hm_131 dX11_tokenIs_1 (v := .inl (mI S 64 3)) (zT_is hS s_64) (zT_t hS s_64) rfl f_11_275_11 rfl ?_
  refine zw_push hm_131 dX11_tokenIs_4 (v := .inr (.inr (some 64))) rfl ?_
  refine zw_gf hm_131 dX11_tokenIs_5 (v := .inl (mI S 64 2)) (zT_is hS s_64) (zT_t hS s_64) rfl f_11_92_11 rfl ?_
  refine zw_stk hm_131 dX11_tokenIs_8 (st' := [.inl ((mI S 64 3) - (mI S 64 2))]) rfl rfl ?_
  refine zw_push hm_131 dX11_tokenIs_9 (v := .inr (.inr (some 3))) rfl ?_
  refine zw_cv hm_131 dX11_tokenIs_10 v_11_288_17 hm_277 [] [.inl ((mI S 64 3) - (mI S 64 2))] rfl rfl ⟨by omega, by omega⟩ rfl (tx_len (v := (4 : Int32)) (by decide) (by omega) (by omega) rfl rfl ?_)
  show ma_wp X d w 131 13 [(0, .inr (.inr (some 64))), (1, .inr (.inr (some 3)))] [.inl (4 : Int32), .inl ((mI S 64 3) - (mI S 64 2))] S _
  refine zw_if2 hm_131 dX11_tokenIs_13 (t := 18) rfl zc2_eq ?_ ?_
  · intro hc
    rw [if_pos hc] at h
    refine zw_push hm_131 dX11_tokenIs_18 (v := .inl (0 : Int32)) rfl ?_
    refine zw_sto hm_131 dX11_tokenIs_19 [(2, .inl (0 : Int32)), (0, .inr (.inr (some 64))), (1, .inr (.inr (some 3)))] rfl rfl rfl ?_
    exact zw_sub (ma_nd_of (ks := [0, 1, 2]) rfl (by decide)) (ma_nd_of (ks := [2, 0, 1]) rfl (by decide)) (ma_le_cons rfl (ma_le_cons rfl (ma_le_cons rfl (ma_le_nil _)))) h
  · intro hc
    rw [if_neg hc] at h
    refine zw_push hm_131 dX11_tokenIs_16 (v := .inl (0 : Int32)) rfl ?_
    exact zw_bret hm_131 dX11_tokenIs_17 (by decide) h
theorem g_131_64_3_20 {X : Nat × (Nat → Int32)} {d w : Nat} {S : ma_S} {Q : Option ma_V ⊕ Nat → ma_S → Prop} (l2 : Int32) (hd : 5 ≤ d) (hw : 100 ≤ w) (hS : zT S) (h : if (4 : Int32) ≤ l2 then (Q (.inl (some (.inl (1 : Int32)))) S) else (if (100 : Int32) ≤ ((mI S 64 2) + l2) then (Q (.inl (some (.inl (1 : Int32)))) S) else ((0 ≤ ((mI S 64 2) + l2) ∧ ((mI S 64 2) + l2).toNatClampNeg < 100) ∧ ((0 ≤ l2 ∧ l2.toNatClampNeg < 4) ∧ (if (mI S 65 ((mI S 64 2) + l2).toNatClampNeg) = ((((ma_txb.getD 3 []).getD l2.toNatClampNeg 0 &&& 255).toUInt32 % 65536).toInt32) then (ma_wp X d w 131 20 [(0, .inr (.inr (some 64))), (1, .inr (.inr (some 3))), (2, .inl (l2 + (1 : Int32)))] [] S Q) else (Q (.inl (some (.inl (0 : Int32)))) S)))))) : ma_wp X d w 131 20 [(0, .inr (.inr (some 64))), (1, .inr (.inr (some 3))), (2, .inl l2)] [] S Q := by
  refine zw_push hm_131 dX11_tokenIs_20 (v := .inl l2) rfl ?_
  refine zw_push hm_131 dX11_tokenIs_21 (v := .inr (.inr (some 3))) rfl ?_
  refine zw_cv hm_131 dX11_tokenIs_22 v_11_288_17 hm_277 [] [.inl l2] rfl rfl ⟨by omega, by omega⟩ rfl (tx_len (v := (4 : Int32)) (by decide) (by omega) (by omega) rfl rfl ?_)
  show ma_wp X d w 131 25 [(0, .inr (.inr (some 64))), (1, .inr (.inr (some 3))), (2, .inl l2)] [.inl (4 : Int32), .inl l2] S _
  refine zw_if2 hm_131 dX11_tokenIs_25 (t := 66) rfl zc2_ge ?_ ?_
  · intro hc
    rw [if_pos hc] at h
    refine zw_push hm_131 dX11_tokenIs_66 (v := .inl (1 : Int32)) rfl ?_
    exact zw_bret hm_131 dX11_tokenIs_67 (by decide) h
  · intro hc
    rw [if_neg hc] at h
    refine zw_push hm_131 dX11_tokenIs_28 (v := .inr (.inr (some 64))) rfl ?_
    refine zw_gf hm_131 dX11_tokenIs_29 (v := .inl (mI S 64 2)) (zT_is hS s_64) (zT_t hS s_64) rfl f_11_92_11 rfl ?_
    refine zw_push hm_131 dX11_tokenIs_32 (v := .inl l2) rfl ?_
    refine zw_stk hm_131 dX11_tokenIs_33 (st' := [.inl ((mI S 64 2) + l2)]) rfl rfl ?_
    refine zw_push hm_131 dX11_tokenIs_34 (v := .inl (100 : Int32)) rfl ?_
    refine zw_if2 hm_131 dX11_tokenIs_36 (t := 66) rfl zc2_ge ?_ ?_
    · intro hc
      rw [if_pos hc] at h
      refine zw_push hm_131 dX11_tokenIs_66 (v := .inl (1 : Int32)) rfl ?_
      exact zw_bret hm_131 dX11_tokenIs_67 (by decide) h
    · intro hc
      rw [if_neg hc] at h
      refine zw_push hm_131 dX11_tokenIs_39 (v := .inr (.inr (some 64))) rfl ?_
      refine zw_gf hm_131 dX11_tokenIs_40 (v := .inr (.inr (some 65))) (zT_is hS s_64) (zT_t hS s_64) rfl f_11_9_11 (zT_f hS r_64_0) ?_
      refine zw_push hm_131 dX11_tokenIs_43 (v := .inr (.inr (some 64))) rfl ?_
      refine zw_gf hm_131 dX11_tokenIs_44 (v := .inl (mI S 64 2)) (zT_is hS s_64) (zT_t hS s_64) rfl f_11_92_11 rfl ?_
      refine zw_push hm_131 dX11_tokenIs_47 (v := .inl l2) rfl ?_
      refine zw_stk hm_131 dX11_tokenIs_48 (st' := [.inl ((mI S 64 2) + l2), .inr (.inr (some 65))]) rfl rfl ?_
      obtain ⟨hg, h⟩ := h
      refine zw_ba hm_131 dX11_tokenIs_49 (zT_is hS s_65) (zT_h hS s_65) rfl rfl hg ?_
      show ma_wp X d w 131 50 [(0, .inr (.inr (some 64))), (1, .inr (.inr (some 3))), (2, .inl l2)] [.inl (mI S 65 ((mI S 64 2) + l2).toNatClampNeg)] S _
      refine zw_push hm_131 dX11_tokenIs_50 (v := .inr (.inr (some 3))) rfl ?_
      refine zw_push hm_131 dX11_tokenIs_51 (v := .inl l2) rfl ?_
      obtain ⟨hg, h⟩ := h
      refine zw_cv hm_131 dX11_tokenIs_52 v_11_293_17 hm_279 [.inl l2] [.inl (mI S 65 ((mI S 64 2) + l2).toNatClampNeg)] rfl rfl ⟨by omega, by omega⟩ rfl (tx_char (by decide) (by omega) (by omega) hg (by decide) rfl (tx_idem _) ?_)
      show ma_wp X d w 131 55 [(0, .inr (.inr (some 64))), (1, .inr (.inr (some 3))), (2, .inl l2)] [.inl ((((ma_txb.getD 3 []).getD l2.toNatClampNeg 0 &&& 255).toUInt32 % 65536).toInt32), .inl (mI S 65 ((mI S 64 2) + l2).toNatClampNeg)] S _
      refine zw_if2 hm_131 dX11_tokenIs_55 (t := 60) rfl zc2_eq ?_ ?_
      · intro hc
        rw [if_pos hc] at h
        refine zw_sto hm_131 dX11_tokenIs_60 [(2, .inl (l2 + (1 : Int32))), (0, .inr (.inr (some 64))), (1, .inr (.inr (some 3)))] rfl rfl rfl ?_
        refine zw_goto hm_131 dX11_tokenIs_63 (t := 20) rfl ?_
        exact zw_sub (ma_nd_of (ks := [0, 1, 2]) rfl (by decide)) (ma_nd_of (ks := [2, 0, 1]) rfl (by decide)) (ma_le_cons rfl (ma_le_cons rfl (ma_le_cons rfl (ma_le_nil _)))) h
      · intro hc
        rw [if_neg hc] at h
        refine zw_push hm_131 dX11_tokenIs_58 (v := .inl (0 : Int32)) rfl ?_
        exact zw_bret hm_131 dX11_tokenIs_59 (by decide) h
theorem lp_131_64_3_20 {X : Nat × (Nat → Int32)} {d w : Nat} {f : Nat → Nat → Int32} {r : Nat → Nat → Option Nat} {C Z N : Nat} {Q : Option ma_V ⊕ Nat → ma_S → Prop} (hd : 5 ≤ d) (hw : 100 ≤ w) (K : ∀ v S', zX f r C Z N S' → (v = 0 ∨ v = 1) → Q (.inl (some (.inl v))) S') : ∀ (n : Nat) (S : ma_S) (l2 : Int32), (5 - l2.toInt).toNat = n → zX f r C Z N S → (0 ≤ l2.toInt) → ma_wp X d w 131 20 [(0, .inr (.inr (some 64))), (1, .inr (.inr (some 3))), (2, .inl l2)] [] S Q := by
  intro n
  induction n using Nat.strongRecOn with
  | _ n IH =>
    intro S l2 hmu hI  hi0
    refine g_131_64_3_20 l2 (by omega) (by omega) (zG_T hI) ?_
    have li1 : (4 : Int32).toInt = 4 := rfl
    have b2 := i_bd l2
    refine zd (fun h3 => ?_) (fun h3 => ?_)
    · skip
      have g4 := i_le h3
      have li5 : (1 : Int32).toInt = 1 := rfl
      exact K ((1 : Int32)) _ hI (by decide)
    · skip
      have g6 := i_nle h3
      have li7 : (100 : Int32).toInt = 100 := rfl
      have f8 := zG_s hI (0) (100) (c := 64) (k := 2) (by decide)
      first | have e9 : ((mI S 64 2) + l2).toInt = (mI S 64 2).toInt + l2.toInt := i_add (by omega) (by omega) | have b10 := i_bd ((mI S 64 2) + l2)
      refine zd (fun h11 => ?_) (fun h11 => ?_)
      · skip
        have g12 := i_le h11
        have li13 : (1 : Int32).toInt = 1 := rfl
        exact K ((1 : Int32)) _ hI (by decide)
      · skip
        have g14 := i_nle h11
        refine ⟨i_ix (by omega) (by omega), ?_⟩
        refine ⟨i_ix (by omega) (by omega), ?_⟩
        have b15 := i_bd (mI S 65 ((mI S 64 2) + l2).toNatClampNeg)
        have b16 := i_bd ((((ma_txb.getD 3 []).getD l2.toNatClampNeg 0 &&& 255).toUInt32 % 65536).toInt32)
        refine zd (fun h17 => ?_) (fun h17 => ?_)
        · skip
          have g18 := i_eq h17
          first | have e19 : (l2 + (1 : Int32)).toInt = l2.toInt + (1) := i_addk rfl (by omega) (by omega) | have b20 := i_bd (l2 + (1 : Int32))
          exact IH _ (by omega) _ ((l2 + (1 : Int32))) rfl hI (by omega)
        · skip
          have g21 := i_ne h17
          have li22 : (0 : Int32).toInt = 0 := rfl
          exact K ((0 : Int32)) _ hI (by decide)
theorem sp_131_64_3 {X : Nat × (Nat → Int32)} {d w : Nat} {f : Nat → Nat → Int32} {r : Nat → Nat → Option Nat} {C Z N : Nat} {Q : Option ma_V ⊕ Nat → ma_S → Prop} {S : ma_S}  (hd : 5 ≤ d) (hw : 100 ≤ w) (hI : zX f r C Z N S)  (K : ∀ v S', zX f r C Z N S' → (v = 0 ∨ v = 1) → Q (.inl (some (.inl v))) S') : ma_wp X d w 131 0 [(0, .inr (.inr (some 64))), (1, .inr (.inr (some 3)))] [] S Q := by
  refine g_131_64_3_0  (by omega) (by omega) (zG_T hI) ?_
  have f1 := zG_s hI (0) (100) (c := 64) (k := 3) (by decide)
  have f2 := zG_s hI (0) (100) (c := 64) (k := 2) (by decide)
  first | have e3 : ((mI S 64 3) - (mI S 64 2)).toInt = (mI S 64 3).toInt - (mI S 64 2).toInt := i_sub (by omega) (by omega) | have b4 := i_bd ((mI S 64 3) - (mI S 64 2))
  have li5 : (4 : Int32).toInt = 4 := rfl
  refine zd (fun h6 => ?_) (fun h6 => ?_)
  · skip
    have g7 := i_eq h6
    have li8 : (0 : Int32).toInt = 0 := rfl
    exact lp_131_64_3_20 (by omega) (by omega) K _ _ ((0 : Int32)) rfl hI (by omega)
  · skip
    have g9 := i_ne h6
    have li10 : (0 : Int32).toInt = 0 := rfl
    exact K ((0 : Int32)) _ hI (by decide)
