/-! the class behind (written by wip/tools/gen95c.py) -/
theorem g_134_64_0 {X : Nat × (Nat → Int32)} {d w : Nat} {S : ma_S} {Q : Option ma_V ⊕ Nat → ma_S → Prop} (a : Int32) (b : Int32) (hd : 0 ≤ d) (hw : 0 ≤ w) (hS : zT S) (h : if (mI S 64 3) = (mI S 64 2) then (Q (.inl (some (.inl (-1 : Int32)))) S) else (if ((mI S 64 3) - (mI S 64 2)) ≤ (5 : Int32) then (ma_wp X d w 134 34 [(0, .inr (.inr (some 64))), (1, .inl a), (2, .inl b), (3, .inl (0 : Int32)), (4, .inl (mI S 64 2))] [] S Q) else (Q (.inl (some (.inl (-1 : Int32)))) S))) : ma_wp X d w 134 0 [(0, .inr (.inr (some 64))), (1, .inl a), (2, .inl b)] [] S Q := by
  refine zw_push hm_134 dX11_numberToken_0 (v := .inr (.inr (some 64))) rfl ?_
  refine zw_gf hm_134 dX11_numberToken_1 (v := .inl (mI S 64 3)) (zT_is hS s_64) (zT_t hS s_64) rfl f_11_275_11 rfl ?_
  refine zw_push hm_134 dX11_numberToken_4 (v := .inr (.inr (some 64))) rfl ?_
  refine zw_gf hm_134 dX11_numberToken_5 (v := .inl (mI S 64 2)) (zT_is hS s_64) (zT_t hS s_64) rfl f_11_92_11 rfl ?_
  refine zw_if2 hm_134 dX11_numberToken_8 (t := 24) rfl zc2_eq ?_ ?_
  · intro hc
    rw [if_pos hc] at h
    refine zw_push hm_134 dX11_numberToken_24 (v := .inl (-1 : Int32)) rfl ?_
    exact zw_iret hm_134 dX11_numberToken_25 h
  · intro hc
    rw [if_neg hc] at h
    refine zw_push hm_134 dX11_numberToken_11 (v := .inr (.inr (some 64))) rfl ?_
    refine zw_gf hm_134 dX11_numberToken_12 (v := .inl (mI S 64 3)) (zT_is hS s_64) (zT_t hS s_64) rfl f_11_275_11 rfl ?_
    refine zw_push hm_134 dX11_numberToken_15 (v := .inr (.inr (some 64))) rfl ?_
    refine zw_gf hm_134 dX11_numberToken_16 (v := .inl (mI S 64 2)) (zT_is hS s_64) (zT_t hS s_64) rfl f_11_92_11 rfl ?_
    refine zw_stk hm_134 dX11_numberToken_19 (st' := [.inl ((mI S 64 3) - (mI S 64 2))]) rfl rfl ?_
    refine zw_push hm_134 dX11_numberToken_20 (v := .inl (5 : Int32)) rfl ?_
    refine zw_if2 hm_134 dX11_numberToken_21 (t := 26) rfl zc2_le ?_ ?_
    · intro hc
      rw [if_pos hc] at h
      refine zw_push hm_134 dX11_numberToken_26 (v := .inl (0 : Int32)) rfl ?_
      refine zw_sto hm_134 dX11_numberToken_27 [(3, .inl (0 : Int32)), (0, .inr (.inr (some 64))), (1, .inl a), (2, .inl b)] rfl rfl rfl ?_
      refine zw_push hm_134 dX11_numberToken_28 (v := .inr (.inr (some 64))) rfl ?_
      refine zw_gf hm_134 dX11_numberToken_29 (v := .inl (mI S 64 2)) (zT_is hS s_64) (zT_t hS s_64) rfl f_11_92_11 rfl ?_
      refine zw_sto hm_134 dX11_numberToken_32 [(4, .inl (mI S 64 2)), (3, .inl (0 : Int32)), (0, .inr (.inr (some 64))), (1, .inl a), (2, .inl b)] rfl rfl rfl ?_
      exact zw_sub (ma_nd_of (ks := [0, 1, 2, 3, 4]) rfl (by decide)) (ma_nd_of (ks := [4, 3, 0, 1, 2]) rfl (by decide)) (ma_le_cons rfl (ma_le_cons rfl (ma_le_cons rfl (ma_le_cons rfl (ma_le_cons rfl (ma_le_nil _)))))) h
    · intro hc
      rw [if_neg hc] at h
      refine zw_push hm_134 dX11_numberToken_24 (v := .inl (-1 : Int32)) rfl ?_
      exact zw_iret hm_134 dX11_numberToken_25 h
theorem g_134_64_34 {X : Nat × (Nat → Int32)} {d w : Nat} {S : ma_S} {Q : Option ma_V ⊕ Nat → ma_S → Prop} (l1 : Int32) (l2 : Int32) (l3 : Int32) (l4 : Int32) (hd : 0 ≤ d) (hw : 0 ≤ w) (hS : zT S) (h : if (mI S 64 3) ≤ l4 then (if l3 < l1 then (Q (.inl (some (.inl (-1 : Int32)))) S) else (if l2 < l3 then (Q (.inl (some (.inl (-1 : Int32)))) S) else (Q (.inl (some (.inl l3))) S))) else (if (100 : Int32) ≤ l4 then (if l3 < l1 then (Q (.inl (some (.inl (-1 : Int32)))) S) else (if l2 < l3 then (Q (.inl (some (.inl (-1 : Int32)))) S) else (Q (.inl (some (.inl l3))) S))) else ((0 ≤ l4 ∧ l4.toNatClampNeg < 100) ∧ (if ((mI S 65 l4.toNatClampNeg) - (48 : Int32)) < 0 then (Q (.inl (some (.inl (-1 : Int32)))) S) else (if ((mI S 65 l4.toNatClampNeg) - (48 : Int32)) ≤ (9 : Int32) then (ma_wp X d w 134 34 [(0, .inr (.inr (some 64))), (1, .inl l1), (2, .inl l2), (3, .inl ((l3 * (10 : Int32)) + ((mI S 65 l4.toNatClampNeg) - (48 : Int32)))), (4, .inl (l4 + (1 : Int32)))] [] S Q) else (Q (.inl (some (.inl (-1 : Int32)))) S)))))) : ma_wp X d w 134 34 [(0, .inr (.inr (some 64))), (1, .inl l1), (2, .inl l2), (3, .inl l3), (4, .inl l4)] [] S Q := by
  refine zw_push hm_134 dX11_numberToken_34 (v := .inl l4) rfl ?_
  refine zw_push hm_134 dX11_numberToken_36 (v := .inr (.inr (some 64))) rfl ?_
  refine zw_gf hm_134 dX11_numberToken_37 (v := .inl (mI S 64 3)) (zT_is hS s_64) (zT_t hS s_64) rfl f_11_275_11 rfl ?_
  refine zw_if2 hm_134 dX11_numberToken_40 (t := 90) rfl zc2_ge ?_ ?_
  · intro hc
    rw [if_pos hc] at h
    refine zw_push hm_134 dX11_numberToken_90 (v := .inl l3) rfl ?_
    refine zw_push hm_134 dX11_numberToken_91 (v := .inl l1) rfl ?_
    refine zw_if2 hm_134 dX11_numberToken_92 (t := 104) rfl zc2_lt ?_ ?_
    · intro hc
      rw [if_pos hc] at h
      refine zw_push hm_134 dX11_numberToken_104 (v := .inl (-1 : Int32)) rfl ?_
      exact zw_iret hm_134 dX11_numberToken_105 h
    · intro hc
      rw [if_neg hc] at h
      refine zw_push hm_134 dX11_numberToken_95 (v := .inl l3) rfl ?_
      refine zw_push hm_134 dX11_numberToken_96 (v := .inl l2) rfl ?_
      refine zw_if2 hm_134 dX11_numberToken_97 (t := 104) rfl zc2_gt ?_ ?_
      · intro hc
        rw [if_pos hc] at h
        refine zw_push hm_134 dX11_numberToken_104 (v := .inl (-1 : Int32)) rfl ?_
        exact zw_iret hm_134 dX11_numberToken_105 h
      · intro hc
        rw [if_neg hc] at h
        refine zw_push hm_134 dX11_numberToken_100 (v := .inl l3) rfl ?_
        refine zw_goto hm_134 dX11_numberToken_101 (t := 105) rfl ?_
        exact zw_iret hm_134 dX11_numberToken_105 h
  · intro hc
    rw [if_neg hc] at h
    refine zw_push hm_134 dX11_numberToken_43 (v := .inl l4) rfl ?_
    refine zw_push hm_134 dX11_numberToken_45 (v := .inl (100 : Int32)) rfl ?_
    refine zw_if2 hm_134 dX11_numberToken_47 (t := 90) rfl zc2_ge ?_ ?_
    · intro hc
      rw [if_pos hc] at h
      refine zw_push hm_134 dX11_numberToken_90 (v := .inl l3) rfl ?_
      refine zw_push hm_134 dX11_numberToken_91 (v := .inl l1) rfl ?_
      refine zw_if2 hm_134 dX11_numberToken_92 (t := 104) rfl zc2_lt ?_ ?_
      · intro hc
        rw [if_pos hc] at h
        refine zw_push hm_134 dX11_numberToken_104 (v := .inl (-1 : Int32)) rfl ?_
        exact zw_iret hm_134 dX11_numberToken_105 h
      · intro hc
        rw [if_neg hc] at h
        refine zw_push hm_134 dX11_numberToken_95 (v := .inl l3) rfl ?_
        refine zw_push hm_134 dX11_numberToken_96 (v := .inl l2) rfl ?_
        refine zw_if2 hm_134 dX11_numberToken_97 (t := 104) rfl zc2_gt ?_ ?_
        · intro hc
          rw [if_pos hc] at h
          refine zw_push hm_134 dX11_numberToken_104 (v := .inl (-1 : Int32)) rfl ?_
          exact zw_iret hm_134 dX11_numberToken_105 h
        · intro hc
          rw [if_neg hc] at h
          refine zw_push hm_134 dX11_numberToken_100 (v := .inl l3) rfl ?_
          refine zw_goto hm_134 dX11_numberToken_101 (t := 105) rfl ?_
          exact zw_iret hm_134 dX11_numberToken_105 h
    · intro hc
      rw [if_neg hc] at h
      refine zw_push hm_134 dX11_numberToken_50 (v := .inr (.inr (some 64))) rfl ?_
      refine zw_gf hm_134 dX11_numberToken_51 (v := .inr (.inr (some 65))) (zT_is hS s_64) (zT_t hS s_64) rfl f_11_9_11 (zT_f hS r_64_0) ?_
      refine zw_push hm_134 dX11_numberToken_54 (v := .inl l4) rfl ?_
      obtain ⟨hg, h⟩ := h
      refine zw_ba hm_134 dX11_numberToken_56 (zT_is hS s_65) (zT_h hS s_65) rfl rfl hg ?_
      show ma_wp X d w 134 57 [(0, .inr (.inr (some 64))), (1, .inl l1), (2, .inl l2), (3, .inl l3), (4, .inl l4)] [.inl (mI S 65 l4.toNatClampNeg)] S _
      refine zw_push hm_134 dX11_numberToken_57 (v := .inl (48 : Int32)) rfl ?_
      refine zw_stk hm_134 dX11_numberToken_59 (st' := [.inl ((mI S 65 l4.toNatClampNeg) - (48 : Int32))]) rfl rfl ?_
      refine zw_sto hm_134 dX11_numberToken_60 [(5, .inl ((mI S 65 l4.toNatClampNeg) - (48 : Int32))), (0, .inr (.inr (some 64))), (1, .inl l1), (2, .inl l2), (3, .inl l3), (4, .inl l4)] rfl rfl rfl ?_
      refine zw_push hm_134 dX11_numberToken_62 (v := .inl ((mI S 65 l4.toNatClampNeg) - (48 : Int32))) rfl ?_
      refine zw_if0 hm_134 dX11_numberToken_64 (t := 74) rfl zc0_lt ?_ ?_
      · intro hc
        rw [if_pos hc] at h
        refine zw_push hm_134 dX11_numberToken_74 (v := .inl (-1 : Int32)) rfl ?_
        exact zw_iret hm_134 dX11_numberToken_75 h
      · intro hc
        rw [if_neg hc] at h
        refine zw_push hm_134 dX11_numberToken_67 (v := .inl ((mI S 65 l4.toNatClampNeg) - (48 : Int32))) rfl ?_
        refine zw_push hm_134 dX11_numberToken_69 (v := .inl (9 : Int32)) rfl ?_
        refine zw_if2 hm_134 dX11_numberToken_71 (t := 76) rfl zc2_le ?_ ?_
        · intro hc
          rw [if_pos hc] at h
          refine zw_push hm_134 dX11_numberToken_76 (v := .inl l3) rfl ?_
          refine zw_push hm_134 dX11_numberToken_77 (v := .inl (10 : Int32)) rfl ?_
          refine zw_stk hm_134 dX11_numberToken_79 (st' := [.inl (l3 * (10 : Int32))]) rfl rfl ?_
          refine zw_push hm_134 dX11_numberToken_80 (v := .inl ((mI S 65 l4.toNatClampNeg) - (48 : Int32))) rfl ?_
          refine zw_stk hm_134 dX11_numberToken_82 (st' := [.inl ((l3 * (10 : Int32)) + ((mI S 65 l4.toNatClampNeg) - (48 : Int32)))]) rfl rfl ?_
          refine zw_sto hm_134 dX11_numberToken_83 [(3, .inl ((l3 * (10 : Int32)) + ((mI S 65 l4.toNatClampNeg) - (48 : Int32)))), (5, .inl ((mI S 65 l4.toNatClampNeg) - (48 : Int32))), (0, .inr (.inr (some 64))), (1, .inl l1), (2, .inl l2), (4, .inl l4)] rfl rfl rfl ?_
          refine zw_sto hm_134 dX11_numberToken_84 [(4, .inl (l4 + (1 : Int32))), (3, .inl ((l3 * (10 : Int32)) + ((mI S 65 l4.toNatClampNeg) - (48 : Int32)))), (5, .inl ((mI S 65 l4.toNatClampNeg) - (48 : Int32))), (0, .inr (.inr (some 64))), (1, .inl l1), (2, .inl l2)] rfl rfl rfl ?_
          refine zw_goto hm_134 dX11_numberToken_87 (t := 34) rfl ?_
          exact zw_sub (ma_nd_of (ks := [0, 1, 2, 3, 4]) rfl (by decide)) (ma_nd_of (ks := [4, 3, 5, 0, 1, 2]) rfl (by decide)) (ma_le_cons rfl (ma_le_cons rfl (ma_le_cons rfl (ma_le_cons rfl (ma_le_cons rfl (ma_le_nil _)))))) h
        · intro hc
          rw [if_neg hc] at h
          refine zw_push hm_134 dX11_numberToken_74 (v := .inl (-1 : Int32)) rfl ?_
          exact zw_iret hm_134 dX11_numberToken_75 h
theorem lp_134_64_34 {X : Nat × (Nat → Int32)} {d w : Nat} {f : Nat → Nat → Int32} {r : Nat → Nat → Option Nat} {C Z N : Nat} {Q : Option ma_V ⊕ Nat → ma_S → Prop} {a : Int32} {b : Int32} (hd : 0 ≤ d) (hw : 0 ≤ w) (K : ∀ v S', zX f r C Z N S' → (v.toInt = -1 ∨ (a.toInt ≤ v.toInt ∧ v.toInt ≤ b.toInt)) → Q (.inl (some (.inl v))) S') : ∀ (n : Nat) (S : ma_S) (l1 : Int32) (l2 : Int32) (l3 : Int32) (l4 : Int32), (100 - l4.toInt).toNat = n → zX f r C Z N S → (0 ≤ l4.toInt) → (l1.toInt = a.toInt) → (l2.toInt = b.toInt) → ma_wp X d w 134 34 [(0, .inr (.inr (some 64))), (1, .inl l1), (2, .inl l2), (3, .inl l3), (4, .inl l4)] [] S Q := by
  intro n
  induction n using Nat.strongRecOn with
  | _ n IH =>
    intro S l1 l2 l3 l4 hmu hI  hi0 hi1 hi2
    refine g_134_64_34 l1 l2 l3 l4 (by omega) (by omega) (zG_T hI) ?_
    have f1 := zG_s hI (0) (100) (c := 64) (k := 3) (by decide)
    have b2 := i_bd l4
    refine zd (fun h3 => ?_) (fun h3 => ?_)
    · skip
      have g4 := i_le h3
      have b5 := i_bd l3
      have b6 := i_bd l1
      refine zd (fun h7 => ?_) (fun h7 => ?_)
      · skip
        have g8 := i_lt h7
        have li9 : (-1 : Int32).toInt = -1 := rfl
        exact K ((-1 : Int32)) _ hI (by omega)
      · skip
        have g10 := i_nlt h7
        have b11 := i_bd l2
        refine zd (fun h12 => ?_) (fun h12 => ?_)
        · skip
          have g13 := i_lt h12
          have li14 : (-1 : Int32).toInt = -1 := rfl
          exact K ((-1 : Int32)) _ hI (by omega)
        · skip
          have g15 := i_nlt h12
          exact K (l3) _ hI (by omega)
    · skip
      have g16 := i_nle h3
      have li17 : (100 : Int32).toInt = 100 := rfl
      refine zd (fun h18 => ?_) (fun h18 => ?_)
      · skip
        have g19 := i_le h18
        have b20 := i_bd l3
        have b21 := i_bd l1
        refine zd (fun h22 => ?_) (fun h22 => ?_)
        · skip
          have g23 := i_lt h22
          have li24 : (-1 : Int32).toInt = -1 := rfl
          exact K ((-1 : Int32)) _ hI (by omega)
        · skip
          have g25 := i_nlt h22
          have b26 := i_bd l2
          refine zd (fun h27 => ?_) (fun h27 => ?_)
          · skip
            have g28 := i_lt h27
            have li29 : (-1 : Int32).toInt = -1 := rfl
            exact K ((-1 : Int32)) _ hI (by omega)
          · skip
            have g30 := i_nlt h27
            exact K (l3) _ hI (by omega)
      · skip
        have g31 := i_nle h18
        refine ⟨i_ix (by omega) (by omega), ?_⟩
        have b32 := i_bd (mI S 65 l4.toNatClampNeg)
        first | have e33 : ((mI S 65 l4.toNatClampNeg) - (48 : Int32)).toInt = (mI S 65 l4.toNatClampNeg).toInt - (48) := i_subk rfl (by omega) (by omega) | have b34 := i_bd ((mI S 65 l4.toNatClampNeg) - (48 : Int32))
        have li35 : (0 : Int32).toInt = 0 := rfl
        refine zd (fun h36 => ?_) (fun h36 => ?_)
        · skip
          have g37 := i_lt h36
          have li38 : (-1 : Int32).toInt = -1 := rfl
          exact K ((-1 : Int32)) _ hI (by omega)
        · skip
          have g39 := i_nlt h36
          have li40 : (9 : Int32).toInt = 9 := rfl
          refine zd (fun h41 => ?_) (fun h41 => ?_)
          · skip
            have g42 := i_le h41
            have b43 := i_bd l1
            have b44 := i_bd l2
            have b45 := i_bd l3
            have li46 : (10 : Int32).toInt = 10 := rfl
            first | have f47 := i_muln (x := l3) (y := (10 : Int32)) (by omega) (by omega) (by omega) (by omega) | have b48 := i_bd (l3 * (10 : Int32))
            first | have e49 : ((l3 * (10 : Int32)) + ((mI S 65 l4.toNatClampNeg) - (48 : Int32))).toInt = (l3 * (10 : Int32)).toInt + ((mI S 65 l4.toNatClampNeg) - (48 : Int32)).toInt := i_add (by omega) (by omega) | have b50 := i_bd ((l3 * (10 : Int32)) + ((mI S 65 l4.toNatClampNeg) - (48 : Int32)))
            first | have e51 : (l4 + (1 : Int32)).toInt = l4.toInt + (1) := i_addk rfl (by omega) (by omega) | have b52 := i_bd (l4 + (1 : Int32))
            exact IH _ (by omega) _ (l1) (l2) (((l3 * (10 : Int32)) + ((mI S 65 l4.toNatClampNeg) - (48 : Int32)))) ((l4 + (1 : Int32))) rfl hI (by omega) (by omega) (by omega)
          · skip
            have g53 := i_nle h41
            have li54 : (-1 : Int32).toInt = -1 := rfl
            exact K ((-1 : Int32)) _ hI (by omega)
theorem sp_134_64 {X : Nat × (Nat → Int32)} {d w : Nat} {f : Nat → Nat → Int32} {r : Nat → Nat → Option Nat} {C Z N : Nat} {Q : Option ma_V ⊕ Nat → ma_S → Prop} {S : ma_S} (a : Int32) (b : Int32) (hd : 0 ≤ d) (hw : 0 ≤ w) (hI : zX f r C Z N S)  (K : ∀ v S', zX f r C Z N S' → (v.toInt = -1 ∨ (a.toInt ≤ v.toInt ∧ v.toInt ≤ b.toInt)) → Q (.inl (some (.inl v))) S') : ma_wp X d w 134 0 [(0, .inr (.inr (some 64))), (1, .inl a), (2, .inl b)] [] S Q := by
  refine g_134_64_0 a b (by omega) (by omega) (zG_T hI) ?_
  have f1 := zG_s hI (0) (100) (c := 64) (k := 3) (by decide)
  have f2 := zG_s hI (0) (100) (c := 64) (k := 2) (by decide)
  refine zd (fun h3 => ?_) (fun h3 => ?_)
  · skip
    have g4 := i_eq h3
    have li5 : (-1 : Int32).toInt = -1 := rfl
    exact K ((-1 : Int32)) _ hI (by omega)
  · skip
    have g6 := i_ne h3
    first | have e7 : ((mI S 64 3) - (mI S 64 2)).toInt = (mI S 64 3).toInt - (mI S 64 2).toInt := i_sub (by omega) (by omega) | have b8 := i_bd ((mI S 64 3) - (mI S 64 2))
    have li9 : (5 : Int32).toInt = 5 := rfl
    refine zd (fun h10 => ?_) (fun h10 => ?_)
    · skip
      have g11 := i_le h10
      have b12 := i_bd a
      have b13 := i_bd b
      have li14 : (0 : Int32).toInt = 0 := rfl
      exact lp_134_64_34 (by omega) (by omega) K _ _ (a) (b) ((0 : Int32)) ((mI S 64 2)) rfl hI (by omega) (by omega) (by omega)
    · skip
      have g15 := i_nle h10
      have li16 : (-1 : Int32).toInt = -1 := rfl
      exact K ((-1 : Int32)) _ hI (by omega)
