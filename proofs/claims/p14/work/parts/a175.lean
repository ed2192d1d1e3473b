/-! from 95.m22 -/
/-! COUNTS, the class (written by wip/tools/gen20k.py) -/
theorem sh_al {a : Nat → Nat → Int32} {n k : Nat} {x : Int32} {e : Int} : xAl (zSh (ma_u a 69 k x) e) n ↔ xAl a n := by
  unfold xAl
  rw [show zSh (ma_u a 69 k x) e 126 n = a 126 n from by
    show (if 126 = 74 ∧ _ then _ else ma_u a 69 k x 126 n) = _
    rw [if_neg (by omega), xu_o (by omega)]]
theorem g_98_69_sk_0 {X : Nat × (Nat → Int32)} {d w : Nat} {S : ma_S} {Q : Option ma_V ⊕ Nat → ma_S → Prop}  (hd : 1 ≤ d) (hw : 21 ≤ w) (hS : zT S) (h : if 0 < (mI S 69 5) then (if (mI S 74 0) < 0 then (ma_wp X d w 98 32 [(0, .inr (.inr (some 69))), (1, .inr (.inr none)), (2, .inl (0 : Int32))] [] (ma_put S 69 5 (.inl ((mI S 69 5) - (1 : Int32)))) Q) else (if (512 : Int32) ≤ (mI S 74 0) then (ma_wp X d w 98 32 [(0, .inr (.inr (some 69))), (1, .inr (.inr none)), (2, .inl (0 : Int32))] [] (ma_put S 69 5 (.inl ((mI S 69 5) - (1 : Int32)))) Q) else ((0 ≤ (mI S 74 0) ∧ (mI S 74 0).toNatClampNeg < 512) ∧ (ma_wp X d w 98 32 [(0, .inr (.inr (some 69))), (1, .inr (.inr (mR S 70 (mI S 74 0).toNatClampNeg))), (2, .inl (0 : Int32))] [] (ma_put S 69 5 (.inl ((mI S 69 5) - (1 : Int32)))) Q)))) else (Q (.inl (some (.inr (.inr none)))) S)) : ma_wp X d w 98 0 [(0, .inr (.inr (some 69)))] [] S Q := by
  refine zw_push hm_98 dX7_takeWish_0 (v := .inr (.inr (some 69))) rfl ?_
  refine zw_gf hm_98 dX7_takeWish_1 (v := .inl (mI S 69 5)) (zT_is hS s_69) (zT_t hS s_69) rfl f_7_36_7 rfl ?_
  refine zw_if0 hm_98 dX7_takeWish_4 (t := 9) rfl zc0_gt ?_ ?_
  · intro hc
    rw [if_pos hc] at h
    refine zw_push hm_98 dX7_takeWish_9 (v := .inr (.inr (some 69))) rfl ?_
    refine zw_push hm_98 dX7_takeWish_10 (v := .inr (.inr (some 69))) rfl ?_
    refine zw_gf hm_98 dX7_takeWish_11 (v := .inr (.inr (some 74))) (zT_is hS s_69) (zT_t hS s_69) rfl f_7_27_7 (zT_f hS r_69_4) ?_
    refine zw_push hm_98 dX7_takeWish_14 (v := .inl (0 : Int32)) rfl ?_
    refine zw_ia hm_98 dX7_takeWish_15 (zT_is hS s_74) (zT_h hS s_74) rfl ⟨by decide, by decide⟩ ?_
    show ma_wp X d w 98 16 [(0, .inr (.inr (some 69)))] [.inl (mI S 74 0), .inr (.inr (some 69))] S _
    refine zw_cv hm_98 dX7_takeWish_16 v_7_94_7 hm_81 [.inl (mI S 74 0)] [] rfl (zT_rt hS s_69 rfl) ⟨by omega, by omega⟩ rfl ?_
    show ma_wp X (d - 1) (w - 21) 81 0 [(0, .inr (.inr (some 69))), (1, .inl (mI S 74 0))] [] S _
    refine zw_push hm_81 dX7_thingAt_0 (v := .inl (mI S 74 0)) rfl ?_
    refine zw_if0 hm_81 dX7_thingAt_1 (t := 20) rfl zc0_lt ?_ ?_
    · intro hc
      rw [if_pos hc] at h
      refine zw_push hm_81 dX7_thingAt_20 (v := .inr (.inr none)) rfl ?_
      refine zw_aret hm_81 dX7_thingAt_21 ?_
      show ma_wp X d w 98 19 [(0, .inr (.inr (some 69)))] [.inr (.inr none)] S _
      refine zw_sto hm_98 dX7_takeWish_19 [(1, .inr (.inr none)), (0, .inr (.inr (some 69)))] rfl rfl rfl ?_
      refine zw_push hm_98 dX7_takeWish_20 (v := .inr (.inr (some 69))) rfl ?_
      refine zw_stk hm_98 dX7_takeWish_21 (st₉ := [.inr (.inr (some 69)), .inr (.inr (some 69))]) rfl rfl ?_
      refine zw_gf hm_98 dX7_takeWish_22 (v := .inl (mI S 69 5)) (zT_is hS s_69) (zT_t hS s_69) rfl f_7_36_7 rfl ?_
      refine zw_push hm_98 dX7_takeWish_25 (v := .inl (1 : Int32)) rfl ?_
      refine zw_stk hm_98 dX7_takeWish_26 (st₉ := [.inl ((mI S 69 5) - (1 : Int32)), .inr (.inr (some 69))]) rfl rfl ?_
      refine zw_pf hm_98 dX7_takeWish_27 (zT_is hS s_69) (zT_t hS s_69) p_7_36_7 zk_int ?_
      refine zw_push hm_98 dX7_takeWish_30 (v := .inl (0 : Int32)) rfl ?_
      refine zw_sto hm_98 dX7_takeWish_31 [(2, .inl (0 : Int32)), (1, .inr (.inr none)), (0, .inr (.inr (some 69)))] rfl rfl rfl ?_
      exact zw_sub (ma_nd_of (ks := [0, 1, 2]) rfl (by decide)) (ma_nd_of (ks := [2, 1, 0]) rfl (by decide)) (ma_le_cons rfl (ma_le_cons rfl (ma_le_cons rfl (ma_le_nil _)))) h
    · intro hc
      rw [if_neg hc] at h
      refine zw_push hm_81 dX7_thingAt_4 (v := .inl (mI S 74 0)) rfl ?_
      refine zw_push hm_81 dX7_thingAt_5 (v := .inl (512 : Int32)) rfl ?_
      refine zw_if2 hm_81 dX7_thingAt_8 (t := 20) rfl zc2_ge ?_ ?_
      · intro hc
        rw [if_pos hc] at h
        refine zw_push hm_81 dX7_thingAt_20 (v := .inr (.inr none)) rfl ?_
        refine zw_aret hm_81 dX7_thingAt_21 ?_
        show ma_wp X d w 98 19 [(0, .inr (.inr (some 69)))] [.inr (.inr none)] S _
        refine zw_sto hm_98 dX7_takeWish_19 [(1, .inr (.inr none)), (0, .inr (.inr (some 69)))] rfl rfl rfl ?_
        refine zw_push hm_98 dX7_takeWish_20 (v := .inr (.inr (some 69))) rfl ?_
        refine zw_stk hm_98 dX7_takeWish_21 (st₉ := [.inr (.inr (some 69)), .inr (.inr (some 69))]) rfl rfl ?_
        refine zw_gf hm_98 dX7_takeWish_22 (v := .inl (mI S 69 5)) (zT_is hS s_69) (zT_t hS s_69) rfl f_7_36_7 rfl ?_
        refine zw_push hm_98 dX7_takeWish_25 (v := .inl (1 : Int32)) rfl ?_
        refine zw_stk hm_98 dX7_takeWish_26 (st₉ := [.inl ((mI S 69 5) - (1 : Int32)), .inr (.inr (some 69))]) rfl rfl ?_
        refine zw_pf hm_98 dX7_takeWish_27 (zT_is hS s_69) (zT_t hS s_69) p_7_36_7 zk_int ?_
        refine zw_push hm_98 dX7_takeWish_30 (v := .inl (0 : Int32)) rfl ?_
        refine zw_sto hm_98 dX7_takeWish_31 [(2, .inl (0 : Int32)), (1, .inr (.inr none)), (0, .inr (.inr (some 69)))] rfl rfl rfl ?_
        exact zw_sub (ma_nd_of (ks := [0, 1, 2]) rfl (by decide)) (ma_nd_of (ks := [2, 1, 0]) rfl (by decide)) (ma_le_cons rfl (ma_le_cons rfl (ma_le_cons rfl (ma_le_nil _)))) h
      · intro hc
        rw [if_neg hc] at h
        refine zw_push hm_81 dX7_thingAt_11 (v := .inr (.inr (some 69))) rfl ?_
        refine zw_gf hm_81 dX7_thingAt_12 (v := .inr (.inr (some 70))) (zT_is hS s_69) (zT_t hS s_69) rfl f_7_11_7 (zT_f hS r_69_0) ?_
        refine zw_push hm_81 dX7_thingAt_15 (v := .inl (mI S 74 0)) rfl ?_
        obtain ⟨hg, h⟩ := h
        refine zw_aa hm_81 dX7_thingAt_16 (zT_is hS s_70) (zT_h hS s_70) rfl rfl hg rfl ?_
        show ma_wp X (d - 1) (w - 21) 81 17 [(0, .inr (.inr (some 69))), (1, .inl (mI S 74 0))] [.inr (.inr (mR S 70 (mI S 74 0).toNatClampNeg))] S _
        refine zw_goto hm_81 dX7_thingAt_17 (t := 21) rfl ?_
        refine zw_aret hm_81 dX7_thingAt_21 ?_
        show ma_wp X d w 98 19 [(0, .inr (.inr (some 69)))] [.inr (.inr (mR S 70 (mI S 74 0).toNatClampNeg))] S _
        refine zw_sto hm_98 dX7_takeWish_19 [(1, .inr (.inr (mR S 70 (mI S 74 0).toNatClampNeg))), (0, .inr (.inr (some 69)))] rfl rfl rfl ?_
        refine zw_push hm_98 dX7_takeWish_20 (v := .inr (.inr (some 69))) rfl ?_
        refine zw_stk hm_98 dX7_takeWish_21 (st₉ := [.inr (.inr (some 69)), .inr (.inr (some 69))]) rfl rfl ?_
        refine zw_gf hm_98 dX7_takeWish_22 (v := .inl (mI S 69 5)) (zT_is hS s_69) (zT_t hS s_69) rfl f_7_36_7 rfl ?_
        refine zw_push hm_98 dX7_takeWish_25 (v := .inl (1 : Int32)) rfl ?_
        refine zw_stk hm_98 dX7_takeWish_26 (st₉ := [.inl ((mI S 69 5) - (1 : Int32)), .inr (.inr (some 69))]) rfl rfl ?_
        refine zw_pf hm_98 dX7_takeWish_27 (zT_is hS s_69) (zT_t hS s_69) p_7_36_7 zk_int ?_
        refine zw_push hm_98 dX7_takeWish_30 (v := .inl (0 : Int32)) rfl ?_
        refine zw_sto hm_98 dX7_takeWish_31 [(2, .inl (0 : Int32)), (1, .inr (.inr (mR S 70 (mI S 74 0).toNatClampNeg))), (0, .inr (.inr (some 69)))] rfl rfl rfl ?_
        exact zw_sub (ma_nd_of (ks := [0, 1, 2]) rfl (by decide)) (ma_nd_of (ks := [2, 1, 0]) rfl (by decide)) (ma_le_cons rfl (ma_le_cons rfl (ma_le_cons rfl (ma_le_nil _)))) h
  · intro hc
    rw [if_neg hc] at h
    refine zw_push hm_98 dX7_takeWish_7 (v := .inr (.inr none)) rfl ?_
    exact zw_aret hm_98 dX7_takeWish_8 h
theorem g_98_69_sk_32 {X : Nat × (Nat → Int32)} {d w : Nat} {S : ma_S} {Q : Option ma_V ⊕ Nat → ma_S → Prop} (l1 : Option Nat) (l2 : Int32) (hd : 1 ≤ d) (hw : 21 ≤ w) (hS : zT S) (h : if (mI S 69 5) ≤ l2 then ((l1 = none → Q (.inl (some (.inr (.inr none)))) S) ∧ (∀ c1, l1 = some c1 → (126 ≤ c1 ∧ c1 < mN S) ∧ ((126 ≤ c1 ∧ c1 < mN S) ∧ (Q (.inl (some (.inr (.inr (some c1))))) (ma_put S c1 6 (.inl ((mI S c1 6) - (1 : Int32)))))))) else ((0 ≤ (l2 + (1 : Int32)) ∧ (l2 + (1 : Int32)).toNatClampNeg < 512) ∧ ((0 ≤ l2 ∧ l2.toNatClampNeg < 512) ∧ (ma_wp X d w 98 32 [(0, .inr (.inr (some 69))), (1, .inr (.inr l1)), (2, .inl (l2 + (1 : Int32)))] [] (ma_put S 74 l2.toNatClampNeg (.inl (mI S 74 (l2 + (1 : Int32)).toNatClampNeg))) Q)))) : ma_wp X d w 98 32 [(0, .inr (.inr (some 69))), (1, .inr (.inr l1)), (2, .inl l2)] [] S Q := by
  refine zw_push hm_98 dX7_takeWish_32 (v := .inl l2) rfl ?_
  refine zw_push hm_98 dX7_takeWish_33 (v := .inr (.inr (some 69))) rfl ?_
  refine zw_gf hm_98 dX7_takeWish_34 (v := .inl (mI S 69 5)) (zT_is hS s_69) (zT_t hS s_69) rfl f_7_36_7 rfl ?_
  refine zw_if2 hm_98 dX7_takeWish_37 (t := 60) rfl zc2_ge ?_ ?_
  · intro hc
    rw [if_pos hc] at h
    refine zw_push hm_98 dX7_takeWish_60 (v := .inr (.inr l1)) rfl ?_
    refine zw_ifnull hm_98 dX7_takeWish_61 (t := 74) rfl ?_ ?_
    · intro hc
      have h := h.1 hc
      (try rw [hc])
      show ma_wp X d w 98 74 [(0, .inr (.inr (some 69))), (1, .inr (.inr none)), (2, .inl l2)] [] S _
      refine zw_push hm_98 dX7_takeWish_74 (v := .inr (.inr none)) rfl ?_
      exact zw_aret hm_98 dX7_takeWish_75 h
    · intro c1 hc
      have h := h.2 c1 hc
      (try rw [hc])
      show ma_wp X d w 98 64 [(0, .inr (.inr (some 69))), (1, .inr (.inr (some c1))), (2, .inl l2)] [] S _
      refine zw_push hm_98 dX7_takeWish_64 (v := .inr (.inr (some c1))) rfl ?_
      refine zw_stk hm_98 dX7_takeWish_65 (st₉ := [.inr (.inr (some c1)), .inr (.inr (some c1))]) rfl rfl ?_
      obtain ⟨hg, h⟩ := h
      refine zw_gf hm_98 dX7_takeWish_66 (v := .inl (mI S c1 6)) (zT_tis hS hg) (zT_tt hS hg) rfl f_7_98_9 rfl ?_
      refine zw_push hm_98 dX7_takeWish_69 (v := .inl (1 : Int32)) rfl ?_
      refine zw_stk hm_98 dX7_takeWish_70 (st₉ := [.inl ((mI S c1 6) - (1 : Int32)), .inr (.inr (some c1))]) rfl rfl ?_
      obtain ⟨hg, h⟩ := h
      refine zw_pf hm_98 dX7_takeWish_71 (zT_tis hS hg) (zT_tt hS hg) p_7_98_9 zk_int ?_
      refine zw_push hm_98 dX7_takeWish_74 (v := .inr (.inr (some c1))) rfl ?_
      exact zw_aret hm_98 dX7_takeWish_75 h
  · intro hc
    rw [if_neg hc] at h
    refine zw_push hm_98 dX7_takeWish_40 (v := .inr (.inr (some 69))) rfl ?_
    refine zw_gf hm_98 dX7_takeWish_41 (v := .inr (.inr (some 74))) (zT_is hS s_69) (zT_t hS s_69) rfl f_7_27_7 (zT_f hS r_69_4) ?_
    refine zw_push hm_98 dX7_takeWish_44 (v := .inl l2) rfl ?_
    refine zw_push hm_98 dX7_takeWish_45 (v := .inr (.inr (some 69))) rfl ?_
    refine zw_gf hm_98 dX7_takeWish_46 (v := .inr (.inr (some 74))) (zT_is hS s_69) (zT_t hS s_69) rfl f_7_27_7 (zT_f hS r_69_4) ?_
    refine zw_push hm_98 dX7_takeWish_49 (v := .inl l2) rfl ?_
    refine zw_push hm_98 dX7_takeWish_50 (v := .inl (1 : Int32)) rfl ?_
    refine zw_stk hm_98 dX7_takeWish_51 (st₉ := [.inl (l2 + (1 : Int32)), .inr (.inr (some 74)), .inl l2, .inr (.inr (some 74))]) rfl rfl ?_
    obtain ⟨hg, h⟩ := h
    refine zw_ia hm_98 dX7_takeWish_52 (zT_is hS s_74) (zT_h hS s_74) rfl hg ?_
    show ma_wp X d w 98 53 [(0, .inr (.inr (some 69))), (1, .inr (.inr l1)), (2, .inl l2)] [.inl (mI S 74 (l2 + (1 : Int32)).toNatClampNeg), .inl l2, .inr (.inr (some 74))] S _
    obtain ⟨hg, h⟩ := h
    refine zw_ias hm_98 dX7_takeWish_53 (zT_is hS s_74) (zT_h hS s_74) rfl hg ?_
    refine zw_sto hm_98 dX7_takeWish_54 [(2, .inl (l2 + (1 : Int32))), (0, .inr (.inr (some 69))), (1, .inr (.inr l1))] rfl rfl rfl ?_
    refine zw_goto hm_98 dX7_takeWish_57 (t := 32) rfl ?_
    exact zw_sub (ma_nd_of (ks := [0, 1, 2]) rfl (by decide)) (ma_nd_of (ks := [2, 0, 1]) rfl (by decide)) (ma_le_cons rfl (ma_le_cons rfl (ma_le_cons rfl (ma_le_nil _)))) h
theorem lp_98_69_sk_32 {X : Nat × (Nat → Int32)} {d w : Nat} {f : Nat → Nat → Int32} {r : Nat → Nat → Option Nat} {C Z N : Nat} {Q : Option ma_V ⊕ Nat → ma_S → Prop} {ab : Nat→Nat→Int32} {R : zRT} {W : Nat} {kk : Nat→Int32} {n0 : Nat→Nat→Int32} (hd : 1 ≤ d) (hw : 21 ≤ w) (K : ∀ v S₉, zI f r C Z N S₉ → (∀ c, v = some c → 126 ≤ c ∧ c < N) → (xB S₉ R) → (v = zTa R (aTy ab) ∧ aS W S₉ = aTw ab) → (∀ n, xAl ab n → kC S₉ n = kk n - (if 0 < (ab 69 5).toInt then Int32.ofNat (cIs (ab 74 0) n) else 0)) → (zN0 S₉ = n0) → Q (.inl (some (.inr (.inr v)))) S₉) : ∀ (n : Nat) (S : ma_S) (l1 : Option Nat) (l2 : Int32), (512 - l2.toInt).toNat = n → zI f r C Z N S → (∀ c, l1 = some c → 126 ≤ c ∧ c < N) → (0 ≤ l2.toInt) → ((mI S 69 5).toInt ≤ 511) → (l2.toInt ≤ (mI S 69 5).toInt) → (xB S R) → (xW W) → (aS W S = zSh (ma_u ab 69 5 (ab 69 5 - 1)) l2.toInt) → (l1 = zTa R (ab 74 0)) → (0 < (ab 69 5).toInt ∧ (mI S 69 5).toInt = (ab 69 5).toInt - 1) → (kC S = kk) → (zN0 S = n0) → ma_wp X d w 98 32 [(0, .inr (.inr (some 69))), (1, .inr (.inr l1)), (2, .inl l2)] [] S Q := by
  intro n
  induction n using Nat.strongRecOn with
  | _ n IH =>
    intro S l1 l2 hmu hI th_l1 hi0 hi1 hi2 hi3 hi4 hi5 hi6 hi7 hi8 hi9
    refine g_98_69_sk_32 l1 l2 (by omega) (by omega) (zG_T hI) ?_
    have f1 := zG_s hI (0) (512) (c := 69) (k := 5) (by decide)
    have b2 := i_bd l2
    refine zd (fun h3 => ?_) (fun h3 => ?_)
    · skip
      have g4 := i_le h3
      refine ⟨fun hc => ?_, fun c1 hc => ?_⟩
      · skip
        have rn_c1 : zTa R (ab 74 0) = none := hi6.symm.trans hc
        exact K (none) _ hI (fun _ z => by cases z) (show xB S R from by first | (exact (xC_o (W := 75) hi3).2)) (show none = zTa R (aTy ab) ∧ aS W S = aTw ab from by first | (rw [aTy_y hi7.1, aTw_y hi7.1]; refine ⟨rn_c1.symm, (xC_o (W := W) hi3).1.trans ?_⟩; rw [hi5, show l2.toInt = (ab 69 5).toInt - 1 from (by have q := hi7; omega)])) (show ∀ n, xAl ab n → kC S n = kk n - (if 0 < (ab 69 5).toInt then Int32.ofNat (cIs (ab 74 0) n) else 0) from by first | (intro n hn; have tk := hi7; rw [if_pos tk.1]; refine (congrFun (xK_o (W := W) hi3 hi8).2 n).trans ?_; have hn2 : xAl (aS W S) n := (by rw [hi5, sh_al]; exact hn); rw [is_no hi3 rn_c1 hn2]; exact (Int32.sub_zero _).symm)) (show zN0 S = n0 from by first | (exact hi9))
      · skip
        have th_c1 := th_l1 c1 hc
        have rg_c1 : zTa R (ab 74 0) = some c1 := hi6.symm.trans hc
        subst hc
        refine ⟨zG_n hI th_c1, ?_⟩
        refine ⟨zG_n hI th_c1, ?_⟩
        have hI5 : zI f r C Z N (ma_put S c1 6 (.inl ((mI S c1 6) - (1 : Int32)))) := zG_tf hI th_c1.1 zI_t (by decide) (by decide) trivial (by decide) (by decide) (by decide)
        exact K ((some c1)) _ hI5 (fun _ z => by cases z; exact th_c1) (show xB (ma_put S c1 6 (.inl ((mI S c1 6) - (1 : Int32)))) R from by first | (exact (xC_6 (k := 6) (x := ((mI S c1 6) - (1 : Int32))) (xC_o (W := 75) hi3) xW75 th_c1.1 rfl (by decide)).2)) (show (some c1) = zTa R (aTy ab) ∧ aS W (ma_put S c1 6 (.inl ((mI S c1 6) - (1 : Int32)))) = aTw ab from by first | (rw [aTy_y hi7.1, aTw_y hi7.1]; refine ⟨rg_c1.symm, (xC_6 (k := 6) (x := ((mI S c1 6) - (1 : Int32))) (xC_o (W := W) hi3) hi4 th_c1.1 rfl (by decide)).1.trans ?_⟩; rw [hi5, show l2.toInt = (ab 69 5).toInt - 1 from (by have q := hi7; omega)])) (show ∀ n, xAl ab n → kC (ma_put S c1 6 (.inl ((mI S c1 6) - (1 : Int32)))) n = kk n - (if 0 < (ab 69 5).toInt then Int32.ofNat (cIs (ab 74 0) n) else 0) from by first | (intro n hn; have tk := hi7; rw [if_pos tk.1]; refine (congrFun (xK_6 (x := ((mI S c1 6) - (1 : Int32))) (xK_o (W := W) hi3 hi8) hi4 rg_c1 th_c1.1).2 n).trans ?_; have k60 := xK_y (xK_o (W := W) hi3 hi8) rg_c1; rw [k60, KU_2 (zTa_p rg_c1).1 hn.1])) (show zN0 (ma_put S c1 6 (.inl ((mI S c1 6) - (1 : Int32)))) = n0 from by first | (exact ((n0_t (k := 6) (by decide)).trans hi9)))
    · skip
      have g6 := i_nle h3
      first | have e7 : (l2 + (1 : Int32)).toInt = l2.toInt + (1) := i_addk rfl (by omega) (by omega) | have b8 := i_bd (l2 + (1 : Int32))
      refine ⟨i_ix (by omega) (by omega), ?_⟩
      refine ⟨i_ix (by omega) (by omega), ?_⟩
      have hI9 : zI f r C Z N (ma_put S 74 l2.toNatClampNeg (.inl (mI S 74 (l2 + (1 : Int32)).toNatClampNeg))) := zG_fa hI rfl (by decide) (by decide) (by decide) trivial
      exact IH _ (by omega) _ (l1) ((l2 + (1 : Int32))) rfl hI9 th_l1 (by omega) (show (mI S 69 5).toInt ≤ 511 from by omega) (show ((l2 + (1 : Int32))).toInt ≤ (mI S 69 5).toInt from by omega) (show xB (ma_put S 74 l2.toNatClampNeg (.inl (mI S 74 (l2 + (1 : Int32)).toNatClampNeg))) R from by first | (exact (xC_p (c := 74) (k := l2.toNatClampNeg) (x := (mI S 74 (l2 + (1 : Int32)).toNatClampNeg)) (xC_o (W := 75) hi3) 74 xW75 rfl rfl).2)) (show xW W from by first | (exact hi4) | (exact xW88) | (exact xW75)) (show aS W (ma_put S 74 l2.toNatClampNeg (.inl (mI S 74 (l2 + (1 : Int32)).toNatClampNeg))) = zSh (ma_u ab 69 5 (ab 69 5 - 1)) ((l2 + (1 : Int32))).toInt from by first | (refine (xC_p (c := 74) (k := l2.toNatClampNeg) (x := (mI S 74 (l2 + (1 : Int32)).toNatClampNeg)) (xC_o (W := W) hi3) 74 hi4 rfl (zcw_s (by decide))).1.trans ?_; skip; rw [hi5, ← zSh_s (by omega) (by omega)]; refine congrArg (ma_u _ 74 _) ?_; rw [← (aS_I (W := W) (S := S) (c := 74) (c₉ := 74) (k := (l2 + (1 : Int32)).toNatClampNeg) rfl (zcw_s (by decide))), hi5, zSh_r (by omega) (by omega)])) (show l1 = zTa R (ab 74 0) from by first | (exact hi6)) (show 0 < (ab 69 5).toInt ∧ (mI S 69 5).toInt = (ab 69 5).toInt - 1 from by first | (exact hi7)) (show kC (ma_put S 74 l2.toNatClampNeg (.inl (mI S 74 (l2 + (1 : Int32)).toNatClampNeg))) = kk from by first | (exact (xK_p (c := 74) (k := l2.toNatClampNeg) (x := (mI S 74 (l2 + (1 : Int32)).toNatClampNeg)) (xK_o (W := W) hi3 hi8) 74 hi4 rfl (zcw_s (by decide))).2)) (show zN0 (ma_put S 74 l2.toNatClampNeg (.inl (mI S 74 (l2 + (1 : Int32)).toNatClampNeg))) = n0 from by first | (exact ((n0_p (c := 74) (by decide)).trans hi9)))
theorem sp_98_69_sk {X : Nat × (Nat → Int32)} {d w : Nat} {f : Nat → Nat → Int32} {r : Nat → Nat → Option Nat} {C Z N : Nat} {Q : Option ma_V ⊕ Nat → ma_S → Prop} {ab : Nat→Nat→Int32} {R : zRT} {W : Nat} {kk : Nat→Int32} {n0 : Nat→Nat→Int32} {S : ma_S}  (hd : 1 ≤ d) (hw : 21 ≤ w) (hI : zI f r C Z N S) (hpre0 : xB S R) (hpre1 : aS W S = ab) (hpre2 : xW W) (hpre3 : kC S = kk) (hpre4 : zN0 S = n0) (K : ∀ v S₉, zI f r C Z N S₉ → (∀ c, v = some c → 126 ≤ c ∧ c < N) → (xB S₉ R) → (v = zTa R (aTy ab) ∧ aS W S₉ = aTw ab) → (∀ n, xAl ab n → kC S₉ n = kk n - (if 0 < (ab 69 5).toInt then Int32.ofNat (cIs (ab 74 0) n) else 0)) → (zN0 S₉ = n0) → Q (.inl (some (.inr (.inr v)))) S₉) : ma_wp X d w 98 0 [(0, .inr (.inr (some 69)))] [] S Q := by
  refine g_98_69_sk_0  (by omega) (by omega) (zG_T hI) ?_
  have li1 : (0 : Int32).toInt = 0 := rfl
  have f2 := zG_s hI (0) (512) (c := 69) (k := 5) (by decide)
  refine zd (fun h3 => ?_) (fun h3 => ?_)
  · skip
    have g4 := i_lt h3
    have b5 := i_bd (mI S 74 0)
    refine zd (fun h6 => ?_) (fun h6 => ?_)
    · skip
      have g7 := i_lt h6
      first | have e9 : ((mI S 69 5) - (1 : Int32)).toInt = (mI S 69 5).toInt - (1) := i_subk rfl (by omega) (by omega) | have b10 := i_bd ((mI S 69 5) - (1 : Int32))
      have hI8 : zI f r C Z N (ma_put S 69 5 (.inl ((mI S 69 5) - (1 : Int32)))) := zG_sp hI (0) (512) rfl (by decide) (by decide) (by decide) trivial (by omega) (by omega)
      exact lp_98_69_sk_32 (by omega) (by omega) K _ _ (none) ((0 : Int32)) rfl hI8 (fun _ z => by cases z) (by omega) (show ((mI S 69 5) - (1 : Int32)).toInt ≤ 511 from by omega) (show ((0 : Int32)).toInt ≤ ((mI S 69 5) - (1 : Int32)).toInt from by omega) (show xB (ma_put S 69 5 (.inl ((mI S 69 5) - (1 : Int32)))) R from by first | (exact (xC_p (c := 69) (k := 5) (x := ((mI S 69 5) - (1 : Int32))) (xC_o (W := 75) hpre0) 69 xW75 rfl rfl).2)) (show xW W from by first | (exact hpre2) | (exact xW88) | (exact xW75)) (show aS W (ma_put S 69 5 (.inl ((mI S 69 5) - (1 : Int32)))) = zSh (ma_u ab 69 5 (ab 69 5 - 1)) ((0 : Int32)).toInt from by first | (refine (xC_p (c := 69) (k := 5) (x := ((mI S 69 5) - (1 : Int32))) (xC_o (W := W) hpre0) 69 hpre2 rfl (zcw_s (by decide))).1.trans ?_; skip; rw [hpre1, zSh_0, ← hpre1, (aS_I (W := W) (S := S) (c := 69) (c₉ := 69) (k := 5) rfl (zcw_s (by decide)))]; rfl) | (refine (xC_p (c := 69) (k := 5) (x := ((mI S 69 5) - (1 : Int32))) (xC_o (W := W) hpre0) 69 hpre2 rfl (zcw_s (by decide))).1.trans ?_; skip; rw [show (0 : Int32).toInt = 0 from rfl, zSh_0, ← hpre1, (aS_I (W := W) (S := S) (c := 69) (c₉ := 69) (k := 5) rfl (zcw_s (by decide)))])) (show none = zTa R (ab 74 0) from by first | (rw [← hpre1, (aS_I (W := W) (S := S) (c := 74) (c₉ := 74) (k := 0) rfl (zcw_s (by decide)))]; exact ta_no (by omega))) (show 0 < (ab 69 5).toInt ∧ ((mI S 69 5) - (1 : Int32)).toInt = (ab 69 5).toInt - 1 from by first | (have q5 := congrArg Int32.toInt (aS_I (W := W) (S := S) (c := 69) (c₉ := 69) (k := 5) rfl (zcw_s (by decide))); rw [hpre1] at q5; omega)) (show kC (ma_put S 69 5 (.inl ((mI S 69 5) - (1 : Int32)))) = kk from by first | (exact (xK_p (c := 69) (k := 5) (x := ((mI S 69 5) - (1 : Int32))) (xK_o (W := W) hpre0 hpre3) 69 hpre2 rfl (zcw_s (by decide))).2)) (show zN0 (ma_put S 69 5 (.inl ((mI S 69 5) - (1 : Int32)))) = n0 from by first | (exact ((n0_p (c := 69) (by decide)).trans hpre4)))
    · skip
      have g11 := i_nlt h6
      have li12 : (512 : Int32).toInt = 512 := rfl
      refine zd (fun h13 => ?_) (fun h13 => ?_)
      · skip
        have g14 := i_le h13
        first | have e16 : ((mI S 69 5) - (1 : Int32)).toInt = (mI S 69 5).toInt - (1) := i_subk rfl (by omega) (by omega) | have b17 := i_bd ((mI S 69 5) - (1 : Int32))
        have hI15 : zI f r C Z N (ma_put S 69 5 (.inl ((mI S 69 5) - (1 : Int32)))) := zG_sp hI (0) (512) rfl (by decide) (by decide) (by decide) trivial (by omega) (by omega)
        exact lp_98_69_sk_32 (by omega) (by omega) K _ _ (none) ((0 : Int32)) rfl hI15 (fun _ z => by cases z) (by omega) (show ((mI S 69 5) - (1 : Int32)).toInt ≤ 511 from by omega) (show ((0 : Int32)).toInt ≤ ((mI S 69 5) - (1 : Int32)).toInt from by omega) (show xB (ma_put S 69 5 (.inl ((mI S 69 5) - (1 : Int32)))) R from by first | (exact (xC_p (c := 69) (k := 5) (x := ((mI S 69 5) - (1 : Int32))) (xC_o (W := 75) hpre0) 69 xW75 rfl rfl).2)) (show xW W from by first | (exact hpre2) | (exact xW88) | (exact xW75)) (show aS W (ma_put S 69 5 (.inl ((mI S 69 5) - (1 : Int32)))) = zSh (ma_u ab 69 5 (ab 69 5 - 1)) ((0 : Int32)).toInt from by first | (refine (xC_p (c := 69) (k := 5) (x := ((mI S 69 5) - (1 : Int32))) (xC_o (W := W) hpre0) 69 hpre2 rfl (zcw_s (by decide))).1.trans ?_; skip; rw [hpre1, zSh_0, ← hpre1, (aS_I (W := W) (S := S) (c := 69) (c₉ := 69) (k := 5) rfl (zcw_s (by decide)))]; rfl) | (refine (xC_p (c := 69) (k := 5) (x := ((mI S 69 5) - (1 : Int32))) (xC_o (W := W) hpre0) 69 hpre2 rfl (zcw_s (by decide))).1.trans ?_; skip; rw [show (0 : Int32).toInt = 0 from rfl, zSh_0, ← hpre1, (aS_I (W := W) (S := S) (c := 69) (c₉ := 69) (k := 5) rfl (zcw_s (by decide)))])) (show none = zTa R (ab 74 0) from by first | (rw [← hpre1, (aS_I (W := W) (S := S) (c := 74) (c₉ := 74) (k := 0) rfl (zcw_s (by decide)))]; exact ta_no (by omega))) (show 0 < (ab 69 5).toInt ∧ ((mI S 69 5) - (1 : Int32)).toInt = (ab 69 5).toInt - 1 from by first | (have q5 := congrArg Int32.toInt (aS_I (W := W) (S := S) (c := 69) (c₉ := 69) (k := 5) rfl (zcw_s (by decide))); rw [hpre1] at q5; omega)) (show kC (ma_put S 69 5 (.inl ((mI S 69 5) - (1 : Int32)))) = kk from by first | (exact (xK_p (c := 69) (k := 5) (x := ((mI S 69 5) - (1 : Int32))) (xK_o (W := W) hpre0 hpre3) 69 hpre2 rfl (zcw_s (by decide))).2)) (show zN0 (ma_put S 69 5 (.inl ((mI S 69 5) - (1 : Int32)))) = n0 from by first | (exact ((n0_p (c := 69) (by decide)).trans hpre4)))
      · skip
        have g18 := i_nle h13
        refine ⟨i_ix (by omega) (by omega), ?_⟩
        first | have e20 : ((mI S 69 5) - (1 : Int32)).toInt = (mI S 69 5).toInt - (1) := i_subk rfl (by omega) (by omega) | have b21 := i_bd ((mI S 69 5) - (1 : Int32))
        have hI19 : zI f r C Z N (ma_put S 69 5 (.inl ((mI S 69 5) - (1 : Int32)))) := zG_sp hI (0) (512) rfl (by decide) (by decide) (by decide) trivial (by omega) (by omega)
        exact lp_98_69_sk_32 (by omega) (by omega) K _ _ ((mR S 70 (mI S 74 0).toNatClampNeg)) ((0 : Int32)) rfl hI19 (fun _ z => zG_70 hI (c := 70) (by decide) z) (by omega) (show ((mI S 69 5) - (1 : Int32)).toInt ≤ 511 from by omega) (show ((0 : Int32)).toInt ≤ ((mI S 69 5) - (1 : Int32)).toInt from by omega) (show xB (ma_put S 69 5 (.inl ((mI S 69 5) - (1 : Int32)))) R from by first | (exact (xC_p (c := 69) (k := 5) (x := ((mI S 69 5) - (1 : Int32))) (xC_o (W := 75) hpre0) 69 xW75 rfl rfl).2)) (show xW W from by first | (exact hpre2) | (exact xW88) | (exact xW75)) (show aS W (ma_put S 69 5 (.inl ((mI S 69 5) - (1 : Int32)))) = zSh (ma_u ab 69 5 (ab 69 5 - 1)) ((0 : Int32)).toInt from by first | (refine (xC_p (c := 69) (k := 5) (x := ((mI S 69 5) - (1 : Int32))) (xC_o (W := W) hpre0) 69 hpre2 rfl (zcw_s (by decide))).1.trans ?_; skip; rw [hpre1, zSh_0, ← hpre1, (aS_I (W := W) (S := S) (c := 69) (c₉ := 69) (k := 5) rfl (zcw_s (by decide)))]; rfl) | (refine (xC_p (c := 69) (k := 5) (x := ((mI S 69 5) - (1 : Int32))) (xC_o (W := W) hpre0) 69 hpre2 rfl (zcw_s (by decide))).1.trans ?_; skip; rw [show (0 : Int32).toInt = 0 from rfl, zSh_0, ← hpre1, (aS_I (W := W) (S := S) (c := 69) (c₉ := 69) (k := 5) rfl (zcw_s (by decide)))])) (show (mR S 70 (mI S 74 0).toNatClampNeg) = zTa R (ab 74 0) from by first | (rw [← hpre1, (aS_I (W := W) (S := S) (c := 74) (c₉ := 74) (k := 0) rfl (zcw_s (by decide)))]; exact ta_rd hpre0 (by omega) (by omega))) (show 0 < (ab 69 5).toInt ∧ ((mI S 69 5) - (1 : Int32)).toInt = (ab 69 5).toInt - 1 from by first | (have q5 := congrArg Int32.toInt (aS_I (W := W) (S := S) (c := 69) (c₉ := 69) (k := 5) rfl (zcw_s (by decide))); rw [hpre1] at q5; omega)) (show kC (ma_put S 69 5 (.inl ((mI S 69 5) - (1 : Int32)))) = kk from by first | (exact (xK_p (c := 69) (k := 5) (x := ((mI S 69 5) - (1 : Int32))) (xK_o (W := W) hpre0 hpre3) 69 hpre2 rfl (zcw_s (by decide))).2)) (show zN0 (ma_put S 69 5 (.inl ((mI S 69 5) - (1 : Int32)))) = n0 from by first | (exact ((n0_p (c := 69) (by decide)).trans hpre4)))
  · skip
    have g22 := i_nlt h3
    exact K (none) _ hI (fun _ z => by cases z) (show xB S R from by first | (exact (xC_o (W := 75) hpre0).2)) (show none = zTa R (aTy ab) ∧ aS W S = aTw ab from by first | (have q5 := congrArg Int32.toInt (aS_I (W := W) (S := S) (c := 69) (c₉ := 69) (k := 5) rfl (zcw_s (by decide))); rw [hpre1] at q5; rw [aTy_n (by omega), aTw_n (by omega)]; exact ⟨ta_m1, hpre1⟩)) (show ∀ n, xAl ab n → kC S n = kk n - (if 0 < (ab 69 5).toInt then Int32.ofNat (cIs (ab 74 0) n) else 0) from by first | (intro n hn; have q5 := congrArg Int32.toInt (aS_I (W := W) (S := S) (c := 69) (c₉ := 69) (k := 5) rfl (zcw_s (by decide))); rw [hpre1] at q5; rw [if_neg (by omega), Int32.sub_zero]; exact congrFun hpre3 n)) (show zN0 S = n0 from by first | (exact hpre4))

/-! from 95.m23 -/
/-! COUNTS, the class (written by wip/tools/gen20k.py) -/
theorem g_93_sk_0 {X : Nat × (Nat → Int32)} {d w : Nat} {S : ma_S} {Q : Option ma_V ⊕ Nat → ma_S → Prop} (p : Option Nat) (q : Option Nat) (hd : 0 ≤ d) (hw : 0 ≤ w) (hS : zT S) (h : (q = none → (p = none → Q (.inl none) S) ∧ (∀ c2, p = some c2 → (126 ≤ c2 ∧ c2 < mN S) ∧ ((126 ≤ c2 ∧ c2 < mN S) ∧ (Q (.inl none) (ma_put S c2 6 (.inl ((mI S c2 6) - (1 : Int32)))))))) ∧ (∀ c1, q = some c1 → (126 ≤ c1 ∧ c1 < mN S) ∧ ((126 ≤ c1 ∧ c1 < mN S) ∧ ((p = none → Q (.inl none) (ma_put S c1 6 (.inl ((mI S c1 6) + (1 : Int32))))) ∧ (∀ c3, p = some c3 → (126 ≤ c3 ∧ c3 < mN (ma_put S c1 6 (.inl ((mI S c1 6) + (1 : Int32))))) ∧ ((126 ≤ c3 ∧ c3 < mN (ma_put S c1 6 (.inl ((mI S c1 6) + (1 : Int32))))) ∧ (Q (.inl none) (ma_put (ma_put S c1 6 (.inl ((mI S c1 6) + (1 : Int32)))) c3 6 (.inl ((mI (ma_put S c1 6 (.inl ((mI S c1 6) + (1 : Int32)))) c3 6) - (1 : Int32))))))))))) : ma_wp X d w 93 0 [(0, .inr (.inr p)), (1, .inr (.inr q))] [] S Q := by
  refine zw_push hm_93 dX7_changeCounts_0 (v := .inr (.inr q)) rfl ?_
  refine zw_ifnull hm_93 dX7_changeCounts_1 (t := 14) rfl ?_ ?_
  · intro hc
    have h := h.1 hc
    (try rw [hc])
    show ma_wp X d w 93 14 [(0, .inr (.inr p)), (1, .inr (.inr none))] [] S _
    refine zw_push hm_93 dX7_changeCounts_14 (v := .inr (.inr p)) rfl ?_
    refine zw_ifnull hm_93 dX7_changeCounts_15 (t := 28) rfl ?_ ?_
    · intro hc
      have h := h.1 hc
      (try rw [hc])
      show ma_wp X d w 93 28 [(0, .inr (.inr none)), (1, .inr (.inr none))] [] S _
      exact zw_vret hm_93 dX7_changeCounts_28 h
    · intro c2 hc
      have h := h.2 c2 hc
      (try rw [hc])
      show ma_wp X d w 93 18 [(0, .inr (.inr (some c2))), (1, .inr (.inr none))] [] S _
      refine zw_push hm_93 dX7_changeCounts_18 (v := .inr (.inr (some c2))) rfl ?_
      refine zw_stk hm_93 dX7_changeCounts_19 (st₉ := [.inr (.inr (some c2)), .inr (.inr (some c2))]) rfl rfl ?_
      obtain ⟨hg, h⟩ := h
      refine zw_gf hm_93 dX7_changeCounts_20 (v := .inl (mI S c2 6)) (zT_tis hS hg) (zT_tt hS hg) rfl f_7_98_9 rfl ?_
      refine zw_push hm_93 dX7_changeCounts_23 (v := .inl (1 : Int32)) rfl ?_
      refine zw_stk hm_93 dX7_changeCounts_24 (st₉ := [.inl ((mI S c2 6) - (1 : Int32)), .inr (.inr (some c2))]) rfl rfl ?_
      obtain ⟨hg, h⟩ := h
      refine zw_pf hm_93 dX7_changeCounts_25 (zT_tis hS hg) (zT_tt hS hg) p_7_98_9 zk_int ?_
      exact zw_vret hm_93 dX7_changeCounts_28 h
  · intro c1 hc
    have h := h.2 c1 hc
    (try rw [hc])
    show ma_wp X d w 93 4 [(0, .inr (.inr p)), (1, .inr (.inr (some c1)))] [] S _
    refine zw_push hm_93 dX7_changeCounts_4 (v := .inr (.inr (some c1))) rfl ?_
    refine zw_stk hm_93 dX7_changeCounts_5 (st₉ := [.inr (.inr (some c1)), .inr (.inr (some c1))]) rfl rfl ?_
    obtain ⟨hg, h⟩ := h
    refine zw_gf hm_93 dX7_changeCounts_6 (v := .inl (mI S c1 6)) (zT_tis hS hg) (zT_tt hS hg) rfl f_7_98_9 rfl ?_
    refine zw_push hm_93 dX7_changeCounts_9 (v := .inl (1 : Int32)) rfl ?_
    refine zw_stk hm_93 dX7_changeCounts_10 (st₉ := [.inl ((mI S c1 6) + (1 : Int32)), .inr (.inr (some c1))]) rfl rfl ?_
    obtain ⟨hg, h⟩ := h
    refine zw_pf hm_93 dX7_changeCounts_11 (zT_tis hS hg) (zT_tt hS hg) p_7_98_9 zk_int ?_
    refine zw_push hm_93 dX7_changeCounts_14 (v := .inr (.inr p)) rfl ?_
    refine zw_ifnull hm_93 dX7_changeCounts_15 (t := 28) rfl ?_ ?_
    · intro hc
      have h := h.1 hc
      (try rw [hc])
      show ma_wp X d w 93 28 [(0, .inr (.inr none)), (1, .inr (.inr (some c1)))] [] (ma_put S c1 6 (.inl ((mI S c1 6) + (1 : Int32)))) _
      exact zw_vret hm_93 dX7_changeCounts_28 h
    · intro c3 hc
      have h := h.2 c3 hc
      (try rw [hc])
      show ma_wp X d w 93 18 [(0, .inr (.inr (some c3))), (1, .inr (.inr (some c1)))] [] (ma_put S c1 6 (.inl ((mI S c1 6) + (1 : Int32)))) _
      refine zw_push hm_93 dX7_changeCounts_18 (v := .inr (.inr (some c3))) rfl ?_
      refine zw_stk hm_93 dX7_changeCounts_19 (st₉ := [.inr (.inr (some c3)), .inr (.inr (some c3))]) rfl rfl ?_
      obtain ⟨hg, h⟩ := h
      refine zw_gf hm_93 dX7_changeCounts_20 (v := .inl (mI (ma_put S c1 6 (.inl ((mI S c1 6) + (1 : Int32)))) c3 6)) (zT_tis (zT_pi hS) hg) (zT_tt (zT_pi hS) hg) rfl f_7_98_9 rfl ?_
      refine zw_push hm_93 dX7_changeCounts_23 (v := .inl (1 : Int32)) rfl ?_
      refine zw_stk hm_93 dX7_changeCounts_24 (st₉ := [.inl ((mI (ma_put S c1 6 (.inl ((mI S c1 6) + (1 : Int32)))) c3 6) - (1 : Int32)), .inr (.inr (some c3))]) rfl rfl ?_
      obtain ⟨hg, h⟩ := h
      refine zw_pf hm_93 dX7_changeCounts_25 (zT_tis (zT_pi hS) hg) (zT_tt (zT_pi hS) hg) p_7_98_9 zk_int ?_
      exact zw_vret hm_93 dX7_changeCounts_28 h
theorem sp_93_sk {X : Nat × (Nat → Int32)} {d w : Nat} {f : Nat → Nat → Int32} {r : Nat → Nat → Option Nat} {C Z N : Nat} {Q : Option ma_V ⊕ Nat → ma_S → Prop} {ab : Nat→Nat→Int32} {R : zRT} {W : Nat} {kk : Nat→Int32} {y1 : Int32} {y2 : Int32} {n0 : Nat→Nat→Int32} {S : ma_S} (p : Option Nat) (q : Option Nat) (hd : 0 ≤ d) (hw : 0 ≤ w) (hI : zI f r C Z N S) (hq_p : ∀ c, p = some c → 126 ≤ c ∧ c < N) (hq_q : ∀ c, q = some c → 126 ≤ c ∧ c < N) (hpre0 : xB S R) (hpre1 : aS W S = ab) (hpre2 : xW W) (hpre3 : p = zTa R y1) (hpre4 : q = zTa R y2) (hpre5 : kC S = kk) (hpre6 : zN0 S = n0) (K : ∀ S₉, zI f r C Z N S₉ → (xB S₉ R) → (aS W S₉ = ab) → (∀ n, xAl ab n → kC S₉ n = kk n + Int32.ofNat (cIs y2 n) - Int32.ofNat (cIs y1 n)) → (zN0 S₉ = n0) → Q (.inl none) S₉) : ma_wp X d w 93 0 [(0, .inr (.inr p)), (1, .inr (.inr q))] [] S Q := by
  refine g_93_sk_0 p q (by omega) (by omega) (zG_T hI) ?_
  refine ⟨fun hc => ?_, fun c1 hc => ?_⟩
  · skip
    have rn_c1 : zTa R y2 = none := hpre4.symm.trans hc
    refine ⟨fun hc => ?_, fun c2 hc => ?_⟩
    · skip
      have rn_c2 : zTa R y1 = none := hpre3.symm.trans hc
      exact K _ hI (show xB S R from by first | (exact (xC_o (W := 75) hpre0).2)) (show aS W S = ab from by first | (exact (xC_o (W := W) hpre0).1.trans hpre1)) (show ∀ n, xAl ab n → kC S n = kk n + Int32.ofNat (cIs y2 n) - Int32.ofNat (cIs y1 n) from by first | (intro n hn; rw [← hpre1] at hn; refine (congrFun (xK_o (W := W) hpre0 hpre5).2 n).trans ?_; rw [is_no hpre0 rn_c2 hn, is_no hpre0 rn_c1 hn]; exact ((congrArg (fun q => q - (0 : Int32)) (Int32.add_zero _)).trans (Int32.sub_zero _)).symm) | (intro n hn; rw [← hpre1] at hn; refine (congrFun (xK_o (W := W) hpre0 hpre5).2 n).trans ?_; rw [is_no hpre0 rn_c2 hn, is_no hpre0 rn_c1 hn])) (show zN0 S = n0 from by first | (exact hpre6))
    · skip
      have th_c2 := hq_p c2 hc
      have rg_c2 : zTa R y1 = some c2 := hpre3.symm.trans hc
      subst hc
      refine ⟨zG_n hI th_c2, ?_⟩
      refine ⟨zG_n hI th_c2, ?_⟩
      have hI1 : zI f r C Z N (ma_put S c2 6 (.inl ((mI S c2 6) - (1 : Int32)))) := zG_tf hI th_c2.1 zI_t (by decide) (by decide) trivial (by decide) (by decide) (by decide)
      exact K _ hI1 (show xB (ma_put S c2 6 (.inl ((mI S c2 6) - (1 : Int32)))) R from by first | (exact (xC_6 (k := 6) (x := ((mI S c2 6) - (1 : Int32))) (xC_o (W := 75) hpre0) xW75 th_c2.1 rfl (by decide)).2)) (show aS W (ma_put S c2 6 (.inl ((mI S c2 6) - (1 : Int32)))) = ab from by first | (exact (xC_6 (k := 6) (x := ((mI S c2 6) - (1 : Int32))) (xC_o (W := W) hpre0) hpre2 th_c2.1 rfl (by decide)).1.trans hpre1)) (show ∀ n, xAl ab n → kC (ma_put S c2 6 (.inl ((mI S c2 6) - (1 : Int32)))) n = kk n + Int32.ofNat (cIs y2 n) - Int32.ofNat (cIs y1 n) from by first | (intro n hn; rw [← hpre1] at hn; refine (congrFun (xK_6 (x := ((mI S c2 6) - (1 : Int32))) (xK_o (W := W) hpre0 hpre5) hpre2 rg_c2 th_c2.1).2 n).trans ?_; have k60 := xK_y (xK_o (W := W) hpre0 hpre5) rg_c2; rw [k60, KU_2 (zTa_p rg_c2).1 hn.1, is_no hpre0 rn_c1 hn]; exact (congrArg (fun q => q - _) (Int32.add_zero _)).symm) | (intro n hn; rw [← hpre1] at hn; refine (congrFun (xK_6 (x := ((mI S c2 6) - (1 : Int32))) (xK_o (W := W) hpre0 hpre5) hpre2 rg_c2 th_c2.1).2 n).trans ?_; have k60 := xK_y (xK_o (W := W) hpre0 hpre5) rg_c2; rw [k60, KU_2 (zTa_p rg_c2).1 hn.1, is_no hpre0 rn_c1 hn])) (show zN0 (ma_put S c2 6 (.inl ((mI S c2 6) - (1 : Int32)))) = n0 from by first | (exact ((n0_t (k := 6) (by decide)).trans hpre6)))
  · skip
    have th_c1 := hq_q c1 hc
    have rg_c1 : zTa R y2 = some c1 := hpre4.symm.trans hc
    subst hc
    refine ⟨zG_n hI th_c1, ?_⟩
    refine ⟨zG_n hI th_c1, ?_⟩
    refine ⟨fun hc => ?_, fun c3 hc => ?_⟩
    · skip
      have rn_c3 : zTa R y1 = none := hpre3.symm.trans hc
      have hI2 : zI f r C Z N (ma_put S c1 6 (.inl ((mI S c1 6) + (1 : Int32)))) := zG_tf hI th_c1.1 zI_t (by decide) (by decide) trivial (by decide) (by decide) (by decide)
      exact K _ hI2 (show xB (ma_put S c1 6 (.inl ((mI S c1 6) + (1 : Int32)))) R from by first | (exact (xC_6 (k := 6) (x := ((mI S c1 6) + (1 : Int32))) (xC_o (W := 75) hpre0) xW75 th_c1.1 rfl (by decide)).2)) (show aS W (ma_put S c1 6 (.inl ((mI S c1 6) + (1 : Int32)))) = ab from by first | (exact (xC_6 (k := 6) (x := ((mI S c1 6) + (1 : Int32))) (xC_o (W := W) hpre0) hpre2 th_c1.1 rfl (by decide)).1.trans hpre1)) (show ∀ n, xAl ab n → kC (ma_put S c1 6 (.inl ((mI S c1 6) + (1 : Int32)))) n = kk n + Int32.ofNat (cIs y2 n) - Int32.ofNat (cIs y1 n) from by first | (intro n hn; rw [← hpre1] at hn; refine (congrFun (xK_6 (x := ((mI S c1 6) + (1 : Int32))) (xK_o (W := W) hpre0 hpre5) hpre2 rg_c1 th_c1.1).2 n).trans ?_; have k60 := xK_y (xK_o (W := W) hpre0 hpre5) rg_c1; rw [k60, is_no hpre0 rn_c3 hn, KU_1 (zTa_p rg_c1).1 hn.1]; exact (Int32.sub_zero _).symm) | (intro n hn; rw [← hpre1] at hn; refine (congrFun (xK_6 (x := ((mI S c1 6) + (1 : Int32))) (xK_o (W := W) hpre0 hpre5) hpre2 rg_c1 th_c1.1).2 n).trans ?_; have k60 := xK_y (xK_o (W := W) hpre0 hpre5) rg_c1; rw [k60, is_no hpre0 rn_c3 hn, KU_1 (zTa_p rg_c1).1 hn.1])) (show zN0 (ma_put S c1 6 (.inl ((mI S c1 6) + (1 : Int32)))) = n0 from by first | (exact ((n0_t (k := 6) (by decide)).trans hpre6)))
    · skip
      have th_c3 := hq_p c3 hc
      have rg_c3 : zTa R y1 = some c3 := hpre3.symm.trans hc
      subst hc
      have hI3 : zI f r C Z N (ma_put S c1 6 (.inl ((mI S c1 6) + (1 : Int32)))) := zG_tf hI th_c1.1 zI_t (by decide) (by decide) trivial (by decide) (by decide) (by decide)
      refine ⟨zG_n hI3 th_c3, ?_⟩
      refine ⟨zG_n hI3 th_c3, ?_⟩
      have hI4 : zI f r C Z N (ma_put (ma_put S c1 6 (.inl ((mI S c1 6) + (1 : Int32)))) c3 6 (.inl ((mI (ma_put S c1 6 (.inl ((mI S c1 6) + (1 : Int32)))) c3 6) - (1 : Int32)))) := zG_tf hI3 th_c3.1 zI_t (by decide) (by decide) trivial (by decide) (by decide) (by decide)
      exact K _ hI4 (show xB (ma_put (ma_put S c1 6 (.inl ((mI S c1 6) + (1 : Int32)))) c3 6 (.inl ((mI (ma_put S c1 6 (.inl ((mI S c1 6) + (1 : Int32)))) c3 6) - (1 : Int32)))) R from by first | (exact (xC_6 (k := 6) (x := ((mI (ma_put S c1 6 (.inl ((mI S c1 6) + (1 : Int32)))) c3 6) - (1 : Int32))) (xC_6 (k := 6) (x := ((mI S c1 6) + (1 : Int32))) (xC_o (W := 75) hpre0) xW75 th_c1.1 rfl (by decide)) xW75 th_c3.1 rfl (by decide)).2)) (show aS W (ma_put (ma_put S c1 6 (.inl ((mI S c1 6) + (1 : Int32)))) c3 6 (.inl ((mI (ma_put S c1 6 (.inl ((mI S c1 6) + (1 : Int32)))) c3 6) - (1 : Int32)))) = ab from by first | (exact (xC_6 (k := 6) (x := ((mI (ma_put S c1 6 (.inl ((mI S c1 6) + (1 : Int32)))) c3 6) - (1 : Int32))) (xC_6 (k := 6) (x := ((mI S c1 6) + (1 : Int32))) (xC_o (W := W) hpre0) hpre2 th_c1.1 rfl (by decide)) hpre2 th_c3.1 rfl (by decide)).1.trans hpre1)) (show ∀ n, xAl ab n → kC (ma_put (ma_put S c1 6 (.inl ((mI S c1 6) + (1 : Int32)))) c3 6 (.inl ((mI (ma_put S c1 6 (.inl ((mI S c1 6) + (1 : Int32)))) c3 6) - (1 : Int32)))) n = kk n + Int32.ofNat (cIs y2 n) - Int32.ofNat (cIs y1 n) from by first | (intro n hn; rw [← hpre1] at hn; refine (congrFun (xK_6 (x := ((mI (ma_put S c1 6 (.inl ((mI S c1 6) + (1 : Int32)))) c3 6) - (1 : Int32))) (xK_6 (x := ((mI S c1 6) + (1 : Int32))) (xK_o (W := W) hpre0 hpre5) hpre2 rg_c1 th_c1.1) hpre2 rg_c3 th_c3.1).2 n).trans ?_; have k61 := xK_y (xK_6 (x := ((mI S c1 6) + (1 : Int32))) (xK_o (W := W) hpre0 hpre5) hpre2 rg_c1 th_c1.1) rg_c3; have k60 := xK_y (xK_o (W := W) hpre0 hpre5) rg_c1; rw [k61, k60, KU_2 (zTa_p rg_c3).1 hn.1, KU_1 (zTa_p rg_c1).1 hn.1]) | (intro n hn; rw [← hpre1] at hn; refine (congrFun (xK_6 (x := ((mI (ma_put S c1 6 (.inl ((mI S c1 6) + (1 : Int32)))) c3 6) - (1 : Int32))) (xK_6 (x := ((mI S c1 6) + (1 : Int32))) (xK_o (W := W) hpre0 hpre5) hpre2 rg_c1 th_c1.1) hpre2 rg_c3 th_c3.1).2 n).trans ?_; have k61 := xK_y (xK_6 (x := ((mI S c1 6) + (1 : Int32))) (xK_o (W := W) hpre0 hpre5) hpre2 rg_c1 th_c1.1) rg_c3; have k60 := xK_y (xK_o (W := W) hpre0 hpre5) rg_c1; rw [k61, k60, KU_2 (zTa_p rg_c3).1 hn.1, KU_1 (zTa_p rg_c1).1 hn.1])) (show zN0 (ma_put (ma_put S c1 6 (.inl ((mI S c1 6) + (1 : Int32)))) c3 6 (.inl ((mI (ma_put S c1 6 (.inl ((mI S c1 6) + (1 : Int32)))) c3 6) - (1 : Int32)))) = n0 from by first | (exact ((n0_t (k := 6) (by decide)).trans ((n0_t (k := 6) (by decide)).trans hpre6))))
theorem g_95_69_sk_0 {X : Nat × (Nat → Int32)} {d w : Nat} {S : ma_S} {Q : Option ma_V ⊕ Nat → ma_S → Prop} (t : Nat) (i : Int32) (x : Int32) (hd : 0 ≤ d) (hw : 0 ≤ w) (hS : zT S) (h : (126 ≤ t ∧ t < mN S) ∧ (if (((mI S t 4) + (1 : Int32)) + i) < 0 then (Q (.inl (some (.inl (-1 : Int32)))) S) else (if (((mI S t 4) + (1 : Int32)) + i) < (4500 : Int32) then ((0 ≤ (((mI S t 4) + (1 : Int32)) + i) ∧ (((mI S t 4) + (1 : Int32)) + i).toNatClampNeg < 4500) ∧ ((0 ≤ (((mI S t 4) + (1 : Int32)) + i) ∧ (((mI S t 4) + (1 : Int32)) + i).toNatClampNeg < 4500) ∧ (Q (.inl (some (.inl (mI S 71 (((mI S t 4) + (1 : Int32)) + i).toNatClampNeg)))) (ma_put S 71 (((mI S t 4) + (1 : Int32)) + i).toNatClampNeg (.inl x))))) else (Q (.inl (some (.inl (-1 : Int32)))) S)))) : ma_wp X d w 95 0 [(0, .inr (.inr (some 69))), (1, .inr (.inr (some t))), (2, .inl i), (3, .inl x)] [] S Q := by
  refine zw_push hm_95 dX7_changeInt_0 (v := .inr (.inr (some t))) rfl ?_
  obtain ⟨hg, h⟩ := h
  refine zw_gf hm_95 dX7_changeInt_1 (v := .inl (mI S t 4)) (zT_tis hS hg) (zT_tt hS hg) rfl f_7_61_9 rfl ?_
  refine zw_push hm_95 dX7_changeInt_4 (v := .inl (1 : Int32)) rfl ?_
  refine zw_stk hm_95 dX7_changeInt_5 (st₉ := [.inl ((mI S t 4) + (1 : Int32))]) rfl rfl ?_
  refine zw_push hm_95 dX7_changeInt_6 (v := .inl i) rfl ?_
  refine zw_stk hm_95 dX7_changeInt_7 (st₉ := [.inl (((mI S t 4) + (1 : Int32)) + i)]) rfl rfl ?_
  refine zw_sto hm_95 dX7_changeInt_8 [(4, .inl (((mI S t 4) + (1 : Int32)) + i)), (0, .inr (.inr (some 69))), (1, .inr (.inr (some t))), (2, .inl i), (3, .inl x)] rfl rfl rfl ?_
  refine zw_push hm_95 dX7_changeInt_10 (v := .inl (((mI S t 4) + (1 : Int32)) + i)) rfl ?_
  refine zw_if0 hm_95 dX7_changeInt_12 (t := 23) rfl zc0_lt ?_ ?_
  · intro hc
    rw [if_pos hc] at h
    refine zw_push hm_95 dX7_changeInt_23 (v := .inl (-1 : Int32)) rfl ?_
    exact zw_iret hm_95 dX7_changeInt_24 h
  · intro hc
    rw [if_neg hc] at h
    refine zw_push hm_95 dX7_changeInt_15 (v := .inl (((mI S t 4) + (1 : Int32)) + i)) rfl ?_
    refine zw_push hm_95 dX7_changeInt_17 (v := .inl (4500 : Int32)) rfl ?_
    refine zw_if2 hm_95 dX7_changeInt_20 (t := 25) rfl zc2_lt ?_ ?_
    · intro hc
      rw [if_pos hc] at h
      refine zw_push hm_95 dX7_changeInt_25 (v := .inr (.inr (some 69))) rfl ?_
      refine zw_gf hm_95 dX7_changeInt_26 (v := .inr (.inr (some 71))) (zT_is hS s_69) (zT_t hS s_69) rfl f_7_17_7 (zT_f hS r_69_1) ?_
      refine zw_push hm_95 dX7_changeInt_29 (v := .inl (((mI S t 4) + (1 : Int32)) + i)) rfl ?_
      obtain ⟨hg, h⟩ := h
      refine zw_ia hm_95 dX7_changeInt_31 (zT_is hS s_71) (zT_h hS s_71) rfl hg ?_
      show ma_wp X d w 95 32 [(4, .inl (((mI S t 4) + (1 : Int32)) + i)), (0, .inr (.inr (some 69))), (1, .inr (.inr (some t))), (2, .inl i), (3, .inl x)] [.inl (mI S 71 (((mI S t 4) + (1 : Int32)) + i).toNatClampNeg)] S _
      refine zw_sto hm_95 dX7_changeInt_32 [(5, .inl (mI S 71 (((mI S t 4) + (1 : Int32)) + i).toNatClampNeg)), (4, .inl (((mI S t 4) + (1 : Int32)) + i)), (0, .inr (.inr (some 69))), (1, .inr (.inr (some t))), (2, .inl i), (3, .inl x)] rfl rfl rfl ?_
      refine zw_push hm_95 dX7_changeInt_34 (v := .inr (.inr (some 69))) rfl ?_
      refine zw_gf hm_95 dX7_changeInt_35 (v := .inr (.inr (some 71))) (zT_is hS s_69) (zT_t hS s_69) rfl f_7_17_7 (zT_f hS r_69_1) ?_
      refine zw_push hm_95 dX7_changeInt_38 (v := .inl (((mI S t 4) + (1 : Int32)) + i)) rfl ?_
      refine zw_push hm_95 dX7_changeInt_40 (v := .inl x) rfl ?_
      obtain ⟨hg, h⟩ := h
      refine zw_ias hm_95 dX7_changeInt_41 (zT_is hS s_71) (zT_h hS s_71) rfl hg ?_
      refine zw_push hm_95 dX7_changeInt_42 (v := .inl (mI S 71 (((mI S t 4) + (1 : Int32)) + i).toNatClampNeg)) rfl ?_
      exact zw_iret hm_95 dX7_changeInt_44 h
    · intro hc
      rw [if_neg hc] at h
      refine zw_push hm_95 dX7_changeInt_23 (v := .inl (-1 : Int32)) rfl ?_
      exact zw_iret hm_95 dX7_changeInt_24 h
theorem sp_95_69_sk {X : Nat × (Nat → Int32)} {d w : Nat} {f : Nat → Nat → Int32} {r : Nat → Nat → Option Nat} {C Z N : Nat} {Q : Option ma_V ⊕ Nat → ma_S → Prop} {ab : Nat→Nat→Int32} {R : zRT} {W : Nat} {kk : Nat→Int32} {y : Int32} {n0 : Nat→Nat→Int32} {S : ma_S} (t : Nat) (i : Int32) (x : Int32) (hd : 0 ≤ d) (hw : 0 ≤ w) (hI : zI f r C Z N S) (th_t : 126 ≤ t ∧ t < N) (hpre0 : xB S R) (hpre1 : aS W S = ab) (hpre2 : xW W) (hpre3 : zTa R y = some t) (hpre4 : kC S = kk) (hpre5 : zN0 S = n0) (K : ∀ v S₉, zI f r C Z N S₉ → (True) → (xB S₉ R) → (aS W S₉ = aCi ab y.toNatClampNeg i x ∧ v = aWo ab y.toNatClampNeg i) → (kC S₉ = kk) → (zN0 S₉ = n0) → Q (.inl (some (.inl v))) S₉) : ma_wp X d w 95 0 [(0, .inr (.inr (some 69))), (1, .inr (.inr (some t))), (2, .inl i), (3, .inl x)] [] S Q := by
  refine g_95_69_sk_0 t i x (by omega) (by omega) (zG_T hI) ?_
  refine ⟨zG_n hI th_t, ?_⟩
  have f1 := zG_th hI th_t
  first | have e2 : ((mI S t 4) + (1 : Int32)).toInt = (mI S t 4).toInt + (1) := i_addk rfl (by omega) (by omega) | have b3 := i_bd ((mI S t 4) + (1 : Int32))
  have b4 := i_bd i
  first | have e5 : (((mI S t 4) + (1 : Int32)) + i).toInt = ((mI S t 4) + (1 : Int32)).toInt + i.toInt := i_add (by omega) (by omega) | have b6 := i_bd (((mI S t 4) + (1 : Int32)) + i)
  have li7 : (0 : Int32).toInt = 0 := rfl
  refine zd (fun h8 => ?_) (fun h8 => ?_)
  · skip
    have g9 := i_lt h8
    have li10 : (-1 : Int32).toInt = -1 := rfl
    exact K ((-1 : Int32)) _ hI trivial (show xB S R from by first | (exact (xC_o (W := 75) hpre0).2)) (show aS W S = aCi ab y.toNatClampNeg i x ∧ (-1 : Int32) = aWo ab y.toNatClampNeg i from by first | (have ty := xB_th (W := W) hpre0 hpre3; have e4 := ty.2.2.2.2.2.1; rw [hpre1] at e4; exact ⟨hpre1.trans (if_neg (by rw [← e4]; omega)).symm, (if_neg (by rw [← e4]; omega)).symm⟩)) (show kC S = kk from by first | (exact (xK_o (W := W) hpre0 hpre4).2)) (show zN0 S = n0 from by first | (exact hpre5))
  · skip
    have g11 := i_nlt h8
    have li12 : (4500 : Int32).toInt = 4500 := rfl
    refine zd (fun h13 => ?_) (fun h13 => ?_)
    · skip
      have g14 := i_lt h13
      refine ⟨i_ix (by omega) (by omega), ?_⟩
      refine ⟨i_ix (by omega) (by omega), ?_⟩
      have hI15 : zI f r C Z N (ma_put S 71 (((mI S t 4) + (1 : Int32)) + i).toNatClampNeg (.inl x)) := zG_fa hI rfl (by decide) (by decide) (by decide) trivial
      have b16 := i_bd (mI S 71 (((mI S t 4) + (1 : Int32)) + i).toNatClampNeg)
      exact K ((mI S 71 (((mI S t 4) + (1 : Int32)) + i).toNatClampNeg)) _ hI15 trivial (show xB (ma_put S 71 (((mI S t 4) + (1 : Int32)) + i).toNatClampNeg (.inl x)) R from by first | (exact (xC_p (c := 71) (k := (((mI S t 4) + (1 : Int32)) + i).toNatClampNeg) (x := x) (xC_o (W := 75) hpre0) 71 xW75 rfl rfl).2)) (show aS W (ma_put S 71 (((mI S t 4) + (1 : Int32)) + i).toNatClampNeg (.inl x)) = aCi ab y.toNatClampNeg i x ∧ (mI S 71 (((mI S t 4) + (1 : Int32)) + i).toNatClampNeg) = aWo ab y.toNatClampNeg i from by first | (have ty := xB_th (W := W) hpre0 hpre3; have e4 := ty.2.2.2.2.2.1; rw [hpre1] at e4; refine ⟨(xC_p (c := 71) (k := (((mI S t 4) + (1 : Int32)) + i).toNatClampNeg) (x := x) (xC_o (W := W) hpre0) 71 hpre2 rfl (zcw_s (by decide))).1.trans ?_, ?_⟩; (rw [hpre1, e4]; exact (if_pos ⟨by rw [← e4]; omega, by rw [← e4]; omega⟩).symm); (refine Eq.trans ?_ (if_pos ⟨by rw [← e4]; omega, by rw [← e4]; omega⟩).symm; rw [← hpre1, (aS_I (W := W) (S := S) (c := 71) (c₉ := 71)  rfl (zcw_s (by decide))), hpre1, ← e4]))) (show kC (ma_put S 71 (((mI S t 4) + (1 : Int32)) + i).toNatClampNeg (.inl x)) = kk from by first | (exact (xK_p (c := 71) (k := (((mI S t 4) + (1 : Int32)) + i).toNatClampNeg) (x := x) (xK_o (W := W) hpre0 hpre4) 71 hpre2 rfl (zcw_s (by decide))).2)) (show zN0 (ma_put S 71 (((mI S t 4) + (1 : Int32)) + i).toNatClampNeg (.inl x)) = n0 from by first | (exact ((n0_p (c := 71) (by decide)).trans hpre5)))
    · skip
      have g17 := i_nlt h13
      have li18 : (-1 : Int32).toInt = -1 := rfl
      exact K ((-1 : Int32)) _ hI trivial (show xB S R from by first | (exact (xC_o (W := 75) hpre0).2)) (show aS W S = aCi ab y.toNatClampNeg i x ∧ (-1 : Int32) = aWo ab y.toNatClampNeg i from by first | (have ty := xB_th (W := W) hpre0 hpre3; have e4 := ty.2.2.2.2.2.1; rw [hpre1] at e4; exact ⟨hpre1.trans (if_neg (by rw [← e4]; omega)).symm, (if_neg (by rw [← e4]; omega)).symm⟩)) (show kC S = kk from by first | (exact (xK_o (W := W) hpre0 hpre4).2)) (show zN0 S = n0 from by first | (exact hpre5))
theorem g_96_69_sk_0 {X : Nat × (Nat → Int32)} {d w : Nat} {S : ma_S} {Q : Option ma_V ⊕ Nat → ma_S → Prop} (t : Nat) (i : Int32) (hd : 0 ≤ d) (hw : 0 ≤ w) (hS : zT S) (h : (126 ≤ t ∧ t < mN S) ∧ (if (((mI S t 4) + (1 : Int32)) + i) < 0 then (Q (.inl (some (.inl (-1 : Int32)))) S) else (if (4500 : Int32) ≤ (((mI S t 4) + (1 : Int32)) + i) then (Q (.inl (some (.inl (-1 : Int32)))) S) else ((0 ≤ (((mI S t 4) + (1 : Int32)) + i) ∧ (((mI S t 4) + (1 : Int32)) + i).toNatClampNeg < 4500) ∧ (Q (.inl (some (.inl (mI S 71 (((mI S t 4) + (1 : Int32)) + i).toNatClampNeg)))) S))))) : ma_wp X d w 96 0 [(0, .inr (.inr (some 69))), (1, .inr (.inr (some t))), (2, .inl i)] [] S Q := by
  refine zw_push hm_96 dX7_wordOf_0 (v := .inr (.inr (some t))) rfl ?_
  obtain ⟨hg, h⟩ := h
  refine zw_gf hm_96 dX7_wordOf_1 (v := .inl (mI S t 4)) (zT_tis hS hg) (zT_tt hS hg) rfl f_7_61_9 rfl ?_
  refine zw_push hm_96 dX7_wordOf_4 (v := .inl (1 : Int32)) rfl ?_
  refine zw_stk hm_96 dX7_wordOf_5 (st₉ := [.inl ((mI S t 4) + (1 : Int32))]) rfl rfl ?_
  refine zw_push hm_96 dX7_wordOf_6 (v := .inl i) rfl ?_
  refine zw_stk hm_96 dX7_wordOf_7 (st₉ := [.inl (((mI S t 4) + (1 : Int32)) + i)]) rfl rfl ?_
  refine zw_sto hm_96 dX7_wordOf_8 [(3, .inl (((mI S t 4) + (1 : Int32)) + i)), (0, .inr (.inr (some 69))), (1, .inr (.inr (some t))), (2, .inl i)] rfl rfl rfl ?_
  refine zw_push hm_96 dX7_wordOf_9 (v := .inl (((mI S t 4) + (1 : Int32)) + i)) rfl ?_
  refine zw_if0 hm_96 dX7_wordOf_10 (t := 29) rfl zc0_lt ?_ ?_
  · intro hc
    rw [if_pos hc] at h
    refine zw_push hm_96 dX7_wordOf_29 (v := .inl (-1 : Int32)) rfl ?_
    exact zw_iret hm_96 dX7_wordOf_30 h
  · intro hc
    rw [if_neg hc] at h
    refine zw_push hm_96 dX7_wordOf_13 (v := .inl (((mI S t 4) + (1 : Int32)) + i)) rfl ?_
    refine zw_push hm_96 dX7_wordOf_14 (v := .inl (4500 : Int32)) rfl ?_
    refine zw_if2 hm_96 dX7_wordOf_17 (t := 29) rfl zc2_ge ?_ ?_
    · intro hc
      rw [if_pos hc] at h
      refine zw_push hm_96 dX7_wordOf_29 (v := .inl (-1 : Int32)) rfl ?_
      exact zw_iret hm_96 dX7_wordOf_30 h
    · intro hc
      rw [if_neg hc] at h
      refine zw_push hm_96 dX7_wordOf_20 (v := .inr (.inr (some 69))) rfl ?_
      refine zw_gf hm_96 dX7_wordOf_21 (v := .inr (.inr (some 71))) (zT_is hS s_69) (zT_t hS s_69) rfl f_7_17_7 (zT_f hS r_69_1) ?_
      refine zw_push hm_96 dX7_wordOf_24 (v := .inl (((mI S t 4) + (1 : Int32)) + i)) rfl ?_
      obtain ⟨hg, h⟩ := h
      refine zw_ia hm_96 dX7_wordOf_25 (zT_is hS s_71) (zT_h hS s_71) rfl hg ?_
      show ma_wp X d w 96 26 [(3, .inl (((mI S t 4) + (1 : Int32)) + i)), (0, .inr (.inr (some 69))), (1, .inr (.inr (some t))), (2, .inl i)] [.inl (mI S 71 (((mI S t 4) + (1 : Int32)) + i).toNatClampNeg)] S _
      refine zw_goto hm_96 dX7_wordOf_26 (t := 30) rfl ?_
      exact zw_iret hm_96 dX7_wordOf_30 h
theorem sp_96_69_sk {X : Nat × (Nat → Int32)} {d w : Nat} {f : Nat → Nat → Int32} {r : Nat → Nat → Option Nat} {C Z N : Nat} {Q : Option ma_V ⊕ Nat → ma_S → Prop} {ab : Nat→Nat→Int32} {R : zRT} {W : Nat} {kk : Nat→Int32} {y : Int32} {S : ma_S} (t : Nat) (i : Int32) (hd : 0 ≤ d) (hw : 0 ≤ w) (hI : zI f r C Z N S) (th_t : 126 ≤ t ∧ t < N) (hpre0 : xB S R) (hpre1 : aS W S = ab) (hpre2 : xW W) (hpre3 : zTa R y = some t) (hpre4 : kC S = kk) (K : ∀ v S₉, zI f r C Z N S₉ → (True) → (xB S₉ R) → (aS W S₉ = ab) → (v = aWo ab y.toNatClampNeg i) → (kC S₉ = kk) → Q (.inl (some (.inl v))) S₉) : ma_wp X d w 96 0 [(0, .inr (.inr (some 69))), (1, .inr (.inr (some t))), (2, .inl i)] [] S Q := by
  refine g_96_69_sk_0 t i (by omega) (by omega) (zG_T hI) ?_
  refine ⟨zG_n hI th_t, ?_⟩
  have f1 := zG_th hI th_t
  first | have e2 : ((mI S t 4) + (1 : Int32)).toInt = (mI S t 4).toInt + (1) := i_addk rfl (by omega) (by omega) | have b3 := i_bd ((mI S t 4) + (1 : Int32))
  have b4 := i_bd i
  first | have e5 : (((mI S t 4) + (1 : Int32)) + i).toInt = ((mI S t 4) + (1 : Int32)).toInt + i.toInt := i_add (by omega) (by omega) | have b6 := i_bd (((mI S t 4) + (1 : Int32)) + i)
  have li7 : (0 : Int32).toInt = 0 := rfl
  refine zd (fun h8 => ?_) (fun h8 => ?_)
  · skip
    have g9 := i_lt h8
    have li10 : (-1 : Int32).toInt = -1 := rfl
    exact K ((-1 : Int32)) _ hI trivial (show xB S R from by first | (exact (xC_o (W := 75) hpre0).2)) (show aS W S = ab from by first | (exact (xC_o (W := W) hpre0).1.trans hpre1)) (show (-1 : Int32) = aWo ab y.toNatClampNeg i from by first | (have ty := xB_th (W := W) hpre0 hpre3; have e4 := ty.2.2.2.2.2.1; rw [hpre1] at e4; exact (if_neg (by rw [← e4]; omega)).symm)) (show kC S = kk from by first | (exact (xK_o (W := W) hpre0 hpre4).2))
  · skip
    have g11 := i_nlt h8
    have li12 : (4500 : Int32).toInt = 4500 := rfl
    refine zd (fun h13 => ?_) (fun h13 => ?_)
    · skip
      have g14 := i_le h13
      have li15 : (-1 : Int32).toInt = -1 := rfl
      exact K ((-1 : Int32)) _ hI trivial (show xB S R from by first | (exact (xC_o (W := 75) hpre0).2)) (show aS W S = ab from by first | (exact (xC_o (W := W) hpre0).1.trans hpre1)) (show (-1 : Int32) = aWo ab y.toNatClampNeg i from by first | (have ty := xB_th (W := W) hpre0 hpre3; have e4 := ty.2.2.2.2.2.1; rw [hpre1] at e4; exact (if_neg (by rw [← e4]; omega)).symm)) (show kC S = kk from by first | (exact (xK_o (W := W) hpre0 hpre4).2))
    · skip
      have g16 := i_nle h13
      refine ⟨i_ix (by omega) (by omega), ?_⟩
      have b17 := i_bd (mI S 71 (((mI S t 4) + (1 : Int32)) + i).toNatClampNeg)
      exact K ((mI S 71 (((mI S t 4) + (1 : Int32)) + i).toNatClampNeg)) _ hI trivial (show xB S R from by first | (exact (xC_o (W := 75) hpre0).2)) (show aS W S = ab from by first | (exact (xC_o (W := W) hpre0).1.trans hpre1)) (show (mI S 71 (((mI S t 4) + (1 : Int32)) + i).toNatClampNeg) = aWo ab y.toNatClampNeg i from by first | (have ty := xB_th (W := W) hpre0 hpre3; have e4 := ty.2.2.2.2.2.1; rw [hpre1] at e4; refine Eq.trans ?_ (if_pos ⟨by rw [← e4]; omega, by rw [← e4]; omega⟩).symm; rw [← hpre1, (aS_I (W := W) (S := S) (c := 71) (c₉ := 71)  rfl (zcw_s (by decide))), hpre1, ← e4])) (show kC S = kk from by first | (exact (xK_o (W := W) hpre0 hpre4).2))

