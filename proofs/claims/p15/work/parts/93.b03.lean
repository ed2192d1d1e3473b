/-! collectors, by what they keep (written by wip/tools/gen93b.py) -/
theorem g_33_81_0 {X : Nat × (Nat → Int32)} {d w : Nat} {S : ma_S} {Q : Option ma_V ⊕ Nat → ma_S → Prop}  (hd : 4 ≤ d) (hw : 92 ≤ w) (hS : zT S) (h : ma_wp X (d - 1) (w - 20) 264 0 [(0, .inr (.inr (some 81)))] [] S (zi (fun v2 S1 => zT S1 ∧ (ma_wp X d w 33 28 [(0, .inr (.inr (some 81))), (1, .inl v2), (2, .inl (0 : Int32))] [] (ma_put (ma_put S1 81 3 (.inl ((mI S1 81 2) - (mI S1 81 3)))) 81 4 (.inl ((mI S1 81 2) - (mI S1 81 3)))) Q)) (fun _ _ => False))) : ma_wp X d w 33 0 [(0, .inr (.inr (some 81)))] [] S Q := by
  refine zw_push hm_33 dX3_cleanAll_0 (v := .inr (.inr (some 81))) rfl ?_
  refine zw_cv hm_33 dX3_cleanAll_1 v_3_37_3 hm_264 [] [] rfl (zT_rt hS s_81 rfl) ⟨by omega, by omega⟩ rfl (zw_mono h (zi_go ?_ ?_))
  · intro v2 S1 hv
    obtain ⟨hS1, h⟩ := hv
    refine zw_sto hm_33 dX3_cleanAll_4 [(1, .inl v2), (0, .inr (.inr (some 81)))] rfl rfl rfl ?_
    refine zw_push hm_33 dX3_cleanAll_5 (v := .inr (.inr (some 81))) rfl ?_
    refine zw_push hm_33 dX3_cleanAll_6 (v := .inr (.inr (some 81))) rfl ?_
    refine zw_gf hm_33 dX3_cleanAll_7 (v := .inl (mI S1 81 2)) (zT_is hS1 s_81) (zT_t hS1 s_81) rfl f_3_9_3 rfl ?_
    refine zw_push hm_33 dX3_cleanAll_10 (v := .inr (.inr (some 81))) rfl ?_
    refine zw_gf hm_33 dX3_cleanAll_11 (v := .inl (mI S1 81 3)) (zT_is hS1 s_81) (zT_t hS1 s_81) rfl f_3_15_3 rfl ?_
    refine zw_stk hm_33 dX3_cleanAll_14 (st' := [.inl ((mI S1 81 2) - (mI S1 81 3)), .inr (.inr (some 81))]) rfl rfl ?_
    refine zw_pf hm_33 dX3_cleanAll_15 (zT_is hS1 s_81) (zT_t hS1 s_81) p_3_15_3 zk_int ?_
    refine zw_push hm_33 dX3_cleanAll_18 (v := .inr (.inr (some 81))) rfl ?_
    refine zw_push hm_33 dX3_cleanAll_19 (v := .inr (.inr (some 81))) rfl ?_
    refine zw_gf hm_33 dX3_cleanAll_20 (v := .inl ((mI S1 81 2) - (mI S1 81 3))) (zT_is (zT_pi hS1) s_81) (zT_t (zT_pi hS1) s_81) rfl f_3_15_3 rfl ?_
    refine zw_pf hm_33 dX3_cleanAll_23 (zT_is (zT_pi hS1) s_81) (zT_t (zT_pi hS1) s_81) p_3_18_3 zk_int ?_
    refine zw_push hm_33 dX3_cleanAll_26 (v := .inl (0 : Int32)) rfl ?_
    refine zw_sto hm_33 dX3_cleanAll_27 [(2, .inl (0 : Int32)), (1, .inl v2), (0, .inr (.inr (some 81)))] rfl rfl rfl ?_
    exact zw_sub (ma_nd_of (ks := [0, 1, 2]) rfl (by decide)) (ma_nd_of (ks := [2, 1, 0]) rfl (by decide)) (ma_le_cons rfl (ma_le_cons rfl (ma_le_cons rfl (ma_le_nil _)))) h
  · intro x S9 hx
    exact hx.elim
theorem g_33_81_28 {X : Nat × (Nat → Int32)} {d w : Nat} {S : ma_S} {Q : Option ma_V ⊕ Nat → ma_S → Prop} (l1 : Int32) (l2 : Int32) (hd : 4 ≤ d) (hw : 114 ≤ w) (hS : zT S) (h : if (mI S 75 4) ≤ l2 then (Q (.inl (some (.inl l1))) S) else (ma_wp X (d - 1) (w - 21) 124 0 [(0, .inr (.inr (some 75))), (1, .inl l2)] [] S (zo (fun v2 S1 => zT S1 ∧ ((v2 = none → ma_wp X d w 33 28 [(0, .inr (.inr (some 81))), (1, .inl l1), (2, .inl (l2 + (1 : Int32)))] [] S1 Q) ∧ (∀ c3, v2 = some c3 → ma_wp X (d - 1) (w - 24) 90 0 [(0, .inr (.inr (some 69))), (1, .inr (.inr (some c3))), (2, .inl (mI S1 81 4))] [] S1 (zv (fun S4 => zT S4 ∧ ((126 ≤ c3 ∧ c3 < mN S4) ∧ (ma_wp X d w 33 28 [(0, .inr (.inr (some 81))), (1, .inl l1), (2, .inl (l2 + (1 : Int32)))] [] (ma_put S4 81 4 (.inl ((mI S4 81 4) + (mI S4 c3 2)))) Q))) (fun x S9 => Q (.inr x) S9))))) (fun x S9 => Q (.inr x) S9)))) : ma_wp X d w 33 28 [(0, .inr (.inr (some 81))), (1, .inl l1), (2, .inl l2)] [] S Q := by
  refine zw_push hm_33 dX3_cleanAll_28 (v := .inl l2) rfl ?_
  refine zw_push hm_33 dX3_cleanAll_29 (v := .inr (.inr (some 81))) rfl ?_
  refine zw_gf hm_33 dX3_cleanAll_30 (v := .inr (.inr (some 75))) (zT_is hS s_81) (zT_t hS s_81) rfl f_3_40_3 (zT_f hS r_81_1) ?_
  refine zw_gf hm_33 dX3_cleanAll_33 (v := .inl (mI S 75 4)) (zT_is hS s_75) (zT_t hS s_75) rfl f_3_44_10 rfl ?_
  refine zw_if2 hm_33 dX3_cleanAll_36 (t := 83) rfl zc2_ge ?_ ?_
  · intro hc
    rw [if_pos hc] at h
    refine zw_push hm_33 dX3_cleanAll_83 (v := .inl l1) rfl ?_
    exact zw_iret hm_33 dX3_cleanAll_84 h
  · intro hc
    rw [if_neg hc] at h
    refine zw_push hm_33 dX3_cleanAll_39 (v := .inr (.inr (some 81))) rfl ?_
    refine zw_gf hm_33 dX3_cleanAll_40 (v := .inr (.inr (some 75))) (zT_is hS s_81) (zT_t hS s_81) rfl f_3_40_3 (zT_f hS r_81_1) ?_
    refine zw_push hm_33 dX3_cleanAll_43 (v := .inl l2) rfl ?_
    refine zw_cv hm_33 dX3_cleanAll_44 v_3_49_10 hm_124 [.inl l2] [] rfl (zT_rt hS s_75 rfl) ⟨by omega, by omega⟩ rfl (zw_mono h (zo_go ?_ ?_))
    · intro v2 S1 hv
      obtain ⟨hS1, h⟩ := hv
      refine zw_sto hm_33 dX3_cleanAll_47 [(3, .inr (.inr v2)), (0, .inr (.inr (some 81))), (1, .inl l1), (2, .inl l2)] rfl rfl rfl ?_
      refine zw_push hm_33 dX3_cleanAll_48 (v := .inr (.inr v2)) rfl ?_
      refine zw_ifnull hm_33 dX3_cleanAll_49 (t := 77) rfl ?_ ?_
      · intro hc
        have h := h.1 hc
        (try rw [hc])
        show ma_wp X d w 33 77 [(3, .inr (.inr none)), (0, .inr (.inr (some 81))), (1, .inl l1), (2, .inl l2)] [] S1 _
        refine zw_sto hm_33 dX3_cleanAll_77 [(2, .inl (l2 + (1 : Int32))), (3, .inr (.inr none)), (0, .inr (.inr (some 81))), (1, .inl l1)] rfl rfl rfl ?_
        refine zw_goto hm_33 dX3_cleanAll_80 (t := 28) rfl ?_
        exact zw_sub (ma_nd_of (ks := [0, 1, 2]) rfl (by decide)) (ma_nd_of (ks := [2, 3, 0, 1]) rfl (by decide)) (ma_le_cons rfl (ma_le_cons rfl (ma_le_cons rfl (ma_le_nil _)))) h
      · intro c3 hc
        have h := h.2 c3 hc
        (try rw [hc])
        show ma_wp X d w 33 52 [(3, .inr (.inr (some c3))), (0, .inr (.inr (some 81))), (1, .inl l1), (2, .inl l2)] [] S1 _
        refine zw_push hm_33 dX3_cleanAll_52 (v := .inr (.inr (some 81))) rfl ?_
        refine zw_gf hm_33 dX3_cleanAll_53 (v := .inr (.inr (some 69))) (zT_is hS1 s_81) (zT_t hS1 s_81) rfl f_3_53_3 (zT_f hS1 r_81_0) ?_
        refine zw_push hm_33 dX3_cleanAll_56 (v := .inr (.inr (some c3))) rfl ?_
        refine zw_push hm_33 dX3_cleanAll_57 (v := .inr (.inr (some 81))) rfl ?_
        refine zw_gf hm_33 dX3_cleanAll_58 (v := .inl (mI S1 81 4)) (zT_is hS1 s_81) (zT_t hS1 s_81) rfl f_3_18_3 rfl ?_
        refine zw_cv hm_33 dX3_cleanAll_61 v_3_57_7 hm_90 [.inl (mI S1 81 4), .inr (.inr (some c3))] [] rfl (zT_rt hS1 s_69 rfl) ⟨by omega, by omega⟩ rfl (zw_mono h (zv_go ?_ ?_))
        · intro S4 hv
          obtain ⟨hS4, h⟩ := hv
          refine zw_push hm_33 dX3_cleanAll_64 (v := .inr (.inr (some 81))) rfl ?_
          refine zw_stk hm_33 dX3_cleanAll_65 (st' := [.inr (.inr (some 81)), .inr (.inr (some 81))]) rfl rfl ?_
          refine zw_gf hm_33 dX3_cleanAll_66 (v := .inl (mI S4 81 4)) (zT_is hS4 s_81) (zT_t hS4 s_81) rfl f_3_18_3 rfl ?_
          refine zw_push hm_33 dX3_cleanAll_69 (v := .inr (.inr (some c3))) rfl ?_
          obtain ⟨hg, h⟩ := h
          refine zw_gf hm_33 dX3_cleanAll_70 (v := .inl (mI S4 c3 2)) (zT_tis hS4 hg) (zT_tt hS4 hg) rfl f_3_34_9 rfl ?_
          refine zw_stk hm_33 dX3_cleanAll_73 (st' := [.inl ((mI S4 81 4) + (mI S4 c3 2)), .inr (.inr (some 81))]) rfl rfl ?_
          refine zw_pf hm_33 dX3_cleanAll_74 (zT_is hS4 s_81) (zT_t hS4 s_81) p_3_18_3 zk_int ?_
          refine zw_sto hm_33 dX3_cleanAll_77 [(2, .inl (l2 + (1 : Int32))), (3, .inr (.inr (some c3))), (0, .inr (.inr (some 81))), (1, .inl l1)] rfl rfl rfl ?_
          refine zw_goto hm_33 dX3_cleanAll_80 (t := 28) rfl ?_
          exact zw_sub (ma_nd_of (ks := [0, 1, 2]) rfl (by decide)) (ma_nd_of (ks := [2, 3, 0, 1]) rfl (by decide)) (ma_le_cons rfl (ma_le_cons rfl (ma_le_cons rfl (ma_le_nil _)))) h
        · intro x S9 hx
          exact ⟨by decide, hx⟩
    · intro x S9 hx
      exact ⟨by decide, hx⟩
theorem lp_33_81_28 {X : Nat × (Nat → Int32)} {d w : Nat} {f : Nat → Nat → Int32} {r : Nat → Nat → Option Nat} {C Z N : Nat} {Q : Option ma_V ⊕ Nat → ma_S → Prop} (hd : 4 ≤ d) (hw : 114 ≤ w) (K : ∀ v S', zJ81 f r C Z N S' → (True) → Q (.inl (some (.inl v))) S') : ∀ (n : Nat) (S : ma_S) (l1 : Int32) (l2 : Int32), (512 - l2.toInt).toNat = n → zJ81 f r C Z N S → (0 ≤ l2.toInt) → ((mI S 81 4).toInt ≤ 1500 + 61 * l2.toInt) → ma_wp X d w 33 28 [(0, .inr (.inr (some 81))), (1, .inl l1), (2, .inl l2)] [] S Q := by
  intro n
  induction n using Nat.strongRecOn with
  | _ n IH =>
    intro S l1 l2 hmu hI  hi0 hi1
    refine g_33_81_28 l1 l2 (by omega) (by omega) (zG_T hI) ?_
    have f1 := zG_s hI (0) (512) (c := 75) (k := 4) (by decide)
    have b2 := i_bd l2
    refine zd (fun h3 => ?_) (fun h3 => ?_)
    · skip
      have g4 := i_le h3
      have b5 := i_bd l1
      exact K (l1) _ hI trivial
    · skip
      have g6 := i_nle h3
      refine sp_124_75 (l2) (by omega) (by omega) (zJ81_dn hI)  (fun v2 S1 hL_S1 hq_v2 => zo_n ⟨zG_T hL_S1, ?_⟩)
      have hI_S1 := zJ81_up hI hL_S1
      refine ⟨fun _ => ?_, fun c3 hc => ?_⟩
      · skip
        have b7 := i_bd l1
        first | have e8 : (l2 + (1 : Int32)).toInt = l2.toInt + (1) := i_addk rfl (by omega) (by omega) | have b9 := i_bd (l2 + (1 : Int32))
        have f10 := zG_s hI (0) (400000) (c := 81) (k := 4) (by decide)
        have q11 : (mI S1 81 4).toInt = (mI S 81 4).toInt := zG_zi hL_S1 rfl
        have f12 := zG_s hI_S1 (0) (400000) (c := 81) (k := 4) (by decide)
        exact IH _ (by omega) _ (l1) ((l2 + (1 : Int32))) rfl hI_S1 (by omega) (show (mI S1 81 4).toInt ≤ 1500 + 61 * ((l2 + (1 : Int32))).toInt from by omega)
      · skip
        have th_c3 := hq_v2 c3 hc
        subst hc
        have f13 := zG_s hI (0) (400000) (c := 81) (k := 4) (by decide)
        have q14 : (mI S1 81 4).toInt = (mI S 81 4).toInt := zG_zi hL_S1 rfl
        have f15 := zG_s hI_S1 (0) (400000) (c := 81) (k := 4) (by decide)
        refine sp_90_69 c3 ((mI S1 81 4)) (by omega) (by omega) (zJ81_dn hI_S1) th_c3 (by omega) (fun S4 hL_S4 => zv_n ⟨zG_T hL_S4, ?_⟩)
        have hI_S4 := zJ81_up hI_S1 hL_S4
        refine ⟨zG_n hI_S4 th_c3, ?_⟩
        have q17 : (mI S4 81 4).toInt = (mI S1 81 4).toInt := zG_zi hL_S4 rfl
        have f18 := zG_s hI_S4 (0) (400000) (c := 81) (k := 4) (by decide)
        have f19 := zG_th hI_S4 th_c3
        first | have e20 : ((mI S4 81 4) + (mI S4 c3 2)).toInt = (mI S4 81 4).toInt + (mI S4 c3 2).toInt := i_add (by omega) (by omega) | have b21 := i_bd ((mI S4 81 4) + (mI S4 c3 2))
        have hI16 : zJ81 f r C Z N (ma_put S4 81 4 (.inl ((mI S4 81 4) + (mI S4 c3 2)))) := zG_sp hI_S4 (0) (400000) rfl (by decide) (by decide) (by decide) (show zJ81_x (mI S4) from zG_x hI_S4) (by omega) (by omega)
        have b22 := i_bd l1
        first | have e23 : (l2 + (1 : Int32)).toInt = l2.toInt + (1) := i_addk rfl (by omega) (by omega) | have b24 := i_bd (l2 + (1 : Int32))
        exact IH _ (by omega) _ (l1) ((l2 + (1 : Int32))) rfl hI16 (by omega) (show ((mI S4 81 4) + (mI S4 c3 2)).toInt ≤ 1500 + 61 * ((l2 + (1 : Int32))).toInt from by omega)
theorem sp_33_81 {X : Nat × (Nat → Int32)} {d w : Nat} {f : Nat → Nat → Int32} {r : Nat → Nat → Option Nat} {C Z N : Nat} {Q : Option ma_V ⊕ Nat → ma_S → Prop} {S : ma_S}  (hd : 4 ≤ d) (hw : 114 ≤ w) (hI : zJ81 f r C Z N S)  (K : ∀ v S', zJ81 f r C Z N S' → (True) → Q (.inl (some (.inl v))) S') : ma_wp X d w 33 0 [(0, .inr (.inr (some 81)))] [] S Q := by
  refine g_33_81_0  (by omega) (by omega) (zG_T hI) ?_
  refine sp_264_81  (by omega) (by omega) (zJ81_dn hI)  (fun v2 S1 hL_S1 hp_v2 => zi_n ⟨zG_T hL_S1, ?_⟩)
  have hI_S1 := zJ81_up hI hL_S1
  have x2 : 0 ≤ (mI S 81 3).toInt ∧ (mI S 81 3).toInt ≤ (mI S 81 2).toInt := zG_x hI
  have f3 := zG_s hI (0) (1500) (c := 81) (k := 2) (by decide)
  have q4 : (mI S1 81 2).toInt = (mI S 81 2).toInt := zG_zi hL_S1 rfl
  have x5 : 0 ≤ (mI S1 81 3).toInt ∧ (mI S1 81 3).toInt ≤ (mI S1 81 2).toInt := zG_x hI_S1
  have f6 := zG_s hI_S1 (0) (1500) (c := 81) (k := 2) (by decide)
  have f7 := zG_s hI (0) (1500) (c := 81) (k := 3) (by decide)
  have q8 : (mI S1 81 3).toInt = (mI S 81 3).toInt := zG_zi hL_S1 rfl
  have f9 := zG_s hI_S1 (0) (1500) (c := 81) (k := 3) (by decide)
  first | have e10 : ((mI S1 81 2) - (mI S1 81 3)).toInt = (mI S1 81 2).toInt - (mI S1 81 3).toInt := i_sub (by omega) (by omega) | have b11 := i_bd ((mI S1 81 2) - (mI S1 81 3))
  have hI1 : zJ81 f r C Z N (ma_put S1 81 3 (.inl ((mI S1 81 2) - (mI S1 81 3)))) := zG_sp hI_S1 (0) (1500) rfl (by decide) (by decide) (by decide) (show 0 ≤ ((mI S1 81 2) - (mI S1 81 3)).toInt ∧ ((mI S1 81 2) - (mI S1 81 3)).toInt ≤ (mI S1 81 2).toInt from by omega) (by omega) (by omega)
  have hI12 : zJ81 f r C Z N (ma_put (ma_put S1 81 3 (.inl ((mI S1 81 2) - (mI S1 81 3)))) 81 4 (.inl ((mI S1 81 2) - (mI S1 81 3)))) := zG_sp hI1 (0) (400000) rfl (by decide) (by decide) (by decide) (show zJ81_x (mI (ma_put S1 81 3 (.inl ((mI S1 81 2) - (mI S1 81 3))))) from zG_x hI1) (by omega) (by omega)
  have b13 := i_bd v2
  have li14 : (0 : Int32).toInt = 0 := rfl
  exact lp_33_81_28 (by omega) (by omega) K _ _ (v2) ((0 : Int32)) rfl hI12 (by omega) (show ((mI S1 81 2) - (mI S1 81 3)).toInt ≤ 1500 + 61 * ((0 : Int32)).toInt from by omega)
theorem g_31_81_0 {X : Nat × (Nat → Int32)} {d w : Nat} {S : ma_S} {Q : Option ma_V ⊕ Nat → ma_S → Prop} (n : Int32) (hd : 5 ≤ d) (hw : 137 ≤ w) (hS : zT S) (h : if ((mI S 81 3) + (mI S 81 2)) < ((mI S 81 4) + n) then (ma_wp X (d - 1) (w - 23) 33 0 [(0, .inr (.inr (some 81)))] [] S (zi (fun v2 S1 => zT S1 ∧ (if ((mI S1 81 3) + (mI S1 81 2)) < ((mI S1 81 4) + n) then (Q (.inl (some (.inl (-1 : Int32)))) S1) else (Q (.inl (some (.inl (mI S1 81 4)))) S1))) (fun x S9 => Q (.inr x) S9))) else (if ((mI S 81 3) + (mI S 81 2)) < ((mI S 81 4) + n) then (Q (.inl (some (.inl (-1 : Int32)))) S) else (Q (.inl (some (.inl (mI S 81 4)))) S))) : ma_wp X d w 31 0 [(0, .inr (.inr (some 81))), (1, .inl n)] [] S Q := by
  refine zw_push hm_31 dX3_findRoom_0 (v := .inr (.inr (some 81))) rfl ?_
  refine zw_push hm_31 dX3_findRoom_1 (v := .inl n) rfl ?_
  refine zw_cv hm_31 dX3_findRoom_2 v_3_21_3 hm_32 [.inl n] [] rfl (zT_rt hS s_81 rfl) ⟨by omega, by omega⟩ rfl ?_
  show ma_wp X (d - 1) (w - 21) 32 0 [(0, .inr (.inr (some 81))), (1, .inl n)] [] S _
  refine zw_push hm_32 dX3_hasRoom_0 (v := .inr (.inr (some 81))) rfl ?_
  refine zw_gf hm_32 dX3_hasRoom_1 (v := .inl (mI S 81 4)) (zT_is hS s_81) (zT_t hS s_81) rfl f_3_18_3 rfl ?_
  refine zw_push hm_32 dX3_hasRoom_4 (v := .inl n) rfl ?_
  refine zw_stk hm_32 dX3_hasRoom_5 (st' := [.inl ((mI S 81 4) + n)]) rfl rfl ?_
  refine zw_push hm_32 dX3_hasRoom_6 (v := .inr (.inr (some 81))) rfl ?_
  refine zw_gf hm_32 dX3_hasRoom_7 (v := .inl (mI S 81 3)) (zT_is hS s_81) (zT_t hS s_81) rfl f_3_15_3 rfl ?_
  refine zw_push hm_32 dX3_hasRoom_10 (v := .inr (.inr (some 81))) rfl ?_
  refine zw_gf hm_32 dX3_hasRoom_11 (v := .inl (mI S 81 2)) (zT_is hS s_81) (zT_t hS s_81) rfl f_3_9_3 rfl ?_
  refine zw_stk hm_32 dX3_hasRoom_14 (st' := [.inl ((mI S 81 3) + (mI S 81 2)), .inl ((mI S 81 4) + n)]) rfl rfl ?_
  refine zw_if2 hm_32 dX3_hasRoom_15 (t := 22) rfl zc2_gt ?_ ?_
  · intro hc
    rw [if_pos hc] at h
    refine zw_push hm_32 dX3_hasRoom_22 (v := .inl (0 : Int32)) rfl ?_
    refine zw_bret hm_32 dX3_hasRoom_23 (by decide) ?_
    show ma_wp X d w 31 5 [(0, .inr (.inr (some 81))), (1, .inl n)] [.inl (0 : Int32)] S _
    refine zw_if0 hm_31 dX3_findRoom_5 (t := 13) rfl zc0_ne (fun hc => absurd hc (by decide)) (fun _ => ?_)
    refine zw_push hm_31 dX3_findRoom_8 (v := .inr (.inr (some 81))) rfl ?_
    refine zw_cv hm_31 dX3_findRoom_9 v_3_25_3 hm_33 [] [] rfl (zT_rt hS s_81 rfl) ⟨by omega, by omega⟩ rfl (zw_mono h (zi_go ?_ ?_))
    · intro v2 S1 hv
      obtain ⟨hS1, h⟩ := hv
      refine zw_stk hm_31 dX3_findRoom_12 (st' := []) rfl rfl ?_
      refine zw_push hm_31 dX3_findRoom_13 (v := .inr (.inr (some 81))) rfl ?_
      refine zw_push hm_31 dX3_findRoom_14 (v := .inl n) rfl ?_
      refine zw_cv hm_31 dX3_findRoom_15 v_3_21_3 hm_32 [.inl n] [] rfl (zT_rt hS1 s_81 rfl) ⟨by omega, by omega⟩ rfl ?_
      show ma_wp X (d - 1) (w - 21) 32 0 [(0, .inr (.inr (some 81))), (1, .inl n)] [] S1 _
      refine zw_push hm_32 dX3_hasRoom_0 (v := .inr (.inr (some 81))) rfl ?_
      refine zw_gf hm_32 dX3_hasRoom_1 (v := .inl (mI S1 81 4)) (zT_is hS1 s_81) (zT_t hS1 s_81) rfl f_3_18_3 rfl ?_
      refine zw_push hm_32 dX3_hasRoom_4 (v := .inl n) rfl ?_
      refine zw_stk hm_32 dX3_hasRoom_5 (st' := [.inl ((mI S1 81 4) + n)]) rfl rfl ?_
      refine zw_push hm_32 dX3_hasRoom_6 (v := .inr (.inr (some 81))) rfl ?_
      refine zw_gf hm_32 dX3_hasRoom_7 (v := .inl (mI S1 81 3)) (zT_is hS1 s_81) (zT_t hS1 s_81) rfl f_3_15_3 rfl ?_
      refine zw_push hm_32 dX3_hasRoom_10 (v := .inr (.inr (some 81))) rfl ?_
      refine zw_gf hm_32 dX3_hasRoom_11 (v := .inl (mI S1 81 2)) (zT_is hS1 s_81) (zT_t hS1 s_81) rfl f_3_9_3 rfl ?_
      refine zw_stk hm_32 dX3_hasRoom_14 (st' := [.inl ((mI S1 81 3) + (mI S1 81 2)), .inl ((mI S1 81 4) + n)]) rfl rfl ?_
      refine zw_if2 hm_32 dX3_hasRoom_15 (t := 22) rfl zc2_gt ?_ ?_
      · intro hc
        rw [if_pos hc] at h
        refine zw_push hm_32 dX3_hasRoom_22 (v := .inl (0 : Int32)) rfl ?_
        refine zw_bret hm_32 dX3_hasRoom_23 (by decide) ?_
        show ma_wp X d w 31 18 [(0, .inr (.inr (some 81))), (1, .inl n)] [.inl (0 : Int32)] S1 _
        refine zw_if0 hm_31 dX3_findRoom_18 (t := 28) rfl zc0_eq (fun _ => ?_) (fun hc => absurd (by decide) hc)
        refine zw_push hm_31 dX3_findRoom_28 (v := .inl (-1 : Int32)) rfl ?_
        exact zw_iret hm_31 dX3_findRoom_29 h
      · intro hc
        rw [if_neg hc] at h
        refine zw_push hm_32 dX3_hasRoom_18 (v := .inl (1 : Int32)) rfl ?_
        refine zw_goto hm_32 dX3_hasRoom_19 (t := 23) rfl ?_
        refine zw_bret hm_32 dX3_hasRoom_23 (by decide) ?_
        show ma_wp X d w 31 18 [(0, .inr (.inr (some 81))), (1, .inl n)] [.inl (1 : Int32)] S1 _
        refine zw_if0 hm_31 dX3_findRoom_18 (t := 28) rfl zc0_eq (fun hc => absurd hc (by decide)) (fun _ => ?_)
        refine zw_push hm_31 dX3_findRoom_21 (v := .inr (.inr (some 81))) rfl ?_
        refine zw_gf hm_31 dX3_findRoom_22 (v := .inl (mI S1 81 4)) (zT_is hS1 s_81) (zT_t hS1 s_81) rfl f_3_18_3 rfl ?_
        refine zw_goto hm_31 dX3_findRoom_25 (t := 29) rfl ?_
        exact zw_iret hm_31 dX3_findRoom_29 h
    · intro x S9 hx
      exact ⟨by decide, hx⟩
  · intro hc
    rw [if_neg hc] at h
    refine zw_push hm_32 dX3_hasRoom_18 (v := .inl (1 : Int32)) rfl ?_
    refine zw_goto hm_32 dX3_hasRoom_19 (t := 23) rfl ?_
    refine zw_bret hm_32 dX3_hasRoom_23 (by decide) ?_
    show ma_wp X d w 31 5 [(0, .inr (.inr (some 81))), (1, .inl n)] [.inl (1 : Int32)] S _
    refine zw_if0 hm_31 dX3_findRoom_5 (t := 13) rfl zc0_ne (fun _ => ?_) (fun hc => absurd (by decide) hc)
    refine zw_push hm_31 dX3_findRoom_13 (v := .inr (.inr (some 81))) rfl ?_
    refine zw_push hm_31 dX3_findRoom_14 (v := .inl n) rfl ?_
    refine zw_cv hm_31 dX3_findRoom_15 v_3_21_3 hm_32 [.inl n] [] rfl (zT_rt hS s_81 rfl) ⟨by omega, by omega⟩ rfl ?_
    show ma_wp X (d - 1) (w - 21) 32 0 [(0, .inr (.inr (some 81))), (1, .inl n)] [] S _
    refine zw_push hm_32 dX3_hasRoom_0 (v := .inr (.inr (some 81))) rfl ?_
    refine zw_gf hm_32 dX3_hasRoom_1 (v := .inl (mI S 81 4)) (zT_is hS s_81) (zT_t hS s_81) rfl f_3_18_3 rfl ?_
    refine zw_push hm_32 dX3_hasRoom_4 (v := .inl n) rfl ?_
    refine zw_stk hm_32 dX3_hasRoom_5 (st' := [.inl ((mI S 81 4) + n)]) rfl rfl ?_
    refine zw_push hm_32 dX3_hasRoom_6 (v := .inr (.inr (some 81))) rfl ?_
    refine zw_gf hm_32 dX3_hasRoom_7 (v := .inl (mI S 81 3)) (zT_is hS s_81) (zT_t hS s_81) rfl f_3_15_3 rfl ?_
    refine zw_push hm_32 dX3_hasRoom_10 (v := .inr (.inr (some 81))) rfl ?_
    refine zw_gf hm_32 dX3_hasRoom_11 (v := .inl (mI S 81 2)) (zT_is hS s_81) (zT_t hS s_81) rfl f_3_9_3 rfl ?_
    refine zw_stk hm_32 dX3_hasRoom_14 (st' := [.inl ((mI S 81 3) + (mI S 81 2)), .inl ((mI S 81 4) + n)]) rfl rfl ?_
    refine zw_if2 hm_32 dX3_hasRoom_15 (t := 22) rfl zc2_gt ?_ ?_
    · intro hc
      rw [if_pos hc] at h
      refine zw_push hm_32 dX3_hasRoom_22 (v := .inl (0 : Int32)) rfl ?_
      refine zw_bret hm_32 dX3_hasRoom_23 (by decide) ?_
      show ma_wp X d w 31 18 [(0, .inr (.inr (some 81))), (1, .inl n)] [.inl (0 : Int32)] S _
      refine zw_if0 hm_31 dX3_findRoom_18 (t := 28) rfl zc0_eq (fun _ => ?_) (fun hc => absurd (by decide) hc)
      refine zw_push hm_31 dX3_findRoom_28 (v := .inl (-1 : Int32)) rfl ?_
      exact zw_iret hm_31 dX3_findRoom_29 h
    · intro hc
      rw [if_neg hc] at h
      refine zw_push hm_32 dX3_hasRoom_18 (v := .inl (1 : Int32)) rfl ?_
      refine zw_goto hm_32 dX3_hasRoom_19 (t := 23) rfl ?_
      refine zw_bret hm_32 dX3_hasRoom_23 (by decide) ?_
      show ma_wp X d w 31 18 [(0, .inr (.inr (some 81))), (1, .inl n)] [.inl (1 : Int32)] S _
      refine zw_if0 hm_31 dX3_findRoom_18 (t := 28) rfl zc0_eq (fun hc => absurd hc (by decide)) (fun _ => ?_)
      refine zw_push hm_31 dX3_findRoom_21 (v := .inr (.inr (some 81))) rfl ?_
      refine zw_gf hm_31 dX3_findRoom_22 (v := .inl (mI S 81 4)) (zT_is hS s_81) (zT_t hS s_81) rfl f_3_18_3 rfl ?_
      refine zw_goto hm_31 dX3_findRoom_25 (t := 29) rfl ?_
      exact zw_iret hm_31 dX3_findRoom_29 h
theorem sp_31_81 {X : Nat × (Nat → Int32)} {d w : Nat} {f : Nat → Nat → Int32} {r : Nat → Nat → Option Nat} {C Z N : Nat} {Q : Option ma_V ⊕ Nat → ma_S → Prop} {S : ma_S} (n : Int32) (hd : 5 ≤ d) (hw : 137 ≤ w) (hI : zJ81 f r C Z N S) (hpre0 : 1 ≤ n.toInt) (hpre1 : n.toInt ≤ 61) (K : ∀ v S', zJ81 f r C Z N S' → (-1 ≤ v.toInt ∧ v.toInt ≤ 300000) → Q (.inl (some (.inl v))) S') : ma_wp X d w 31 0 [(0, .inr (.inr (some 81))), (1, .inl n)] [] S Q := by
  refine g_31_81_0 n (by omega) (by omega) (zG_T hI) ?_
  have x1 : 0 ≤ (mI S 81 3).toInt ∧ (mI S 81 3).toInt ≤ (mI S 81 2).toInt := zG_x hI
  have f2 := zG_s hI (0) (1500) (c := 81) (k := 3) (by decide)
  have f3 := zG_s hI (0) (1500) (c := 81) (k := 2) (by decide)
  first | have e4 : ((mI S 81 3) + (mI S 81 2)).toInt = (mI S 81 3).toInt + (mI S 81 2).toInt := i_add (by omega) (by omega) | have b5 := i_bd ((mI S 81 3) + (mI S 81 2))
  have f6 := zG_s hI (0) (400000) (c := 81) (k := 4) (by decide)
  have b7 := i_bd n
  first | have e8 : ((mI S 81 4) + n).toInt = (mI S 81 4).toInt + n.toInt := i_add (by omega) (by omega) | have b9 := i_bd ((mI S 81 4) + n)
  refine zd (fun h10 => ?_) (fun h10 => ?_)
  · skip
    have g11 := i_lt h10
    refine sp_33_81  (by omega) (by omega) hI  (fun v2 S1 hI_S1 hp_v2 => zi_n ⟨zG_T hI_S1, ?_⟩)
    have x12 : 0 ≤ (mI S1 81 3).toInt ∧ (mI S1 81 3).toInt ≤ (mI S1 81 2).toInt := zG_x hI_S1
    have f13 := zG_s hI_S1 (0) (1500) (c := 81) (k := 3) (by decide)
    have f14 := zG_s hI_S1 (0) (1500) (c := 81) (k := 2) (by decide)
    first | have e15 : ((mI S1 81 3) + (mI S1 81 2)).toInt = (mI S1 81 3).toInt + (mI S1 81 2).toInt := i_add (by omega) (by omega) | have b16 := i_bd ((mI S1 81 3) + (mI S1 81 2))
    have f17 := zG_s hI_S1 (0) (400000) (c := 81) (k := 4) (by decide)
    first | have e18 : ((mI S1 81 4) + n).toInt = (mI S1 81 4).toInt + n.toInt := i_add (by omega) (by omega) | have b19 := i_bd ((mI S1 81 4) + n)
    refine zd (fun h20 => ?_) (fun h20 => ?_)
    · skip
      have g21 := i_lt h20
      have li22 : (-1 : Int32).toInt = -1 := rfl
      exact K ((-1 : Int32)) _ hI_S1 (by omega)
    · skip
      have g23 := i_nlt h20
      exact K ((mI S1 81 4)) _ hI_S1 (by omega)
  · skip
    have g24 := i_nlt h10
    refine zd (fun h25 => ?_) (fun h25 => ?_)
    · skip
      have g26 := i_lt h25
      have li27 : (-1 : Int32).toInt = -1 := rfl
      exact K ((-1 : Int32)) _ hI (by omega)
    · skip
      have g28 := i_nlt h25
      exact K ((mI S 81 4)) _ hI (by omega)
theorem g_34_81_0 {X : Nat × (Nat → Int32)} {d w : Nat} {S : ma_S} {Q : Option ma_V ⊕ Nat → ma_S → Prop} (t : Nat) (hd : 0 ≤ d) (hw : 0 ≤ w) (hS : zT S) (h : (126 ≤ t ∧ t < mN S) ∧ ((126 ≤ t ∧ t < mN S) ∧ (Q (.inl none) (ma_put S 81 4 (.inl ((mI S t 4) + (mI S t 2))))))) : ma_wp X d w 34 0 [(0, .inr (.inr (some 81))), (1, .inr (.inr (some t)))] [] S Q := by
  refine zw_push hm_34 dX3_noteMade_0 (v := .inr (.inr (some 81))) rfl ?_
  refine zw_push hm_34 dX3_noteMade_1 (v := .inr (.inr (some t))) rfl ?_
  obtain ⟨hg, h⟩ := h
  refine zw_gf hm_34 dX3_noteMade_2 (v := .inl (mI S t 4)) (zT_tis hS hg) (zT_tt hS hg) rfl f_3_29_9 rfl ?_
  refine zw_push hm_34 dX3_noteMade_5 (v := .inr (.inr (some t))) rfl ?_
  obtain ⟨hg, h⟩ := h
  refine zw_gf hm_34 dX3_noteMade_6 (v := .inl (mI S t 2)) (zT_tis hS hg) (zT_tt hS hg) rfl f_3_34_9 rfl ?_
  refine zw_stk hm_34 dX3_noteMade_9 (st' := [.inl ((mI S t 4) + (mI S t 2)), .inr (.inr (some 81))]) rfl rfl ?_
  refine zw_pf hm_34 dX3_noteMade_10 (zT_is hS s_81) (zT_t hS s_81) p_3_18_3 zk_int ?_
  exact zw_vret hm_34 dX3_noteMade_13 h
theorem sp_34_81 {X : Nat × (Nat → Int32)} {d w : Nat} {f : Nat → Nat → Int32} {r : Nat → Nat → Option Nat} {C Z N : Nat} {Q : Option ma_V ⊕ Nat → ma_S → Prop} {S : ma_S} (t : Nat) (hd : 0 ≤ d) (hw : 0 ≤ w) (hI : zJ81 f r C Z N S) (th_t : 126 ≤ t ∧ t < N) (K : ∀ S', zJ81 f r C Z N S' → Q (.inl none) S') : ma_wp X d w 34 0 [(0, .inr (.inr (some 81))), (1, .inr (.inr (some t)))] [] S Q := by
  refine g_34_81_0 t (by omega) (by omega) (zG_T hI) ?_
  refine ⟨zG_n hI th_t, ?_⟩
  refine ⟨zG_n hI th_t, ?_⟩
  have f2 := zG_th hI th_t
  have f3 := zG_th hI th_t
  first | have e4 : ((mI S t 4) + (mI S t 2)).toInt = (mI S t 4).toInt + (mI S t 2).toInt := i_add (by omega) (by omega) | have b5 := i_bd ((mI S t 4) + (mI S t 2))
  have hI1 : zJ81 f r C Z N (ma_put S 81 4 (.inl ((mI S t 4) + (mI S t 2)))) := zG_sp hI (0) (400000) rfl (by decide) (by decide) (by decide) (show zJ81_x (mI S) from zG_x hI) (by omega) (by omega)
  exact K _ hI1
theorem g_30_81_0 {X : Nat × (Nat → Int32)} {d w : Nat} {S : ma_S} {Q : Option ma_V ⊕ Nat → ma_S → Prop}  (hd : 0 ≤ d) (hw : 0 ≤ w) (hS : zT S) (h : Q (.inl (some (.inl ((2 : Int32) * (mI S 81 2))))) S) : ma_wp X d w 30 0 [(0, .inr (.inr (some 81)))] [] S Q := by
  refine zw_push hm_30 dX3_total_0 (v := .inl (2 : Int32)) rfl ?_
  refine zw_push hm_30 dX3_total_1 (v := .inr (.inr (some 81))) rfl ?_
  refine zw_gf hm_30 dX3_total_2 (v := .inl (mI S 81 2)) (zT_is hS s_81) (zT_t hS s_81) rfl f_3_9_3 rfl ?_
  refine zw_stk hm_30 dX3_total_5 (st' := [.inl ((2 : Int32) * (mI S 81 2))]) rfl rfl ?_
  exact zw_iret hm_30 dX3_total_6 h
theorem sp_30_81 {X : Nat × (Nat → Int32)} {d w : Nat} {f : Nat → Nat → Int32} {r : Nat → Nat → Option Nat} {C Z N : Nat} {Q : Option ma_V ⊕ Nat → ma_S → Prop} {S : ma_S}  (hd : 0 ≤ d) (hw : 0 ≤ w) (hI : zJ81 f r C Z N S)  (K : ∀ v S', zJ81 f r C Z N S' → (True) → Q (.inl (some (.inl v))) S') : ma_wp X d w 30 0 [(0, .inr (.inr (some 81)))] [] S Q := by
  refine g_30_81_0  (by omega) (by omega) (zG_T hI) ?_
  have li1 : (2 : Int32).toInt = 2 := rfl
  have x2 : 0 ≤ (mI S 81 3).toInt ∧ (mI S 81 3).toInt ≤ (mI S 81 2).toInt := zG_x hI
  have f3 := zG_s hI (0) (1500) (c := 81) (k := 2) (by decide)
  first | have f4 := i_muln (x := (2 : Int32)) (y := (mI S 81 2)) (by omega) (by omega) (by omega) (by omega) | have b5 := i_bd ((2 : Int32) * (mI S 81 2))
  exact K (((2 : Int32) * (mI S 81 2))) _ hI trivial
theorem g_36_81_0 {X : Nat × (Nat → Int32)} {d w : Nat} {S : ma_S} {Q : Option ma_V ⊕ Nat → ma_S → Prop}  (hd : 0 ≤ d) (hw : 0 ≤ w) (hS : zT S) (h : Q (.inl (some (.inl (mI S 81 4)))) S) : ma_wp X d w 36 0 [(0, .inr (.inr (some 81)))] [] S Q := by
  refine zw_push hm_36 dX3_topPlace_0 (v := .inr (.inr (some 81))) rfl ?_
  refine zw_gf hm_36 dX3_topPlace_1 (v := .inl (mI S 81 4)) (zT_is hS s_81) (zT_t hS s_81) rfl f_3_18_3 rfl ?_
  exact zw_iret hm_36 dX3_topPlace_4 h
theorem sp_36_81 {X : Nat × (Nat → Int32)} {d w : Nat} {f : Nat → Nat → Int32} {r : Nat → Nat → Option Nat} {C Z N : Nat} {Q : Option ma_V ⊕ Nat → ma_S → Prop} {S : ma_S}  (hd : 0 ≤ d) (hw : 0 ≤ w) (hI : zJ81 f r C Z N S)  (K : ∀ v S', zJ81 f r C Z N S' → (True) → Q (.inl (some (.inl v))) S') : ma_wp X d w 36 0 [(0, .inr (.inr (some 81)))] [] S Q := by
  refine g_36_81_0  (by omega) (by omega) (zG_T hI) ?_
  have f1 := zG_s hI (0) (400000) (c := 81) (k := 4) (by decide)
  exact K ((mI S 81 4)) _ hI trivial
theorem g_105_84_0 {X : Nat × (Nat → Int32)} {d w : Nat} {S : ma_S} {Q : Option ma_V ⊕ Nat → ma_S → Prop} (p : Int32) (hd : 1 ≤ d) (hw : 22 ≤ w) (hS : zT S) (h : ma_wp X d w 105 2 [(0, .inr (.inr (some 84))), (2, .inl p)] [] S Q) : ma_wp X d w 105 0 [(0, .inr (.inr (some 84))), (1, .inl p)] [] S Q := by
  refine zw_push hm_105 dX8_freeFrom_0 (v := .inl p) rfl ?_
  refine zw_sto hm_105 dX8_freeFrom_1 [(2, .inl p), (0, .inr (.inr (some 84))), (1, .inl p)] rfl rfl rfl ?_
  exact zw_sub (ma_nd_of (ks := [0, 2]) rfl (by decide)) (ma_nd_of (ks := [2, 0, 1]) rfl (by decide)) (ma_le_cons rfl (ma_le_cons rfl (ma_le_nil _))) h
theorem g_105_84_2 {X : Nat × (Nat → Int32)} {d w : Nat} {S : ma_S} {Q : Option ma_V ⊕ Nat → ma_S → Prop} (l2 : Int32) (hd : 1 ≤ d) (hw : 22 ≤ w) (hS : zT S) (h : if (mI S 84 0) ≤ l2 then (Q (.inl (some (.inl (mI S 84 0)))) S) else (if l2 < 0 then (Q (.inl (some (.inl l2))) S) else (if (4500 : Int32) ≤ l2 then (Q (.inl (some (.inl l2))) S) else ((0 ≤ l2 ∧ l2.toNatClampNeg < 4500) ∧ (if (mI S 71 l2.toNatClampNeg) < 0 then (Q (.inl (some (.inl l2))) S) else (if (512 : Int32) ≤ (mI S 71 l2.toNatClampNeg) then (Q (.inl (some (.inl l2))) S) else ((0 ≤ (mI S 71 l2.toNatClampNeg) ∧ (mI S 71 l2.toNatClampNeg).toNatClampNeg < 512) ∧ (((mR S 70 (mI S 71 l2.toNatClampNeg).toNatClampNeg) = none → Q (.inl (some (.inl l2))) S) ∧ (∀ c1, (mR S 70 (mI S 71 l2.toNatClampNeg).toNatClampNeg) = some c1 → (126 ≤ c1 ∧ c1 < mN S) ∧ (ma_wp X d w 105 2 [(0, .inr (.inr (some 84))), (2, .inl (l2 + (mI S c1 2)))] [] S Q)))))))))) : ma_wp X d w 105 2 [(0, .inr (.inr (some 84))), (2, .inl l2)] [] S Q := by
  refine zw_push hm_105 dX8_freeFrom_2 (v := .inl l2) rfl ?_
  refine zw_push hm_105 dX8_freeFrom_3 (v := .inr (.inr (some 84))) rfl ?_
  refine zw_gf hm_105 dX8_freeFrom_4 (v := .inl (mI S 84 0)) (zT_is hS s_84) (zT_t hS s_84) rfl f_8_9_2 rfl ?_
  refine zw_if2 hm_105 dX8_freeFrom_7 (t := 35) rfl zc2_ge ?_ ?_
  · intro hc
    rw [if_pos hc] at h
    refine zw_push hm_105 dX8_freeFrom_35 (v := .inr (.inr (some 84))) rfl ?_
    refine zw_gf hm_105 dX8_freeFrom_36 (v := .inl (mI S 84 0)) (zT_is hS s_84) (zT_t hS s_84) rfl f_8_9_2 rfl ?_
    exact zw_iret hm_105 dX8_freeFrom_39 h
  · intro hc
    rw [if_neg hc] at h
    refine zw_push hm_105 dX8_freeFrom_10 (v := .inr (.inr (some 84))) rfl ?_
    refine zw_gf hm_105 dX8_freeFrom_11 (v := .inr (.inr (some 69))) (zT_is hS s_84) (zT_t hS s_84) rfl f_8_46_2 (zT_f hS r_84_3) ?_
    refine zw_push hm_105 dX8_freeFrom_14 (v := .inl l2) rfl ?_
    refine zw_cv hm_105 dX8_freeFrom_15 v_8_50_7 hm_89 [.inl l2] [] rfl (zT_rt hS s_69 rfl) ⟨by omega, by omega⟩ rfl ?_
    show ma_wp X (d - 1) (w - 22) 89 0 [(0, .inr (.inr (some 69))), (1, .inl l2)] [] S _
    refine zw_push hm_89 dX7_thingFrom_0 (v := .inl l2) rfl ?_
    refine zw_if0 hm_89 dX7_thingFrom_1 (t := 20) rfl zc0_lt ?_ ?_
    · intro hc
      rw [if_pos hc] at h
      refine zw_push hm_89 dX7_thingFrom_20 (v := .inl (-1 : Int32)) rfl ?_
      refine zw_sto hm_89 dX7_thingFrom_21 [(2, .inl (-1 : Int32)), (0, .inr (.inr (some 69))), (1, .inl l2)] rfl rfl rfl ?_
      refine zw_push hm_89 dX7_thingFrom_22 (v := .inl (-1 : Int32)) rfl ?_
      refine zw_if0 hm_89 dX7_thingFrom_23 (t := 42) rfl zc0_lt (fun _ => ?_) (fun hc => absurd (by decide) hc)
      refine zw_push hm_89 dX7_thingFrom_42 (v := .inr (.inr none)) rfl ?_
      refine zw_aret hm_89 dX7_thingFrom_43 ?_
      show ma_wp X d w 105 18 [(0, .inr (.inr (some 84))), (2, .inl l2)] [.inr (.inr none)] S _
      refine zw_sto hm_105 dX8_freeFrom_18 [(3, .inr (.inr none)), (0, .inr (.inr (some 84))), (2, .inl l2)] rfl rfl rfl ?_
      refine zw_push hm_105 dX8_freeFrom_19 (v := .inr (.inr none)) rfl ?_
      refine zw_ifnonnull hm_105 dX8_freeFrom_20 (t := 25) rfl (fun _ => ?_) (fun _ z => by cases z)
      refine zw_push hm_105 dX8_freeFrom_23 (v := .inl l2) rfl ?_
      exact zw_iret hm_105 dX8_freeFrom_24 h
    · intro hc
      rw [if_neg hc] at h
      refine zw_push hm_89 dX7_thingFrom_4 (v := .inl l2) rfl ?_
      refine zw_push hm_89 dX7_thingFrom_5 (v := .inl (4500 : Int32)) rfl ?_
      refine zw_if2 hm_89 dX7_thingFrom_8 (t := 20) rfl zc2_ge ?_ ?_
      · intro hc
        rw [if_pos hc] at h
        refine zw_push hm_89 dX7_thingFrom_20 (v := .inl (-1 : Int32)) rfl ?_
        refine zw_sto hm_89 dX7_thingFrom_21 [(2, .inl (-1 : Int32)), (0, .inr (.inr (some 69))), (1, .inl l2)] rfl rfl rfl ?_
        refine zw_push hm_89 dX7_thingFrom_22 (v := .inl (-1 : Int32)) rfl ?_
        refine zw_if0 hm_89 dX7_thingFrom_23 (t := 42) rfl zc0_lt (fun _ => ?_) (fun hc => absurd (by decide) hc)
        refine zw_push hm_89 dX7_thingFrom_42 (v := .inr (.inr none)) rfl ?_
        refine zw_aret hm_89 dX7_thingFrom_43 ?_
        show ma_wp X d w 105 18 [(0, .inr (.inr (some 84))), (2, .inl l2)] [.inr (.inr none)] S _
        refine zw_sto hm_105 dX8_freeFrom_18 [(3, .inr (.inr none)), (0, .inr (.inr (some 84))), (2, .inl l2)] rfl rfl rfl ?_
        refine zw_push hm_105 dX8_freeFrom_19 (v := .inr (.inr none)) rfl ?_
        refine zw_ifnonnull hm_105 dX8_freeFrom_20 (t := 25) rfl (fun _ => ?_) (fun _ z => by cases z)
        refine zw_push hm_105 dX8_freeFrom_23 (v := .inl l2) rfl ?_
        exact zw_iret hm_105 dX8_freeFrom_24 h
      · intro hc
        rw [if_neg hc] at h
        refine zw_push hm_89 dX7_thingFrom_11 (v := .inr (.inr (some 69))) rfl ?_
        refine zw_gf hm_89 dX7_thingFrom_12 (v := .inr (.inr (some 71))) (zT_is hS s_69) (zT_t hS s_69) rfl f_7_17_7 (zT_f hS r_69_1) ?_
        refine zw_push hm_89 dX7_thingFrom_15 (v := .inl l2) rfl ?_
        obtain ⟨hg, h⟩ := h
        refine zw_ia hm_89 dX7_thingFrom_16 (zT_is hS s_71) (zT_h hS s_71) rfl hg ?_
        show ma_wp X (d - 1) (w - 22) 89 17 [(0, .inr (.inr (some 69))), (1, .inl l2)] [.inl (mI S 71 l2.toNatClampNeg)] S _
        refine zw_goto hm_89 dX7_thingFrom_17 (t := 21) rfl ?_
        refine zw_sto hm_89 dX7_thingFrom_21 [(2, .inl (mI S 71 l2.toNatClampNeg)), (0, .inr (.inr (some 69))), (1, .inl l2)] rfl rfl rfl ?_
        refine zw_push hm_89 dX7_thingFrom_22 (v := .inl (mI S 71 l2.toNatClampNeg)) rfl ?_
        refine zw_if0 hm_89 dX7_thingFrom_23 (t := 42) rfl zc0_lt ?_ ?_
        · intro hc
          rw [if_pos hc] at h
          refine zw_push hm_89 dX7_thingFrom_42 (v := .inr (.inr none)) rfl ?_
          refine zw_aret hm_89 dX7_thingFrom_43 ?_
          show ma_wp X d w 105 18 [(0, .inr (.inr (some 84))), (2, .inl l2)] [.inr (.inr none)] S _
          refine zw_sto hm_105 dX8_freeFrom_18 [(3, .inr (.inr none)), (0, .inr (.inr (some 84))), (2, .inl l2)] rfl rfl rfl ?_
          refine zw_push hm_105 dX8_freeFrom_19 (v := .inr (.inr none)) rfl ?_
          refine zw_ifnonnull hm_105 dX8_freeFrom_20 (t := 25) rfl (fun _ => ?_) (fun _ z => by cases z)
          refine zw_push hm_105 dX8_freeFrom_23 (v := .inl l2) rfl ?_
          exact zw_iret hm_105 dX8_freeFrom_24 h
        · intro hc
          rw [if_neg hc] at h
          refine zw_push hm_89 dX7_thingFrom_26 (v := .inl (mI S 71 l2.toNatClampNeg)) rfl ?_
          refine zw_push hm_89 dX7_thingFrom_27 (v := .inl (512 : Int32)) rfl ?_
          refine zw_if2 hm_89 dX7_thingFrom_30 (t := 42) rfl zc2_ge ?_ ?_
          · intro hc
            rw [if_pos hc] at h
            refine zw_push hm_89 dX7_thingFrom_42 (v := .inr (.inr none)) rfl ?_
            refine zw_aret hm_89 dX7_thingFrom_43 ?_
            show ma_wp X d w 105 18 [(0, .inr (.inr (some 84))), (2, .inl l2)] [.inr (.inr none)] S _
            refine zw_sto hm_105 dX8_freeFrom_18 [(3, .inr (.inr none)), (0, .inr (.inr (some 84))), (2, .inl l2)] rfl rfl rfl ?_
            refine zw_push hm_105 dX8_freeFrom_19 (v := .inr (.inr none)) rfl ?_
            refine zw_ifnonnull hm_105 dX8_freeFrom_20 (t := 25) rfl (fun _ => ?_) (fun _ z => by cases z)
            refine zw_push hm_105 dX8_freeFrom_23 (v := .inl l2) rfl ?_
            exact zw_iret hm_105 dX8_freeFrom_24 h
          · intro hc
            rw [if_neg hc] at h
            refine zw_push hm_89 dX7_thingFrom_33 (v := .inr (.inr (some 69))) rfl ?_
            refine zw_gf hm_89 dX7_thingFrom_34 (v := .inr (.inr (some 70))) (zT_is hS s_69) (zT_t hS s_69) rfl f_7_11_7 (zT_f hS r_69_0) ?_
            refine zw_push hm_89 dX7_thingFrom_37 (v := .inl (mI S 71 l2.toNatClampNeg)) rfl ?_
            obtain ⟨hg, h⟩ := h
            refine zw_aa hm_89 dX7_thingFrom_38 (zT_is hS s_70) (zT_h hS s_70) rfl rfl hg rfl ?_
            show ma_wp X (d - 1) (w - 22) 89 39 [(2, .inl (mI S 71 l2.toNatClampNeg)), (0, .inr (.inr (some 69))), (1, .inl l2)] [.inr (.inr (mR S 70 (mI S 71 l2.toNatClampNeg).toNatClampNeg))] S _
            refine zw_goto hm_89 dX7_thingFrom_39 (t := 43) rfl ?_
            refine zw_aret hm_89 dX7_thingFrom_43 ?_
            show ma_wp X d w 105 18 [(0, .inr (.inr (some 84))), (2, .inl l2)] [.inr (.inr (mR S 70 (mI S 71 l2.toNatClampNeg).toNatClampNeg))] S _
            refine zw_sto hm_105 dX8_freeFrom_18 [(3, .inr (.inr (mR S 70 (mI S 71 l2.toNatClampNeg).toNatClampNeg))), (0, .inr (.inr (some 84))), (2, .inl l2)] rfl rfl rfl ?_
            refine zw_push hm_105 dX8_freeFrom_19 (v := .inr (.inr (mR S 70 (mI S 71 l2.toNatClampNeg).toNatClampNeg))) rfl ?_
            refine zw_ifnonnull hm_105 dX8_freeFrom_20 (t := 25) rfl ?_ ?_
            · intro hc
              have h := h.1 hc
              (try rw [hc])
              show ma_wp X d w 105 23 [(3, .inr (.inr none)), (0, .inr (.inr (some 84))), (2, .inl l2)] [] S _
              refine zw_push hm_105 dX8_freeFrom_23 (v := .inl l2) rfl ?_
              exact zw_iret hm_105 dX8_freeFrom_24 h
            · intro c1 hc
              have h := h.2 c1 hc
              (try rw [hc])
              show ma_wp X d w 105 25 [(3, .inr (.inr (some c1))), (0, .inr (.inr (some 84))), (2, .inl l2)] [] S _
              refine zw_push hm_105 dX8_freeFrom_25 (v := .inl l2) rfl ?_
              refine zw_push hm_105 dX8_freeFrom_26 (v := .inr (.inr (some c1))) rfl ?_
              obtain ⟨hg, h⟩ := h
              refine zw_gf hm_105 dX8_freeFrom_27 (v := .inl (mI S c1 2)) (zT_tis hS hg) (zT_tt hS hg) rfl f_8_34_9 rfl ?_
              refine zw_stk hm_105 dX8_freeFrom_30 (st' := [.inl (l2 + (mI S c1 2))]) rfl rfl ?_
              refine zw_sto hm_105 dX8_freeFrom_31 [(2, .inl (l2 + (mI S c1 2))), (3, .inr (.inr (some c1))), (0, .inr (.inr (some 84)))] rfl rfl rfl ?_
              refine zw_goto hm_105 dX8_freeFrom_32 (t := 2) rfl ?_
              exact zw_sub (ma_nd_of (ks := [0, 2]) rfl (by decide)) (ma_nd_of (ks := [2, 3, 0]) rfl (by decide)) (ma_le_cons rfl (ma_le_cons rfl (ma_le_nil _))) h
theorem lp_105_84_2 {X : Nat × (Nat → Int32)} {d w : Nat} {f : Nat → Nat → Int32} {r : Nat → Nat → Option Nat} {C Z N : Nat} {Q : Option ma_V ⊕ Nat → ma_S → Prop} (hd : 1 ≤ d) (hw : 22 ≤ w) (K : ∀ v S', zJ84 f r C Z N S' → (0 ≤ v.toInt ∧ v.toInt ≤ 1500) → Q (.inl (some (.inl v))) S') : ∀ (n : Nat) (S : ma_S) (l2 : Int32), (1500 - l2.toInt).toNat = n → zJ84 f r C Z N S → (0 ≤ l2.toInt) → ma_wp X d w 105 2 [(0, .inr (.inr (some 84))), (2, .inl l2)] [] S Q := by
  intro n
  induction n using Nat.strongRecOn with
  | _ n IH =>
    intro S l2 hmu hI  hi0
    refine g_105_84_2 l2 (by omega) (by omega) (zG_T hI) ?_
    have f1 := zG_s hI (0) (1500) (c := 84) (k := 0) (by decide)
    have b2 := i_bd l2
    refine zd (fun h3 => ?_) (fun h3 => ?_)
    · skip
      have g4 := i_le h3
      exact K ((mI S 84 0)) _ hI (by omega)
    · skip
      have g5 := i_nle h3
      have li6 : (0 : Int32).toInt = 0 := rfl
      refine zd (fun h7 => ?_) (fun h7 => ?_)
      · skip
        have g8 := i_lt h7
        exact K (l2) _ hI (by omega)
      · skip
        have g9 := i_nlt h7
        have li10 : (4500 : Int32).toInt = 4500 := rfl
        refine zd (fun h11 => ?_) (fun h11 => ?_)
        · skip
          have g12 := i_le h11
          exact K (l2) _ hI (by omega)
        · skip
          have g13 := i_nle h11
          refine ⟨i_ix (by omega) (by omega), ?_⟩
          have b14 := i_bd (mI S 71 l2.toNatClampNeg)
          refine zd (fun h15 => ?_) (fun h15 => ?_)
          · skip
            have g16 := i_lt h15
            exact K (l2) _ hI (by omega)
          · skip
            have g17 := i_nlt h15
            have li18 : (512 : Int32).toInt = 512 := rfl
            refine zd (fun h19 => ?_) (fun h19 => ?_)
            · skip
              have g20 := i_le h19
              exact K (l2) _ hI (by omega)
            · skip
              have g21 := i_nle h19
              refine ⟨i_ix (by omega) (by omega), ?_⟩
              refine ⟨fun _ => ?_, fun c1 hc => ?_⟩
              · skip
                exact K (l2) _ hI (by omega)
              · skip
                have th_c1 := (fun _ z => zG_70 hI (c := 70) (by decide) z) c1 hc
                refine ⟨zG_n hI th_c1, ?_⟩
                have f22 := zG_th hI th_c1
                first | have e23 : (l2 + (mI S c1 2)).toInt = l2.toInt + (mI S c1 2).toInt := i_add (by omega) (by omega) | have b24 := i_bd (l2 + (mI S c1 2))
                exact IH _ (by omega) _ ((l2 + (mI S c1 2))) rfl hI (by omega)
theorem sp_105_84 {X : Nat × (Nat → Int32)} {d w : Nat} {f : Nat → Nat → Int32} {r : Nat → Nat → Option Nat} {C Z N : Nat} {Q : Option ma_V ⊕ Nat → ma_S → Prop} {S : ma_S} (p : Int32) (hd : 1 ≤ d) (hw : 22 ≤ w) (hI : zJ84 f r C Z N S) (hpre0 : 0 ≤ p.toInt) (K : ∀ v S', zJ84 f r C Z N S' → (0 ≤ v.toInt ∧ v.toInt ≤ 1500) → Q (.inl (some (.inl v))) S') : ma_wp X d w 105 0 [(0, .inr (.inr (some 84))), (1, .inl p)] [] S Q := by
  refine g_105_84_0 p (by omega) (by omega) (zG_T hI) ?_
  have b1 := i_bd p
  exact lp_105_84_2 (by omega) (by omega) K _ _ (p) rfl hI (by omega)
theorem g_106_84_0 {X : Nat × (Nat → Int32)} {d w : Nat} {S : ma_S} {Q : Option ma_V ⊕ Nat → ma_S → Prop} (p : Int32) (hd : 1 ≤ d) (hw : 22 ≤ w) (hS : zT S) (h : ma_wp X d w 106 2 [(0, .inr (.inr (some 84))), (2, .inl p)] [] S Q) : ma_wp X d w 106 0 [(0, .inr (.inr (some 84))), (1, .inl p)] [] S Q := by
  refine zw_push hm_106 dX8_freeEnd_0 (v := .inl p) rfl ?_
  refine zw_sto hm_106 dX8_freeEnd_1 [(2, .inl p), (0, .inr (.inr (some 84))), (1, .inl p)] rfl rfl rfl ?_
  exact zw_sub (ma_nd_of (ks := [0, 2]) rfl (by decide)) (ma_nd_of (ks := [2, 0, 1]) rfl (by decide)) (ma_le_cons rfl (ma_le_cons rfl (ma_le_nil _))) h
theorem g_106_84_2 {X : Nat × (Nat → Int32)} {d w : Nat} {S : ma_S} {Q : Option ma_V ⊕ Nat → ma_S → Prop} (l2 : Int32) (hd : 1 ≤ d) (hw : 22 ≤ w) (hS : zT S) (h : if (mI S 84 0) ≤ l2 then (Q (.inl (some (.inl l2))) S) else (if l2 < 0 then (ma_wp X d w 106 2 [(0, .inr (.inr (some 84))), (2, .inl (l2 + (1 : Int32)))] [] S Q) else (if (4500 : Int32) ≤ l2 then (ma_wp X d w 106 2 [(0, .inr (.inr (some 84))), (2, .inl (l2 + (1 : Int32)))] [] S Q) else ((0 ≤ l2 ∧ l2.toNatClampNeg < 4500) ∧ (if (mI S 71 l2.toNatClampNeg) < 0 then (ma_wp X d w 106 2 [(0, .inr (.inr (some 84))), (2, .inl (l2 + (1 : Int32)))] [] S Q) else (if (512 : Int32) ≤ (mI S 71 l2.toNatClampNeg) then (ma_wp X d w 106 2 [(0, .inr (.inr (some 84))), (2, .inl (l2 + (1 : Int32)))] [] S Q) else ((0 ≤ (mI S 71 l2.toNatClampNeg) ∧ (mI S 71 l2.toNatClampNeg).toNatClampNeg < 512) ∧ (((mR S 70 (mI S 71 l2.toNatClampNeg).toNatClampNeg) = none → ma_wp X d w 106 2 [(0, .inr (.inr (some 84))), (2, .inl (l2 + (1 : Int32)))] [] S Q) ∧ (∀ c1, (mR S 70 (mI S 71 l2.toNatClampNeg).toNatClampNeg) = some c1 → Q (.inl (some (.inl l2))) S))))))))) : ma_wp X d w 106 2 [(0, .inr (.inr (some 84))), (2, .inl l2)] [] S Q := by
  refine zw_push hm_106 dX8_freeEnd_2 (v := .inl l2) rfl ?_
  refine zw_push hm_106 dX8_freeEnd_3 (v := .inr (.inr (some 84))) rfl ?_
  refine zw_gf hm_106 dX8_freeEnd_4 (v := .inl (mI S 84 0)) (zT_is hS s_84) (zT_t hS s_84) rfl f_8_9_2 rfl ?_
  refine zw_if2 hm_106 dX8_freeEnd_7 (t := 27) rfl zc2_ge ?_ ?_
  · intro hc
    rw [if_pos hc] at h
    refine zw_push hm_106 dX8_freeEnd_27 (v := .inl l2) rfl ?_
    exact zw_iret hm_106 dX8_freeEnd_28 h
  · intro hc
    rw [if_neg hc] at h
    refine zw_push hm_106 dX8_freeEnd_10 (v := .inr (.inr (some 84))) rfl ?_
    refine zw_gf hm_106 dX8_freeEnd_11 (v := .inr (.inr (some 69))) (zT_is hS s_84) (zT_t hS s_84) rfl f_8_46_2 (zT_f hS r_84_3) ?_
    refine zw_push hm_106 dX8_freeEnd_14 (v := .inl l2) rfl ?_
    refine zw_cv hm_106 dX8_freeEnd_15 v_8_50_7 hm_89 [.inl l2] [] rfl (zT_rt hS s_69 rfl) ⟨by omega, by omega⟩ rfl ?_
    show ma_wp X (d - 1) (w - 22) 89 0 [(0, .inr (.inr (some 69))), (1, .inl l2)] [] S _
    refine zw_push hm_89 dX7_thingFrom_0 (v := .inl l2) rfl ?_
    refine zw_if0 hm_89 dX7_thingFrom_1 (t := 20) rfl zc0_lt ?_ ?_
    · intro hc
      rw [if_pos hc] at h
      refine zw_push hm_89 dX7_thingFrom_20 (v := .inl (-1 : Int32)) rfl ?_
      refine zw_sto hm_89 dX7_thingFrom_21 [(2, .inl (-1 : Int32)), (0, .inr (.inr (some 69))), (1, .inl l2)] rfl rfl rfl ?_
      refine zw_push hm_89 dX7_thingFrom_22 (v := .inl (-1 : Int32)) rfl ?_
      refine zw_if0 hm_89 dX7_thingFrom_23 (t := 42) rfl zc0_lt (fun _ => ?_) (fun hc => absurd (by decide) hc)
      refine zw_push hm_89 dX7_thingFrom_42 (v := .inr (.inr none)) rfl ?_
      refine zw_aret hm_89 dX7_thingFrom_43 ?_
      show ma_wp X d w 106 18 [(0, .inr (.inr (some 84))), (2, .inl l2)] [.inr (.inr none)] S _
      refine zw_ifnonnull hm_106 dX8_freeEnd_18 (t := 27) rfl (fun _ => ?_) (fun _ z => by cases z)
      refine zw_sto hm_106 dX8_freeEnd_21 [(2, .inl (l2 + (1 : Int32))), (0, .inr (.inr (some 84)))] rfl rfl rfl ?_
      refine zw_goto hm_106 dX8_freeEnd_24 (t := 2) rfl ?_
      exact zw_sub (ma_nd_of (ks := [0, 2]) rfl (by decide)) (ma_nd_of (ks := [2, 0]) rfl (by decide)) (ma_le_cons rfl (ma_le_cons rfl (ma_le_nil _))) h
    · intro hc
      rw [if_neg hc] at h
      refine zw_push hm_89 dX7_thingFrom_4 (v := .inl l2) rfl ?_
      refine zw_push hm_89 dX7_thingFrom_5 (v := .inl (4500 : Int32)) rfl ?_
      refine zw_if2 hm_89 dX7_thingFrom_8 (t := 20) rfl zc2_ge ?_ ?_
      · intro hc
        rw [if_pos hc] at h
        refine zw_push hm_89 dX7_thingFrom_20 (v := .inl (-1 : Int32)) rfl ?_
        refine zw_sto hm_89 dX7_thingFrom_21 [(2, .inl (-1 : Int32)), (0, .inr (.inr (some 69))), (1, .inl l2)] rfl rfl rfl ?_
        refine zw_push hm_89 dX7_thingFrom_22 (v := .inl (-1 : Int32)) rfl ?_
        refine zw_if0 hm_89 dX7_thingFrom_23 (t := 42) rfl zc0_lt (fun _ => ?_) (fun hc => absurd (by decide) hc)
        refine zw_push hm_89 dX7_thingFrom_42 (v := .inr (.inr none)) rfl ?_
        refine zw_aret hm_89 dX7_thingFrom_43 ?_
        show ma_wp X d w 106 18 [(0, .inr (.inr (some 84))), (2, .inl l2)] [.inr (.inr none)] S _
        refine zw_ifnonnull hm_106 dX8_freeEnd_18 (t := 27) rfl (fun _ => ?_) (fun _ z => by cases z)
        refine zw_sto hm_106 dX8_freeEnd_21 [(2, .inl (l2 + (1 : Int32))), (0, .inr (.inr (some 84)))] rfl rfl rfl ?_
        refine zw_goto hm_106 dX8_freeEnd_24 (t := 2) rfl ?_
        exact zw_sub (ma_nd_of (ks := [0, 2]) rfl (by decide)) (ma_nd_of (ks := [2, 0]) rfl (by decide)) (ma_le_cons rfl (ma_le_cons rfl (ma_le_nil _))) h
      · intro hc
        rw [if_neg hc] at h
        refine zw_push hm_89 dX7_thingFrom_11 (v := .inr (.inr (some 69))) rfl ?_
        refine zw_gf hm_89 dX7_thingFrom_12 (v := .inr (.inr (some 71))) (zT_is hS s_69) (zT_t hS s_69) rfl f_7_17_7 (zT_f hS r_69_1) ?_
        refine zw_push hm_89 dX7_thingFrom_15 (v := .inl l2) rfl ?_
        obtain ⟨hg, h⟩ := h
        refine zw_ia hm_89 dX7_thingFrom_16 (zT_is hS s_71) (zT_h hS s_71) rfl hg ?_
        show ma_wp X (d - 1) (w - 22) 89 17 [(0, .inr (.inr (some 69))), (1, .inl l2)] [.inl (mI S 71 l2.toNatClampNeg)] S _
        refine zw_goto hm_89 dX7_thingFrom_17 (t := 21) rfl ?_
        refine zw_sto hm_89 dX7_thingFrom_21 [(2, .inl (mI S 71 l2.toNatClampNeg)), (0, .inr (.inr (some 69))), (1, .inl l2)] rfl rfl rfl ?_
        refine zw_push hm_89 dX7_thingFrom_22 (v := .inl (mI S 71 l2.toNatClampNeg)) rfl ?_
        refine zw_if0 hm_89 dX7_thingFrom_23 (t := 42) rfl zc0_lt ?_ ?_
        · intro hc
          rw [if_pos hc] at h
          refine zw_push hm_89 dX7_thingFrom_42 (v := .inr (.inr none)) rfl ?_
          refine zw_aret hm_89 dX7_thingFrom_43 ?_
          show ma_wp X d w 106 18 [(0, .inr (.inr (some 84))), (2, .inl l2)] [.inr (.inr none)] S _
          refine zw_ifnonnull hm_106 dX8_freeEnd_18 (t := 27) rfl (fun _ => ?_) (fun _ z => by cases z)
          refine zw_sto hm_106 dX8_freeEnd_21 [(2, .inl (l2 + (1 : Int32))), (0, .inr (.inr (some 84)))] rfl rfl rfl ?_
          refine zw_goto hm_106 dX8_freeEnd_24 (t := 2) rfl ?_
          exact zw_sub (ma_nd_of (ks := [0, 2]) rfl (by decide)) (ma_nd_of (ks := [2, 0]) rfl (by decide)) (ma_le_cons rfl (ma_le_cons rfl (ma_le_nil _))) h
        · intro hc
          rw [if_neg hc] at h
          refine zw_push hm_89 dX7_thingFrom_26 (v := .inl (mI S 71 l2.toNatClampNeg)) rfl ?_
          refine zw_push hm_89 dX7_thingFrom_27 (v := .inl (512 : Int32)) rfl ?_
          refine zw_if2 hm_89 dX7_thingFrom_30 (t := 42) rfl zc2_ge ?_ ?_
          · intro hc
            rw [if_pos hc] at h
            refine zw_push hm_89 dX7_thingFrom_42 (v := .inr (.inr none)) rfl ?_
            refine zw_aret hm_89 dX7_thingFrom_43 ?_
            show ma_wp X d w 106 18 [(0, .inr (.inr (some 84))), (2, .inl l2)] [.inr (.inr none)] S _
            refine zw_ifnonnull hm_106 dX8_freeEnd_18 (t := 27) rfl (fun _ => ?_) (fun _ z => by cases z)
            refine zw_sto hm_106 dX8_freeEnd_21 [(2, .inl (l2 + (1 : Int32))), (0, .inr (.inr (some 84)))] rfl rfl rfl ?_
            refine zw_goto hm_106 dX8_freeEnd_24 (t := 2) rfl ?_
            exact zw_sub (ma_nd_of (ks := [0, 2]) rfl (by decide)) (ma_nd_of (ks := [2, 0]) rfl (by decide)) (ma_le_cons rfl (ma_le_cons rfl (ma_le_nil _))) h
          · intro hc
            rw [if_neg hc] at h
            refine zw_push hm_89 dX7_thingFrom_33 (v := .inr (.inr (some 69))) rfl ?_
            refine zw_gf hm_89 dX7_thingFrom_34 (v := .inr (.inr (some 70))) (zT_is hS s_69) (zT_t hS s_69) rfl f_7_11_7 (zT_f hS r_69_0) ?_
            refine zw_push hm_89 dX7_thingFrom_37 (v := .inl (mI S 71 l2.toNatClampNeg)) rfl ?_
            obtain ⟨hg, h⟩ := h
            refine zw_aa hm_89 dX7_thingFrom_38 (zT_is hS s_70) (zT_h hS s_70) rfl rfl hg rfl ?_
            show ma_wp X (d - 1) (w - 22) 89 39 [(2, .inl (mI S 71 l2.toNatClampNeg)), (0, .inr (.inr (some 69))), (1, .inl l2)] [.inr (.inr (mR S 70 (mI S 71 l2.toNatClampNeg).toNatClampNeg))] S _
            refine zw_goto hm_89 dX7_thingFrom_39 (t := 43) rfl ?_
            refine zw_aret hm_89 dX7_thingFrom_43 ?_
            show ma_wp X d w 106 18 [(0, .inr (.inr (some 84))), (2, .inl l2)] [.inr (.inr (mR S 70 (mI S 71 l2.toNatClampNeg).toNatClampNeg))] S _
            refine zw_ifnonnull hm_106 dX8_freeEnd_18 (t := 27) rfl ?_ ?_
            · intro hc
              have h := h.1 hc
              (try rw [hc])
              show ma_wp X d w 106 21 [(0, .inr (.inr (some 84))), (2, .inl l2)] [] S _
              refine zw_sto hm_106 dX8_freeEnd_21 [(2, .inl (l2 + (1 : Int32))), (0, .inr (.inr (some 84)))] rfl rfl rfl ?_
              refine zw_goto hm_106 dX8_freeEnd_24 (t := 2) rfl ?_
              exact zw_sub (ma_nd_of (ks := [0, 2]) rfl (by decide)) (ma_nd_of (ks := [2, 0]) rfl (by decide)) (ma_le_cons rfl (ma_le_cons rfl (ma_le_nil _))) h
            · intro c1 hc
              have h := h.2 c1 hc
              (try rw [hc])
              show ma_wp X d w 106 27 [(0, .inr (.inr (some 84))), (2, .inl l2)] [] S _
              refine zw_push hm_106 dX8_freeEnd_27 (v := .inl l2) rfl ?_
              exact zw_iret hm_106 dX8_freeEnd_28 h
theorem lp_106_84_2 {X : Nat × (Nat → Int32)} {d w : Nat} {f : Nat → Nat → Int32} {r : Nat → Nat → Option Nat} {C Z N : Nat} {Q : Option ma_V ⊕ Nat → ma_S → Prop} (hd : 1 ≤ d) (hw : 22 ≤ w) (K : ∀ v S', zJ84 f r C Z N S' → (0 ≤ v.toInt ∧ v.toInt ≤ 300000) → Q (.inl (some (.inl v))) S') : ∀ (n : Nat) (S : ma_S) (l2 : Int32), (1500 - l2.toInt).toNat = n → zJ84 f r C Z N S → (0 ≤ l2.toInt) → (l2.toInt ≤ 300000) → ma_wp X d w 106 2 [(0, .inr (.inr (some 84))), (2, .inl l2)] [] S Q := by
  intro n
  induction n using Nat.strongRecOn with
  | _ n IH =>
    intro S l2 hmu hI  hi0 hi1
    refine g_106_84_2 l2 (by omega) (by omega) (zG_T hI) ?_
    have f1 := zG_s hI (0) (1500) (c := 84) (k := 0) (by decide)
    have b2 := i_bd l2
    refine zd (fun h3 => ?_) (fun h3 => ?_)
    · skip
      have g4 := i_le h3
      exact K (l2) _ hI (by omega)
    · skip
      have g5 := i_nle h3
      have li6 : (0 : Int32).toInt = 0 := rfl
      refine zd (fun h7 => ?_) (fun h7 => ?_)
      · skip
        have g8 := i_lt h7
        first | have e9 : (l2 + (1 : Int32)).toInt = l2.toInt + (1) := i_addk rfl (by omega) (by omega) | have b10 := i_bd (l2 + (1 : Int32))
        exact IH _ (by omega) _ ((l2 + (1 : Int32))) rfl hI (by omega) (by omega)
      · skip
        have g11 := i_nlt h7
        have li12 : (4500 : Int32).toInt = 4500 := rfl
        refine zd (fun h13 => ?_) (fun h13 => ?_)
        · skip
          have g14 := i_le h13
          first | have e15 : (l2 + (1 : Int32)).toInt = l2.toInt + (1) := i_addk rfl (by omega) (by omega) | have b16 := i_bd (l2 + (1 : Int32))
          exact IH _ (by omega) _ ((l2 + (1 : Int32))) rfl hI (by omega) (by omega)
        · skip
          have g17 := i_nle h13
          refine ⟨i_ix (by omega) (by omega), ?_⟩
          have b18 := i_bd (mI S 71 l2.toNatClampNeg)
          refine zd (fun h19 => ?_) (fun h19 => ?_)
          · skip
            have g20 := i_lt h19
            first | have e21 : (l2 + (1 : Int32)).toInt = l2.toInt + (1) := i_addk rfl (by omega) (by omega) | have b22 := i_bd (l2 + (1 : Int32))
            exact IH _ (by omega) _ ((l2 + (1 : Int32))) rfl hI (by omega) (by omega)
          · skip
            have g23 := i_nlt h19
            have li24 : (512 : Int32).toInt = 512 := rfl
            refine zd (fun h25 => ?_) (fun h25 => ?_)
            · skip
              have g26 := i_le h25
              first | have e27 : (l2 + (1 : Int32)).toInt = l2.toInt + (1) := i_addk rfl (by omega) (by omega) | have b28 := i_bd (l2 + (1 : Int32))
              exact IH _ (by omega) _ ((l2 + (1 : Int32))) rfl hI (by omega) (by omega)
            · skip
              have g29 := i_nle h25
              refine ⟨i_ix (by omega) (by omega), ?_⟩
              refine ⟨fun _ => ?_, fun c1 hc => ?_⟩
              · skip
                first | have e30 : (l2 + (1 : Int32)).toInt = l2.toInt + (1) := i_addk rfl (by omega) (by omega) | have b31 := i_bd (l2 + (1 : Int32))
                exact IH _ (by omega) _ ((l2 + (1 : Int32))) rfl hI (by omega) (by omega)
              · skip
                have th_c1 := (fun _ z => zG_70 hI (c := 70) (by decide) z) c1 hc
                exact K (l2) _ hI (by omega)
theorem sp_106_84 {X : Nat × (Nat → Int32)} {d w : Nat} {f : Nat → Nat → Int32} {r : Nat → Nat → Option Nat} {C Z N : Nat} {Q : Option ma_V ⊕ Nat → ma_S → Prop} {S : ma_S} (p : Int32) (hd : 1 ≤ d) (hw : 22 ≤ w) (hI : zJ84 f r C Z N S) (hpre0 : 0 ≤ p.toInt) (hpre1 : p.toInt ≤ 300000) (K : ∀ v S', zJ84 f r C Z N S' → (0 ≤ v.toInt ∧ v.toInt ≤ 300000) → Q (.inl (some (.inl v))) S') : ma_wp X d w 106 0 [(0, .inr (.inr (some 84))), (1, .inl p)] [] S Q := by
  refine g_106_84_0 p (by omega) (by omega) (zG_T hI) ?_
  have b1 := i_bd p
  exact lp_106_84_2 (by omega) (by omega) K _ _ (p) rfl hI (by omega) (by omega)
theorem g_104_84_0 {X : Nat × (Nat → Int32)} {d w : Nat} {S : ma_S} {Q : Option ma_V ⊕ Nat → ma_S → Prop} (a : Int32) (b : Int32) (n : Int32) (hd : 2 ≤ d) (hw : 45 ≤ w) (hS : zT S) (h : ma_wp X (d - 1) (w - 23) 105 0 [(0, .inr (.inr (some 84))), (1, .inl a)] [] S (zi (fun v2 S1 => zT S1 ∧ (ma_wp X d w 104 10 [(0, .inr (.inr (some 84))), (2, .inl b), (3, .inl n), (4, .inl v2), (5, .inl (0 : Int32))] [] S1 Q)) (fun x S9 => Q (.inr x) S9))) : ma_wp X d w 104 0 [(0, .inr (.inr (some 84))), (1, .inl a), (2, .inl b), (3, .inl n)] [] S Q := by
  refine zw_push hm_104 dX8_fitFirst_0 (v := .inr (.inr (some 84))) rfl ?_
  refine zw_push hm_104 dX8_fitFirst_1 (v := .inl a) rfl ?_
  refine zw_cv hm_104 dX8_fitFirst_2 v_8_40_2 hm_105 [.inl a] [] rfl (zT_rt hS s_84 rfl) ⟨by omega, by omega⟩ rfl (zw_mono h (zi_go ?_ ?_))
  · intro v2 S1 hv
    obtain ⟨hS1, h⟩ := hv
    refine zw_sto hm_104 dX8_fitFirst_5 [(4, .inl v2), (0, .inr (.inr (some 84))), (1, .inl a), (2, .inl b), (3, .inl n)] rfl rfl rfl ?_
    refine zw_push hm_104 dX8_fitFirst_7 (v := .inl (0 : Int32)) rfl ?_
    refine zw_sto hm_104 dX8_fitFirst_8 [(5, .inl (0 : Int32)), (4, .inl v2), (0, .inr (.inr (some 84))), (1, .inl a), (2, .inl b), (3, .inl n)] rfl rfl rfl ?_
    exact zw_sub (ma_nd_of (ks := [0, 2, 3, 4, 5]) rfl (by decide)) (ma_nd_of (ks := [5, 4, 0, 1, 2, 3]) rfl (by decide)) (ma_le_cons rfl (ma_le_cons rfl (ma_le_cons rfl (ma_le_cons rfl (ma_le_cons rfl (ma_le_nil _)))))) h
  · intro x S9 hx
    exact ⟨by decide, hx⟩
theorem g_104_84_10 {X : Nat × (Nat → Int32)} {d w : Nat} {S : ma_S} {Q : Option ma_V ⊕ Nat → ma_S → Prop} (l2 : Int32) (l3 : Int32) (l4 : Int32) (l5 : Int32) (hd : 2 ≤ d) (hw : 45 ≤ w) (hS : zT S) (h : if (4500 : Int32) ≤ l5 then (Q (.inl (some (.inl (-1 : Int32)))) S) else (if l2 ≤ l4 then (Q (.inl (some (.inl (-1 : Int32)))) S) else (ma_wp X (d - 1) (w - 22) 106 0 [(0, .inr (.inr (some 84))), (1, .inl l4)] [] S (zi (fun v2 S1 => zT S1 ∧ (if (v2 - l4) < l3 then (ma_wp X (d - 1) (w - 23) 105 0 [(0, .inr (.inr (some 84))), (1, .inl v2)] [] (ma_put S1 69 12 (.inl ((mI S1 69 12) + (1 : Int32)))) (zi (fun v4 S3 => zT S3 ∧ (ma_wp X d w 104 10 [(0, .inr (.inr (some 84))), (2, .inl l2), (3, .inl l3), (4, .inl v4), (5, .inl (l5 + (1 : Int32)))] [] S3 Q)) (fun x S9 => Q (.inr x) S9))) else (Q (.inl (some (.inl l4))) (ma_put S1 69 12 (.inl ((mI S1 69 12) + (1 : Int32))))))) (fun x S9 => Q (.inr x) S9))))) : ma_wp X d w 104 10 [(0, .inr (.inr (some 84))), (2, .inl l2), (3, .inl l3), (4, .inl l4), (5, .inl l5)] [] S Q := by
  refine zw_push hm_104 dX8_fitFirst_10 (v := .inl l5) rfl ?_
  refine zw_push hm_104 dX8_fitFirst_12 (v := .inl (4500 : Int32)) rfl ?_
  refine zw_if2 hm_104 dX8_fitFirst_15 (t := 71) rfl zc2_ge ?_ ?_
  · intro hc
    rw [if_pos hc] at h
    refine zw_push hm_104 dX8_fitFirst_71 (v := .inl (-1 : Int32)) rfl ?_
    exact zw_iret hm_104 dX8_fitFirst_72 h
  · intro hc
    rw [if_neg hc] at h
    refine zw_push hm_104 dX8_fitFirst_18 (v := .inl l4) rfl ?_
    refine zw_push hm_104 dX8_fitFirst_20 (v := .inl l2) rfl ?_
    refine zw_if2 hm_104 dX8_fitFirst_21 (t := 71) rfl zc2_ge ?_ ?_
    · intro hc
      rw [if_pos hc] at h
      refine zw_push hm_104 dX8_fitFirst_71 (v := .inl (-1 : Int32)) rfl ?_
      exact zw_iret hm_104 dX8_fitFirst_72 h
    · intro hc
      rw [if_neg hc] at h
      refine zw_push hm_104 dX8_fitFirst_24 (v := .inr (.inr (some 84))) rfl ?_
      refine zw_push hm_104 dX8_fitFirst_25 (v := .inl l4) rfl ?_
      refine zw_cv hm_104 dX8_fitFirst_27 v_8_43_2 hm_106 [.inl l4] [] rfl (zT_rt hS s_84 rfl) ⟨by omega, by omega⟩ rfl (zw_mono h (zi_go ?_ ?_))
      · intro v2 S1 hv
        obtain ⟨hS1, h⟩ := hv
        refine zw_sto hm_104 dX8_fitFirst_30 [(6, .inl v2), (0, .inr (.inr (some 84))), (2, .inl l2), (3, .inl l3), (4, .inl l4), (5, .inl l5)] rfl rfl rfl ?_
        refine zw_push hm_104 dX8_fitFirst_32 (v := .inr (.inr (some 84))) rfl ?_
        refine zw_gf hm_104 dX8_fitFirst_33 (v := .inr (.inr (some 69))) (zT_is hS1 s_84) (zT_t hS1 s_84) rfl f_8_46_2 (zT_f hS1 r_84_3) ?_
        refine zw_stk hm_104 dX8_fitFirst_36 (st' := [.inr (.inr (some 69)), .inr (.inr (some 69))]) rfl rfl ?_
        refine zw_gf hm_104 dX8_fitFirst_37 (v := .inl (mI S1 69 12)) (zT_is hS1 s_69) (zT_t hS1 s_69) rfl f_8_67_7 rfl ?_
        refine zw_push hm_104 dX8_fitFirst_40 (v := .inl (1 : Int32)) rfl ?_
        refine zw_stk hm_104 dX8_fitFirst_41 (st' := [.inl ((mI S1 69 12) + (1 : Int32)), .inr (.inr (some 69))]) rfl rfl ?_
        refine zw_pf hm_104 dX8_fitFirst_42 (zT_is hS1 s_69) (zT_t hS1 s_69) p_8_67_7 zk_int ?_
        refine zw_push hm_104 dX8_fitFirst_45 (v := .inl v2) rfl ?_
        refine zw_push hm_104 dX8_fitFirst_47 (v := .inl l4) rfl ?_
        refine zw_stk hm_104 dX8_fitFirst_49 (st' := [.inl (v2 - l4)]) rfl rfl ?_
        refine zw_push hm_104 dX8_fitFirst_50 (v := .inl l3) rfl ?_
        refine zw_if2 hm_104 dX8_fitFirst_51 (t := 57) rfl zc2_lt ?_ ?_
        · intro hc
          rw [if_pos hc] at h
          refine zw_push hm_104 dX8_fitFirst_57 (v := .inr (.inr (some 84))) rfl ?_
          refine zw_push hm_104 dX8_fitFirst_58 (v := .inl v2) rfl ?_
          refine zw_cv hm_104 dX8_fitFirst_60 v_8_40_2 hm_105 [.inl v2] [] rfl (zT_rt (zT_pi hS1) s_84 rfl) ⟨by omega, by omega⟩ rfl (zw_mono h (zi_go ?_ ?_))
          · intro v4 S3 hv
            obtain ⟨hS3, h⟩ := hv
            refine zw_sto hm_104 dX8_fitFirst_63 [(4, .inl v4), (6, .inl v2), (0, .inr (.inr (some 84))), (2, .inl l2), (3, .inl l3), (5, .inl l5)] rfl rfl rfl ?_
            refine zw_sto hm_104 dX8_fitFirst_65 [(5, .inl (l5 + (1 : Int32))), (4, .inl v4), (6, .inl v2), (0, .inr (.inr (some 84))), (2, .inl l2), (3, .inl l3)] rfl rfl rfl ?_
            refine zw_goto hm_104 dX8_fitFirst_68 (t := 10) rfl ?_
            exact zw_sub (ma_nd_of (ks := [0, 2, 3, 4, 5]) rfl (by decide)) (ma_nd_of (ks := [5, 4, 6, 0, 2, 3]) rfl (by decide)) (ma_le_cons rfl (ma_le_cons rfl (ma_le_cons rfl (ma_le_cons rfl (ma_le_cons rfl (ma_le_nil _)))))) h
          · intro x S9 hx
            exact ⟨by decide, hx⟩
        · intro hc
          rw [if_neg hc] at h
          refine zw_push hm_104 dX8_fitFirst_54 (v := .inl l4) rfl ?_
          exact zw_iret hm_104 dX8_fitFirst_56 h
      · intro x S9 hx
        exact ⟨by decide, hx⟩
theorem lp_104_84_10 {X : Nat × (Nat → Int32)} {d w : Nat} {f : Nat → Nat → Int32} {r : Nat → Nat → Option Nat} {C Z N : Nat} {Q : Option ma_V ⊕ Nat → ma_S → Prop} (hd : 2 ≤ d) (hw : 45 ≤ w) (K : ∀ v S', zJ84 f r C Z N S' → (-1 ≤ v.toInt ∧ v.toInt ≤ 300000) → Q (.inl (some (.inl v))) S') : ∀ (n : Nat) (S : ma_S) (l2 : Int32) (l3 : Int32) (l4 : Int32) (l5 : Int32), (4500 - l5.toInt).toNat = n → zJ84 f r C Z N S → (0 ≤ l4.toInt) → (l4.toInt ≤ 300000) → (0 ≤ l5.toInt) → ma_wp X d w 104 10 [(0, .inr (.inr (some 84))), (2, .inl l2), (3, .inl l3), (4, .inl l4), (5, .inl l5)] [] S Q := by
  intro n
  induction n using Nat.strongRecOn with
  | _ n IH =>
    intro S l2 l3 l4 l5 hmu hI  hi0 hi1 hi2
    refine g_104_84_10 l2 l3 l4 l5 (by omega) (by omega) (zG_T hI) ?_
    have li1 : (4500 : Int32).toInt = 4500 := rfl
    have b2 := i_bd l5
    refine zd (fun h3 => ?_) (fun h3 => ?_)
    · skip
      have g4 := i_le h3
      have li5 : (-1 : Int32).toInt = -1 := rfl
      exact K ((-1 : Int32)) _ hI (by omega)
    · skip
      have g6 := i_nle h3
      have b7 := i_bd l2
      have b8 := i_bd l4
      refine zd (fun h9 => ?_) (fun h9 => ?_)
      · skip
        have g10 := i_le h9
        have li11 : (-1 : Int32).toInt = -1 := rfl
        exact K ((-1 : Int32)) _ hI (by omega)
      · skip
        have g12 := i_nle h9
        refine sp_106_84 (l4) (by omega) (by omega) hI (by omega) (by omega) (fun v2 S1 hI_S1 hp_v2 => zi_n ⟨zG_T hI_S1, ?_⟩)
        have b13 := i_bd v2
        first | have e14 : (v2 - l4).toInt = v2.toInt - l4.toInt := i_sub (by omega) (by omega) | have b15 := i_bd (v2 - l4)
        have b16 := i_bd l3
        refine zd (fun h17 => ?_) (fun h17 => ?_)
        · skip
          have g18 := i_lt h17
          have hI19 : zJ84 f r C Z N (ma_put S1 69 12 (.inl ((mI S1 69 12) + (1 : Int32)))) := zG_fr hI_S1 rfl (by decide) (by decide) (by decide) trivial
          refine sp_105_84 (v2) (by omega) (by omega) hI19 (by omega) (fun v4 S3 hI_S3 hp_v4 => zi_n ⟨zG_T hI_S3, ?_⟩)
          have b20 := i_bd v4
          first | have e21 : (l5 + (1 : Int32)).toInt = l5.toInt + (1) := i_addk rfl (by omega) (by omega) | have b22 := i_bd (l5 + (1 : Int32))
          exact IH _ (by omega) _ (l2) (l3) (v4) ((l5 + (1 : Int32))) rfl hI_S3 (by omega) (by omega) (by omega)
        · skip
          have g23 := i_nlt h17
          have hI24 : zJ84 f r C Z N (ma_put S1 69 12 (.inl ((mI S1 69 12) + (1 : Int32)))) := zG_fr hI_S1 rfl (by decide) (by decide) (by decide) trivial
          exact K (l4) _ hI24 (by omega)
theorem sp_104_84 {X : Nat × (Nat → Int32)} {d w : Nat} {f : Nat → Nat → Int32} {r : Nat → Nat → Option Nat} {C Z N : Nat} {Q : Option ma_V ⊕ Nat → ma_S → Prop} {S : ma_S} (a : Int32) (b : Int32) (n : Int32) (hd : 2 ≤ d) (hw : 45 ≤ w) (hI : zJ84 f r C Z N S) (hpre0 : 0 ≤ a.toInt) (K : ∀ v S', zJ84 f r C Z N S' → (-1 ≤ v.toInt ∧ v.toInt ≤ 300000) → Q (.inl (some (.inl v))) S') : ma_wp X d w 104 0 [(0, .inr (.inr (some 84))), (1, .inl a), (2, .inl b), (3, .inl n)] [] S Q := by
  refine g_104_84_0 a b n (by omega) (by omega) (zG_T hI) ?_
  have b1 := i_bd a
  refine sp_105_84 (a) (by omega) (by omega) hI (by omega) (fun v2 S1 hI_S1 hp_v2 => zi_n ⟨zG_T hI_S1, ?_⟩)
  have b2 := i_bd b
  have b3 := i_bd n
  have b4 := i_bd v2
  have li5 : (0 : Int32).toInt = 0 := rfl
  exact lp_104_84_10 (by omega) (by omega) K _ _ (b) (n) (v2) ((0 : Int32)) rfl hI_S1 (by omega) (by omega) (by omega)
