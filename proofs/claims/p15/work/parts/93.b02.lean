/-! collectors, by what they keep (written by wip/tools/gen93b.py) -/
theorem g_100_79_66_0 {X : Nat × (Nat → Int32)} {d w : Nat} {S : ma_S} {Q : Option ma_V ⊕ Nat → ma_S → Prop}  (hd : 0 ≤ d) (hw : 0 ≤ w) (hS : zT S) (h : Q (.inl none) (ma_put (ma_put (ma_put S 79 2 (.inl (mI S 66 0))) 79 3 (.inl (mI S 66 1))) 79 4 (.inl (0 : Int32)))) : ma_wp X d w 100 0 [(0, .inr (.inr (some 79))), (1, .inr (.inr (some 66)))] [] S Q := by
  refine zw_push hm_100 dX8_open_0 (v := .inr (.inr (some 79))) rfl ?_
  refine zw_push hm_100 dX8_open_1 (v := .inr (.inr (some 66))) rfl ?_
  refine zw_push hm_100 dX8_open_2 (v := .inl (0 : Int32)) rfl ?_
  refine zw_ia hm_100 dX8_open_3 (zT_is hS s_66) (zT_h hS s_66) rfl ⟨by decide, by decide⟩ ?_
  show ma_wp X d w 100 4 [(0, .inr (.inr (some 79))), (1, .inr (.inr (some 66)))] [.inl (mI S 66 0), .inr (.inr (some 79))] S _
  refine zw_pf hm_100 dX8_open_4 (zT_is hS s_79) (zT_t hS s_79) p_8_9_8 zk_int ?_
  refine zw_push hm_100 dX8_open_7 (v := .inr (.inr (some 79))) rfl ?_
  refine zw_push hm_100 dX8_open_8 (v := .inr (.inr (some 66))) rfl ?_
  refine zw_push hm_100 dX8_open_9 (v := .inl (1 : Int32)) rfl ?_
  refine zw_ia hm_100 dX8_open_10 (zT_is (zT_pi hS) s_66) (zT_h (zT_pi hS) s_66) rfl ⟨by decide, by decide⟩ ?_
  show ma_wp X d w 100 11 [(0, .inr (.inr (some 79))), (1, .inr (.inr (some 66)))] [.inl (mI S 66 1), .inr (.inr (some 79))] (ma_put S 79 2 (.inl (mI S 66 0))) _
  refine zw_pf hm_100 dX8_open_11 (zT_is (zT_pi hS) s_79) (zT_t (zT_pi hS) s_79) p_8_15_8 zk_int ?_
  refine zw_push hm_100 dX8_open_14 (v := .inr (.inr (some 79))) rfl ?_
  refine zw_push hm_100 dX8_open_15 (v := .inl (0 : Int32)) rfl ?_
  refine zw_pf hm_100 dX8_open_16 (zT_is (zT_pi (zT_pi hS)) s_79) (zT_t (zT_pi (zT_pi hS)) s_79) p_8_18_8 zk_int ?_
  exact zw_vret hm_100 dX8_open_19 h
theorem sp_100_79_66 {X : Nat × (Nat → Int32)} {d w : Nat} {f : Nat → Nat → Int32} {r : Nat → Nat → Option Nat} {C Z N : Nat} {Q : Option ma_V ⊕ Nat → ma_S → Prop} {S : ma_S}  (hd : 0 ≤ d) (hw : 0 ≤ w) (hI : zJ79 f r C Z N S) (hpre0 : 0 ≤ (mI S 66 0).toInt ∧ (mI S 66 0).toInt ≤ 1500) (K : ∀ S', zJ79 f r C Z N S' → Q (.inl none) S') : ma_wp X d w 100 0 [(0, .inr (.inr (some 79))), (1, .inr (.inr (some 66)))] [] S Q := by
  refine g_100_79_66_0  (by omega) (by omega) (zG_T hI) ?_
  have b2 := i_bd (mI S 66 0)
  have hI1 : zJ79 f r C Z N (ma_put S 79 2 (.inl (mI S 66 0))) := zG_sp hI (0) (1500) rfl (by decide) (by decide) (by decide) trivial (by omega) (by omega)
  have hI3 : zJ79 f r C Z N (ma_put (ma_put S 79 2 (.inl (mI S 66 0))) 79 3 (.inl (mI S 66 1))) := zG_fr hI1 rfl (by decide) (by decide) (by decide) trivial
  have li5 : (0 : Int32).toInt = 0 := rfl
  have hI4 : zJ79 f r C Z N (ma_put (ma_put (ma_put S 79 2 (.inl (mI S 66 0))) 79 3 (.inl (mI S 66 1))) 79 4 (.inl (0 : Int32))) := zG_sp hI3 (0) (400000) rfl (by decide) (by decide) (by decide) trivial (by omega) (by omega)
  exact K _ hI4
theorem g_101_79_0 {X : Nat × (Nat → Int32)} {d w : Nat} {S : ma_S} {Q : Option ma_V ⊕ Nat → ma_S → Prop}  (hd : 0 ≤ d) (hw : 0 ≤ w) (hS : zT S) (h : Q (.inl (some (.inl (mI S 79 2)))) S) : ma_wp X d w 101 0 [(0, .inr (.inr (some 79)))] [] S Q := by
  refine zw_push hm_101 dX8_total_0 (v := .inr (.inr (some 79))) rfl ?_
  refine zw_gf hm_101 dX8_total_1 (v := .inl (mI S 79 2)) (zT_is hS s_79) (zT_t hS s_79) rfl f_8_9_8 rfl ?_
  exact zw_iret hm_101 dX8_total_4 h
theorem sp_101_79 {X : Nat × (Nat → Int32)} {d w : Nat} {f : Nat → Nat → Int32} {r : Nat → Nat → Option Nat} {C Z N : Nat} {Q : Option ma_V ⊕ Nat → ma_S → Prop} {S : ma_S}  (hd : 0 ≤ d) (hw : 0 ≤ w) (hI : zJ79 f r C Z N S)  (K : ∀ v S', zJ79 f r C Z N S' → (True) → Q (.inl (some (.inl v))) S') : ma_wp X d w 101 0 [(0, .inr (.inr (some 79)))] [] S Q := by
  refine g_101_79_0  (by omega) (by omega) (zG_T hI) ?_
  have f1 := zG_s hI (0) (1500) (c := 79) (k := 2) (by decide)
  exact K ((mI S 79 2)) _ hI trivial
theorem g_62_80_0 {X : Nat × (Nat → Int32)} {d w : Nat} {S : ma_S} {Q : Option ma_V ⊕ Nat → ma_S → Prop}  (hd : 4 ≤ d) (hw : 138 ≤ w) (hS : zT S) (h : ma_wp X (d - 1) (w - 20) 264 0 [(0, .inr (.inr (some 80)))] [] S (zi (fun v2 S1 => zT S1 ∧ (ma_wp X (d - 1) (w - 24) 263 0 [(0, .inr (.inr (some 80))), (1, .inl (mI S1 80 2))] [] S1 (zi (fun v4 S3 => zT S3 ∧ (Q (.inl (some (.inl v2))) (ma_put S3 80 3 (.inl v4)))) (fun _ _ => False)))) (fun _ _ => False))) : ma_wp X d w 62 0 [(0, .inr (.inr (some 80)))] [] S Q := by
  refine zw_push hm_62 dX5_cleanAll_0 (v := .inr (.inr (some 80))) rfl ?_
  refine zw_cv hm_62 dX5_cleanAll_1 v_5_30_5 hm_264 [] [] rfl (zT_rt hS s_80 rfl) ⟨by omega, by omega⟩ rfl (zw_mono h (zi_go ?_ ?_))
  · intro v2 S1 hv
    obtain ⟨hS1, h⟩ := hv
    refine zw_sto hm_62 dX5_cleanAll_4 [(1, .inl v2), (0, .inr (.inr (some 80)))] rfl rfl rfl ?_
    refine zw_push hm_62 dX5_cleanAll_5 (v := .inr (.inr (some 80))) rfl ?_
    refine zw_push hm_62 dX5_cleanAll_6 (v := .inr (.inr (some 80))) rfl ?_
    refine zw_push hm_62 dX5_cleanAll_7 (v := .inr (.inr (some 80))) rfl ?_
    refine zw_gf hm_62 dX5_cleanAll_8 (v := .inl (mI S1 80 2)) (zT_is hS1 s_80) (zT_t hS1 s_80) rfl f_5_9_5 rfl ?_
    refine zw_cv hm_62 dX5_cleanAll_11 v_5_33_5 hm_263 [.inl (mI S1 80 2)] [.inr (.inr (some 80))] rfl (zT_rt hS1 s_80 rfl) ⟨by omega, by omega⟩ rfl (zw_mono h (zi_go ?_ ?_))
    · intro v4 S3 hv
      obtain ⟨hS3, h⟩ := hv
      refine zw_pf hm_62 dX5_cleanAll_14 (zT_is hS3 s_80) (zT_t hS3 s_80) p_5_15_5 zk_int ?_
      refine zw_push hm_62 dX5_cleanAll_17 (v := .inl v2) rfl ?_
      exact zw_iret hm_62 dX5_cleanAll_18 h
    · intro x S9 hx
      exact hx.elim
  · intro x S9 hx
    exact hx.elim
theorem sp_62_80 {X : Nat × (Nat → Int32)} {d w : Nat} {f : Nat → Nat → Int32} {r : Nat → Nat → Option Nat} {C Z N : Nat} {Q : Option ma_V ⊕ Nat → ma_S → Prop} {S : ma_S}  (hd : 4 ≤ d) (hw : 138 ≤ w) (hI : zJ80 f r C Z N S)  (K : ∀ v S', zJ80 f r C Z N S' → (True) → Q (.inl (some (.inl v))) S') : ma_wp X d w 62 0 [(0, .inr (.inr (some 80)))] [] S Q := by
  refine g_62_80_0  (by omega) (by omega) (zG_T hI) ?_
  refine sp_264_80  (by omega) (by omega) (zJ80_dn hI)  (fun v2 S1 hL_S1 hp_v2 => zi_n ⟨zG_T hL_S1, ?_⟩)
  have hI_S1 := zJ80_up hI hL_S1
  have f1 := zG_s hI (0) (1500) (c := 80) (k := 2) (by decide)
  have q2 : (mI S1 80 2).toInt = (mI S 80 2).toInt := zG_zi hL_S1 rfl
  have f3 := zG_s hI_S1 (0) (1500) (c := 80) (k := 2) (by decide)
  refine sp_263_80 ((mI S1 80 2)) (by omega) (by omega) (zJ80_dn hI_S1) (by omega) (fun v4 S3 hL_S3 hp_v4 => zi_n ⟨zG_T hL_S3, ?_⟩)
  have hI_S3 := zJ80_up hI_S1 hL_S3
  have b5 := i_bd v4
  have hI4 : zJ80 f r C Z N (ma_put S3 80 3 (.inl v4)) := zG_sp hI_S3 (0) (400000) rfl (by decide) (by decide) (by decide) trivial (by omega) (by omega)
  have b6 := i_bd v2
  exact K (v2) _ hI4 trivial
theorem g_61_80_0 {X : Nat × (Nat → Int32)} {d w : Nat} {S : ma_S} {Q : Option ma_V ⊕ Nat → ma_S → Prop} (n : Int32) (hd : 5 ≤ d) (hw : 159 ≤ w) (hS : zT S) (h : if ((mI S 80 3) + n) ≤ (mI S 80 2) then (if ((mI S 80 3) + n) ≤ (mI S 80 2) then (Q (.inl (some (.inl (mI S 80 3)))) S) else (Q (.inl (some (.inl (-1 : Int32)))) S)) else (ma_wp X (d - 1) (w - 21) 62 0 [(0, .inr (.inr (some 80)))] [] S (zi (fun v2 S1 => zT S1 ∧ (if ((mI S1 80 3) + n) ≤ (mI S1 80 2) then (Q (.inl (some (.inl (mI S1 80 3)))) S1) else (Q (.inl (some (.inl (-1 : Int32)))) S1))) (fun x S9 => Q (.inr x) S9)))) : ma_wp X d w 61 0 [(0, .inr (.inr (some 80))), (1, .inl n)] [] S Q := by
  refine zw_push hm_61 dX5_findRoom_0 (v := .inr (.inr (some 80))) rfl ?_
  refine zw_gf hm_61 dX5_findRoom_1 (v := .inl (mI S 80 3)) (zT_is hS s_80) (zT_t hS s_80) rfl f_5_15_5 rfl ?_
  refine zw_push hm_61 dX5_findRoom_4 (v := .inl n) rfl ?_
  refine zw_stk hm_61 dX5_findRoom_5 (st' := [.inl ((mI S 80 3) + n)]) rfl rfl ?_
  refine zw_push hm_61 dX5_findRoom_6 (v := .inr (.inr (some 80))) rfl ?_
  refine zw_gf hm_61 dX5_findRoom_7 (v := .inl (mI S 80 2)) (zT_is hS s_80) (zT_t hS s_80) rfl f_5_9_5 rfl ?_
  refine zw_if2 hm_61 dX5_findRoom_10 (t := 18) rfl zc2_le ?_ ?_
  · intro hc
    rw [if_pos hc] at h
    refine zw_push hm_61 dX5_findRoom_18 (v := .inr (.inr (some 80))) rfl ?_
    refine zw_gf hm_61 dX5_findRoom_19 (v := .inl (mI S 80 3)) (zT_is hS s_80) (zT_t hS s_80) rfl f_5_15_5 rfl ?_
    refine zw_push hm_61 dX5_findRoom_22 (v := .inl n) rfl ?_
    refine zw_stk hm_61 dX5_findRoom_23 (st' := [.inl ((mI S 80 3) + n)]) rfl rfl ?_
    refine zw_push hm_61 dX5_findRoom_24 (v := .inr (.inr (some 80))) rfl ?_
    refine zw_gf hm_61 dX5_findRoom_25 (v := .inl (mI S 80 2)) (zT_is hS s_80) (zT_t hS s_80) rfl f_5_9_5 rfl ?_
    refine zw_if2 hm_61 dX5_findRoom_28 (t := 35) rfl zc2_le ?_ ?_
    · intro hc
      rw [if_pos hc] at h
      refine zw_push hm_61 dX5_findRoom_35 (v := .inr (.inr (some 80))) rfl ?_
      refine zw_gf hm_61 dX5_findRoom_36 (v := .inl (mI S 80 3)) (zT_is hS s_80) (zT_t hS s_80) rfl f_5_15_5 rfl ?_
      exact zw_iret hm_61 dX5_findRoom_39 h
    · intro hc
      rw [if_neg hc] at h
      refine zw_push hm_61 dX5_findRoom_31 (v := .inl (-1 : Int32)) rfl ?_
      refine zw_goto hm_61 dX5_findRoom_32 (t := 39) rfl ?_
      exact zw_iret hm_61 dX5_findRoom_39 h
  · intro hc
    rw [if_neg hc] at h
    refine zw_push hm_61 dX5_findRoom_13 (v := .inr (.inr (some 80))) rfl ?_
    refine zw_cv hm_61 dX5_findRoom_14 v_5_18_5 hm_62 [] [] rfl (zT_rt hS s_80 rfl) ⟨by omega, by omega⟩ rfl (zw_mono h (zi_go ?_ ?_))
    · intro v2 S1 hv
      obtain ⟨hS1, h⟩ := hv
      refine zw_stk hm_61 dX5_findRoom_17 (st' := []) rfl rfl ?_
      refine zw_push hm_61 dX5_findRoom_18 (v := .inr (.inr (some 80))) rfl ?_
      refine zw_gf hm_61 dX5_findRoom_19 (v := .inl (mI S1 80 3)) (zT_is hS1 s_80) (zT_t hS1 s_80) rfl f_5_15_5 rfl ?_
      refine zw_push hm_61 dX5_findRoom_22 (v := .inl n) rfl ?_
      refine zw_stk hm_61 dX5_findRoom_23 (st' := [.inl ((mI S1 80 3) + n)]) rfl rfl ?_
      refine zw_push hm_61 dX5_findRoom_24 (v := .inr (.inr (some 80))) rfl ?_
      refine zw_gf hm_61 dX5_findRoom_25 (v := .inl (mI S1 80 2)) (zT_is hS1 s_80) (zT_t hS1 s_80) rfl f_5_9_5 rfl ?_
      refine zw_if2 hm_61 dX5_findRoom_28 (t := 35) rfl zc2_le ?_ ?_
      · intro hc
        rw [if_pos hc] at h
        refine zw_push hm_61 dX5_findRoom_35 (v := .inr (.inr (some 80))) rfl ?_
        refine zw_gf hm_61 dX5_findRoom_36 (v := .inl (mI S1 80 3)) (zT_is hS1 s_80) (zT_t hS1 s_80) rfl f_5_15_5 rfl ?_
        exact zw_iret hm_61 dX5_findRoom_39 h
      · intro hc
        rw [if_neg hc] at h
        refine zw_push hm_61 dX5_findRoom_31 (v := .inl (-1 : Int32)) rfl ?_
        refine zw_goto hm_61 dX5_findRoom_32 (t := 39) rfl ?_
        exact zw_iret hm_61 dX5_findRoom_39 h
    · intro x S9 hx
      exact ⟨by decide, hx⟩
theorem sp_61_80 {X : Nat × (Nat → Int32)} {d w : Nat} {f : Nat → Nat → Int32} {r : Nat → Nat → Option Nat} {C Z N : Nat} {Q : Option ma_V ⊕ Nat → ma_S → Prop} {S : ma_S} (n : Int32) (hd : 5 ≤ d) (hw : 159 ≤ w) (hI : zJ80 f r C Z N S) (hpre0 : 1 ≤ n.toInt) (hpre1 : n.toInt ≤ 61) (K : ∀ v S', zJ80 f r C Z N S' → (-1 ≤ v.toInt ∧ v.toInt ≤ 300000) → Q (.inl (some (.inl v))) S') : ma_wp X d w 61 0 [(0, .inr (.inr (some 80))), (1, .inl n)] [] S Q := by
  refine g_61_80_0 n (by omega) (by omega) (zG_T hI) ?_
  have f1 := zG_s hI (0) (400000) (c := 80) (k := 3) (by decide)
  have b2 := i_bd n
  first | have e3 : ((mI S 80 3) + n).toInt = (mI S 80 3).toInt + n.toInt := i_add (by omega) (by omega) | have b4 := i_bd ((mI S 80 3) + n)
  have f5 := zG_s hI (0) (1500) (c := 80) (k := 2) (by decide)
  refine zd (fun h6 => ?_) (fun h6 => ?_)
  · skip
    have g7 := i_le h6
    refine zd (fun h8 => ?_) (fun h8 => ?_)
    · skip
      have g9 := i_le h8
      exact K ((mI S 80 3)) _ hI (by omega)
    · skip
      have g10 := i_nle h8
      have li11 : (-1 : Int32).toInt = -1 := rfl
      exact K ((-1 : Int32)) _ hI (by omega)
  · skip
    have g12 := i_nle h6
    refine sp_62_80  (by omega) (by omega) hI  (fun v2 S1 hI_S1 hp_v2 => zi_n ⟨zG_T hI_S1, ?_⟩)
    have f13 := zG_s hI_S1 (0) (400000) (c := 80) (k := 3) (by decide)
    first | have e14 : ((mI S1 80 3) + n).toInt = (mI S1 80 3).toInt + n.toInt := i_add (by omega) (by omega) | have b15 := i_bd ((mI S1 80 3) + n)
    have f16 := zG_s hI_S1 (0) (1500) (c := 80) (k := 2) (by decide)
    refine zd (fun h17 => ?_) (fun h17 => ?_)
    · skip
      have g18 := i_le h17
      exact K ((mI S1 80 3)) _ hI_S1 (by omega)
    · skip
      have g19 := i_nle h17
      have li20 : (-1 : Int32).toInt = -1 := rfl
      exact K ((-1 : Int32)) _ hI_S1 (by omega)
theorem g_63_80_0 {X : Nat × (Nat → Int32)} {d w : Nat} {S : ma_S} {Q : Option ma_V ⊕ Nat → ma_S → Prop} (t : Nat) (hd : 0 ≤ d) (hw : 0 ≤ w) (hS : zT S) (h : (126 ≤ t ∧ t < mN S) ∧ ((126 ≤ t ∧ t < mN S) ∧ (Q (.inl none) (ma_put S 80 3 (.inl ((mI S t 4) + (mI S t 2))))))) : ma_wp X d w 63 0 [(0, .inr (.inr (some 80))), (1, .inr (.inr (some t)))] [] S Q := by
  refine zw_push hm_63 dX5_noteMade_0 (v := .inr (.inr (some 80))) rfl ?_
  refine zw_push hm_63 dX5_noteMade_1 (v := .inr (.inr (some t))) rfl ?_
  obtain ⟨hg, h⟩ := h
  refine zw_gf hm_63 dX5_noteMade_2 (v := .inl (mI S t 4)) (zT_tis hS hg) (zT_tt hS hg) rfl f_5_22_9 rfl ?_
  refine zw_push hm_63 dX5_noteMade_5 (v := .inr (.inr (some t))) rfl ?_
  obtain ⟨hg, h⟩ := h
  refine zw_gf hm_63 dX5_noteMade_6 (v := .inl (mI S t 2)) (zT_tis hS hg) (zT_tt hS hg) rfl f_5_27_9 rfl ?_
  refine zw_stk hm_63 dX5_noteMade_9 (st' := [.inl ((mI S t 4) + (mI S t 2)), .inr (.inr (some 80))]) rfl rfl ?_
  refine zw_pf hm_63 dX5_noteMade_10 (zT_is hS s_80) (zT_t hS s_80) p_5_15_5 zk_int ?_
  exact zw_vret hm_63 dX5_noteMade_13 h
theorem sp_63_80 {X : Nat × (Nat → Int32)} {d w : Nat} {f : Nat → Nat → Int32} {r : Nat → Nat → Option Nat} {C Z N : Nat} {Q : Option ma_V ⊕ Nat → ma_S → Prop} {S : ma_S} (t : Nat) (hd : 0 ≤ d) (hw : 0 ≤ w) (hI : zJ80 f r C Z N S) (th_t : 126 ≤ t ∧ t < N) (K : ∀ S', zJ80 f r C Z N S' → Q (.inl none) S') : ma_wp X d w 63 0 [(0, .inr (.inr (some 80))), (1, .inr (.inr (some t)))] [] S Q := by
  refine g_63_80_0 t (by omega) (by omega) (zG_T hI) ?_
  refine ⟨zG_n hI th_t, ?_⟩
  refine ⟨zG_n hI th_t, ?_⟩
  have f2 := zG_th hI th_t
  have f3 := zG_th hI th_t
  first | have e4 : ((mI S t 4) + (mI S t 2)).toInt = (mI S t 4).toInt + (mI S t 2).toInt := i_add (by omega) (by omega) | have b5 := i_bd ((mI S t 4) + (mI S t 2))
  have hI1 : zJ80 f r C Z N (ma_put S 80 3 (.inl ((mI S t 4) + (mI S t 2)))) := zG_sp hI (0) (400000) rfl (by decide) (by decide) (by decide) trivial (by omega) (by omega)
  exact K _ hI1
theorem g_59_80_66_0 {X : Nat × (Nat → Int32)} {d w : Nat} {S : ma_S} {Q : Option ma_V ⊕ Nat → ma_S → Prop}  (hd : 0 ≤ d) (hw : 0 ≤ w) (hS : zT S) (h : Q (.inl none) (ma_put (ma_put S 80 2 (.inl (mI S 66 0))) 80 3 (.inl (0 : Int32)))) : ma_wp X d w 59 0 [(0, .inr (.inr (some 80))), (1, .inr (.inr (some 66)))] [] S Q := by
  refine zw_push hm_59 dX5_open_0 (v := .inr (.inr (some 80))) rfl ?_
  refine zw_push hm_59 dX5_open_1 (v := .inr (.inr (some 66))) rfl ?_
  refine zw_push hm_59 dX5_open_2 (v := .inl (0 : Int32)) rfl ?_
  refine zw_ia hm_59 dX5_open_3 (zT_is hS s_66) (zT_h hS s_66) rfl ⟨by decide, by decide⟩ ?_
  show ma_wp X d w 59 4 [(0, .inr (.inr (some 80))), (1, .inr (.inr (some 66)))] [.inl (mI S 66 0), .inr (.inr (some 80))] S _
  refine zw_pf hm_59 dX5_open_4 (zT_is hS s_80) (zT_t hS s_80) p_5_9_5 zk_int ?_
  refine zw_push hm_59 dX5_open_7 (v := .inr (.inr (some 80))) rfl ?_
  refine zw_push hm_59 dX5_open_8 (v := .inl (0 : Int32)) rfl ?_
  refine zw_pf hm_59 dX5_open_9 (zT_is (zT_pi hS) s_80) (zT_t (zT_pi hS) s_80) p_5_15_5 zk_int ?_
  exact zw_vret hm_59 dX5_open_12 h
theorem sp_59_80_66 {X : Nat × (Nat → Int32)} {d w : Nat} {f : Nat → Nat → Int32} {r : Nat → Nat → Option Nat} {C Z N : Nat} {Q : Option ma_V ⊕ Nat → ma_S → Prop} {S : ma_S}  (hd : 0 ≤ d) (hw : 0 ≤ w) (hI : zJ80 f r C Z N S) (hpre0 : 0 ≤ (mI S 66 0).toInt ∧ (mI S 66 0).toInt ≤ 1500) (K : ∀ S', zJ80 f r C Z N S' → Q (.inl none) S') : ma_wp X d w 59 0 [(0, .inr (.inr (some 80))), (1, .inr (.inr (some 66)))] [] S Q := by
  refine g_59_80_66_0  (by omega) (by omega) (zG_T hI) ?_
  have b2 := i_bd (mI S 66 0)
  have hI1 : zJ80 f r C Z N (ma_put S 80 2 (.inl (mI S 66 0))) := zG_sp hI (0) (1500) rfl (by decide) (by decide) (by decide) trivial (by omega) (by omega)
  have li4 : (0 : Int32).toInt = 0 := rfl
  have hI3 : zJ80 f r C Z N (ma_put (ma_put S 80 2 (.inl (mI S 66 0))) 80 3 (.inl (0 : Int32))) := zG_sp hI1 (0) (400000) rfl (by decide) (by decide) (by decide) trivial (by omega) (by omega)
  exact K _ hI3
theorem g_60_80_0 {X : Nat × (Nat → Int32)} {d w : Nat} {S : ma_S} {Q : Option ma_V ⊕ Nat → ma_S → Prop}  (hd : 0 ≤ d) (hw : 0 ≤ w) (hS : zT S) (h : Q (.inl (some (.inl (mI S 80 2)))) S) : ma_wp X d w 60 0 [(0, .inr (.inr (some 80)))] [] S Q := by
  refine zw_push hm_60 dX5_total_0 (v := .inr (.inr (some 80))) rfl ?_
  refine zw_gf hm_60 dX5_total_1 (v := .inl (mI S 80 2)) (zT_is hS s_80) (zT_t hS s_80) rfl f_5_9_5 rfl ?_
  exact zw_iret hm_60 dX5_total_4 h
theorem sp_60_80 {X : Nat × (Nat → Int32)} {d w : Nat} {f : Nat → Nat → Int32} {r : Nat → Nat → Option Nat} {C Z N : Nat} {Q : Option ma_V ⊕ Nat → ma_S → Prop} {S : ma_S}  (hd : 0 ≤ d) (hw : 0 ≤ w) (hI : zJ80 f r C Z N S)  (K : ∀ v S', zJ80 f r C Z N S' → (True) → Q (.inl (some (.inl v))) S') : ma_wp X d w 60 0 [(0, .inr (.inr (some 80)))] [] S Q := by
  refine g_60_80_0  (by omega) (by omega) (zG_T hI) ?_
  have f1 := zG_s hI (0) (1500) (c := 80) (k := 2) (by decide)
  exact K ((mI S 80 2)) _ hI trivial
theorem g_64_80_0 {X : Nat × (Nat → Int32)} {d w : Nat} {S : ma_S} {Q : Option ma_V ⊕ Nat → ma_S → Prop}  (hd : 0 ≤ d) (hw : 0 ≤ w) (hS : zT S) (h : Q (.inl (some (.inl (mI S 80 3)))) S) : ma_wp X d w 64 0 [(0, .inr (.inr (some 80)))] [] S Q := by
  refine zw_push hm_64 dX5_topPlace_0 (v := .inr (.inr (some 80))) rfl ?_
  refine zw_gf hm_64 dX5_topPlace_1 (v := .inl (mI S 80 3)) (zT_is hS s_80) (zT_t hS s_80) rfl f_5_15_5 rfl ?_
  exact zw_iret hm_64 dX5_topPlace_4 h
theorem sp_64_80 {X : Nat × (Nat → Int32)} {d w : Nat} {f : Nat → Nat → Int32} {r : Nat → Nat → Option Nat} {C Z N : Nat} {Q : Option ma_V ⊕ Nat → ma_S → Prop} {S : ma_S}  (hd : 0 ≤ d) (hw : 0 ≤ w) (hI : zJ80 f r C Z N S)  (K : ∀ v S', zJ80 f r C Z N S' → (True) → Q (.inl (some (.inl v))) S') : ma_wp X d w 64 0 [(0, .inr (.inr (some 80)))] [] S Q := by
  refine g_64_80_0  (by omega) (by omega) (zG_T hI) ?_
  have f1 := zG_s hI (0) (400000) (c := 80) (k := 3) (by decide)
  exact K ((mI S 80 3)) _ hI trivial
