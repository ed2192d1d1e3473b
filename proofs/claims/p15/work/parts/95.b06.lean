/-! regions (written by wip/tools/gen95a.py) -/
theorem g_38_91_66_0 {X : Nat × (Nat → Int32)} {d w : Nat} {S : ma_S} {Q : Option ma_V ⊕ Nat → ma_S → Prop}  (hd : 1 ≤ d) (hw : 68 ≤ w) (hS : zT S) (h : if (mI S 66 1) ≤ 0 then (ma_wp X (d - 1) (w - 23) 276 0 [(0, .inr (.inr (some 92))), (1, .inl (0 : Int32))] [] (ma_put (ma_put (ma_put (ma_put S 91 2 (.inl (mI S 66 1))) 91 3 (.inl (0 : Int32))) 91 4 (.inl (mI S 66 2))) 91 5 (.inl (0 : Int32))) (zv (fun S1 => zT S1 ∧ (Q (.inl none) S1)) (fun _ _ => False))) else ((mI S 66 1) ≠ 0 ∧ (ma_wp X (d - 1) (w - 23) 276 0 [(0, .inr (.inr (some 92))), (1, .inl (0 : Int32))] [] (ma_put (ma_put (ma_put (ma_put S 91 2 (.inl (mI S 66 1))) 91 3 (.inl (if (93 : Int32) < ((mI S 66 0) / (mI S 66 1)) then (93 : Int32) else ((mI S 66 0) / (mI S 66 1))))) 91 4 (.inl (mI S 66 2))) 91 5 (.inl (0 : Int32))) (zv (fun S3 => zT S3 ∧ (Q (.inl none) S3)) (fun _ _ => False))))) : ma_wp X d w 38 0 [(0, .inr (.inr (some 91))), (1, .inr (.inr (some 66)))] [] S Q := by
  refine zw_push hm_38 dX4_open_0 (v := .inr (.inr (some 91))) rfl ?_
  refine zw_push hm_38 dX4_open_1 (v := .inr (.inr (some 66))) rfl ?_
  refine zw_push hm_38 dX4_open_2 (v := .inl (1 : Int32)) rfl ?_
  refine zw_ia hm_38 dX4_open_3 (zT_is hS s_66) (zT_h hS s_66) rfl ⟨by decide, by decide⟩ ?_
  show ma_wp X d w 38 4 [(0, .inr (.inr (some 91))), (1, .inr (.inr (some 66)))] [.inl (mI S 66 1), .inr (.inr (some 91))] S _
  refine zw_pf hm_38 dX4_open_4 (zT_is hS s_91) (zT_t hS s_91) p_4_18_4 zk_int ?_
  refine zw_push hm_38 dX4_open_7 (v := .inr (.inr (some 91))) rfl ?_
  refine zw_push hm_38 dX4_open_8 (v := .inr (.inr (some 91))) rfl ?_
  refine zw_gf hm_38 dX4_open_9 (v := .inl (mI S 66 1)) (zT_is (zT_pi hS) s_91) (zT_t (zT_pi hS) s_91) rfl f_4_18_4 rfl ?_
  refine zw_if0 hm_38 dX4_open_12 (t := 31) rfl zc0_le ?_ ?_
  · intro hc
    rw [if_pos hc] at h
    refine zw_push hm_38 dX4_open_31 (v := .inl (0 : Int32)) rfl ?_
    refine zw_pf hm_38 dX4_open_32 (zT_is (zT_pi hS) s_91) (zT_t (zT_pi hS) s_91) p_4_28_4 zk_int ?_
    refine zw_push hm_38 dX4_open_35 (v := .inr (.inr (some 91))) rfl ?_
    refine zw_push hm_38 dX4_open_36 (v := .inr (.inr (some 66))) rfl ?_
    refine zw_push hm_38 dX4_open_37 (v := .inl (2 : Int32)) rfl ?_
    refine zw_ia hm_38 dX4_open_38 (zT_is (zT_pi (zT_pi hS)) s_66) (zT_h (zT_pi (zT_pi hS)) s_66) rfl ⟨by decide, by decide⟩ ?_
    show ma_wp X d w 38 39 [(0, .inr (.inr (some 91))), (1, .inr (.inr (some 66)))] [.inl (mI S 66 2), .inr (.inr (some 91))] (ma_put (ma_put S 91 2 (.inl (mI S 66 1))) 91 3 (.inl (0 : Int32))) _
    refine zw_pf hm_38 dX4_open_39 (zT_is (zT_pi (zT_pi hS)) s_91) (zT_t (zT_pi (zT_pi hS)) s_91) p_4_31_4 zk_int ?_
    refine zw_push hm_38 dX4_open_42 (v := .inr (.inr (some 91))) rfl ?_
    refine zw_push hm_38 dX4_open_43 (v := .inl (0 : Int32)) rfl ?_
    refine zw_pf hm_38 dX4_open_44 (zT_is (zT_pi (zT_pi (zT_pi hS))) s_91) (zT_t (zT_pi (zT_pi (zT_pi hS))) s_91) p_4_34_4 zk_int ?_
    refine zw_push hm_38 dX4_open_47 (v := .inr (.inr (some 91))) rfl ?_
    refine zw_gf hm_38 dX4_open_48 (v := .inr (.inr (some 92))) (zT_is (zT_pi (zT_pi (zT_pi (zT_pi hS)))) s_91) (zT_t (zT_pi (zT_pi (zT_pi (zT_pi hS)))) s_91) rfl f_4_9_4 (zT_f (zT_pi (zT_pi (zT_pi (zT_pi hS)))) r_91_7) ?_
    refine zw_push hm_38 dX4_open_51 (v := .inl (0 : Int32)) rfl ?_
    refine zw_cs hm_38 dX4_open_52 pn_4_37 sl_4_37 hm_276 [.inl (0 : Int32), .inr (.inr (some 92))] [] rfl ⟨by omega, by omega⟩ rfl (zw_mono h (zv_go ?_ ?_))
    · intro S1 hv
      obtain ⟨hS1, h⟩ := hv
      exact zw_vret hm_38 dX4_open_55 h
    · intro x S9 hx
      exact hx.elim
  · intro hc
    rw [if_neg hc] at h
    refine zw_push hm_38 dX4_open_15 (v := .inr (.inr (some 66))) rfl ?_
    refine zw_push hm_38 dX4_open_16 (v := .inl (0 : Int32)) rfl ?_
    refine zw_ia hm_38 dX4_open_17 (zT_is (zT_pi hS) s_66) (zT_h (zT_pi hS) s_66) rfl ⟨by decide, by decide⟩ ?_
    show ma_wp X d w 38 18 [(0, .inr (.inr (some 91))), (1, .inr (.inr (some 66)))] [.inl (mI S 66 0), .inr (.inr (some 91))] (ma_put S 91 2 (.inl (mI S 66 1))) _
    refine zw_push hm_38 dX4_open_18 (v := .inr (.inr (some 91))) rfl ?_
    refine zw_gf hm_38 dX4_open_19 (v := .inl (mI S 66 1)) (zT_is (zT_pi hS) s_91) (zT_t (zT_pi hS) s_91) rfl f_4_18_4 rfl ?_
    obtain ⟨hg, h⟩ := h
    refine zw_stk hm_38 dX4_open_22 (st' := [.inl ((mI S 66 0) / (mI S 66 1)), .inr (.inr (some 91))]) rfl (if_neg hg) ?_
    refine zw_push hm_38 dX4_open_23 (v := .inl (93 : Int32)) rfl ?_
    refine zw_min hm_38 dX4_open_25 pr_4_22 (by omega) (by show 1 + 13 ≤ w; omega) (fun _ _ _ _ z => by cases z) ?_
    refine zw_goto hm_38 dX4_open_28 (t := 32) rfl ?_
    refine zw_pf hm_38 dX4_open_32 (zT_is (zT_pi hS) s_91) (zT_t (zT_pi hS) s_91) p_4_28_4 zk_int ?_
    refine zw_push hm_38 dX4_open_35 (v := .inr (.inr (some 91))) rfl ?_
    refine zw_push hm_38 dX4_open_36 (v := .inr (.inr (some 66))) rfl ?_
    refine zw_push hm_38 dX4_open_37 (v := .inl (2 : Int32)) rfl ?_
    refine zw_ia hm_38 dX4_open_38 (zT_is (zT_pi (zT_pi hS)) s_66) (zT_h (zT_pi (zT_pi hS)) s_66) rfl ⟨by decide, by decide⟩ ?_
    show ma_wp X d w 38 39 [(0, .inr (.inr (some 91))), (1, .inr (.inr (some 66)))] [.inl (mI S 66 2), .inr (.inr (some 91))] (ma_put (ma_put S 91 2 (.inl (mI S 66 1))) 91 3 (.inl (if (93 : Int32) < ((mI S 66 0) / (mI S 66 1)) then (93 : Int32) else ((mI S 66 0) / (mI S 66 1))))) _
    refine zw_pf hm_38 dX4_open_39 (zT_is (zT_pi (zT_pi hS)) s_91) (zT_t (zT_pi (zT_pi hS)) s_91) p_4_31_4 zk_int ?_
    refine zw_push hm_38 dX4_open_42 (v := .inr (.inr (some 91))) rfl ?_
    refine zw_push hm_38 dX4_open_43 (v := .inl (0 : Int32)) rfl ?_
    refine zw_pf hm_38 dX4_open_44 (zT_is (zT_pi (zT_pi (zT_pi hS))) s_91) (zT_t (zT_pi (zT_pi (zT_pi hS))) s_91) p_4_34_4 zk_int ?_
    refine zw_push hm_38 dX4_open_47 (v := .inr (.inr (some 91))) rfl ?_
    refine zw_gf hm_38 dX4_open_48 (v := .inr (.inr (some 92))) (zT_is (zT_pi (zT_pi (zT_pi (zT_pi hS)))) s_91) (zT_t (zT_pi (zT_pi (zT_pi (zT_pi hS)))) s_91) rfl f_4_9_4 (zT_f (zT_pi (zT_pi (zT_pi (zT_pi hS)))) r_91_7) ?_
    refine zw_push hm_38 dX4_open_51 (v := .inl (0 : Int32)) rfl ?_
    refine zw_cs hm_38 dX4_open_52 pn_4_37 sl_4_37 hm_276 [.inl (0 : Int32), .inr (.inr (some 92))] [] rfl ⟨by omega, by omega⟩ rfl (zw_mono h (zv_go ?_ ?_))
    · intro S3 hv
      obtain ⟨hS3, h⟩ := hv
      exact zw_vret hm_38 dX4_open_55 h
    · intro x S9 hx
      exact hx.elim
theorem sp_38_91_66 {X : Nat × (Nat → Int32)} {d w : Nat} {f : Nat → Nat → Int32} {r : Nat → Nat → Option Nat} {C Z N : Nat} {Q : Option ma_V ⊕ Nat → ma_S → Prop} {S : ma_S}  (hd : 1 ≤ d) (hw : 68 ≤ w) (hI : zL91 f r C Z N S) (hpre0 : 0 ≤ (mI S 66 0).toInt ∧ (mI S 66 0).toInt ≤ 1500 ∧ 0 ≤ (mI S 66 1).toInt ∧ (mI S 66 1).toInt ≤ 1500) (K : ∀ S', zL91 f r C Z N S' → Q (.inl none) S') : ma_wp X d w 38 0 [(0, .inr (.inr (some 91))), (1, .inr (.inr (some 66)))] [] S Q := by
  refine g_38_91_66_0  (by omega) (by omega) (zG_T hI) ?_
  have b1 := i_bd (mI S 66 1)
  have li2 : (0 : Int32).toInt = 0 := rfl
  refine zd (fun h3 => ?_) (fun h3 => ?_)
  · skip
    have g4 := i_le h3
    have hI5 : zL91 f r C Z N (ma_put S 91 2 (.inl (mI S 66 1))) := zG_sp hI (0) (1500) rfl (by decide) (by decide) (by decide) trivial (by omega) (by omega)
    have hI6 : zL91 f r C Z N (ma_put (ma_put S 91 2 (.inl (mI S 66 1))) 91 3 (.inl (0 : Int32))) := zG_sp hI5 (0) (93) rfl (by decide) (by decide) (by decide) trivial (by omega) (by omega)
    have hI7 : zL91 f r C Z N (ma_put (ma_put (ma_put S 91 2 (.inl (mI S 66 1))) 91 3 (.inl (0 : Int32))) 91 4 (.inl (mI S 66 2))) := zG_fr hI6 rfl (by decide) (by decide) (by decide) trivial
    have hI8 : zL91 f r C Z N (ma_put (ma_put (ma_put (ma_put S 91 2 (.inl (mI S 66 1))) 91 3 (.inl (0 : Int32))) 91 4 (.inl (mI S 66 2))) 91 5 (.inl (0 : Int32))) := zG_sp hI7 (0) (92) rfl (by decide) (by decide) (by decide) trivial (by omega) (by omega)
    refine sp_276_92 ((0 : Int32)) (by omega) (by omega) hI8 (by omega) (by omega) (fun S1 hI_S1 => zv_n ⟨zG_T hI_S1, ?_⟩)
    exact K _ hI_S1
  · skip
    have g9 := i_nle h3
    refine ⟨i_nz (by omega), ?_⟩
    have hI10 : zL91 f r C Z N (ma_put S 91 2 (.inl (mI S 66 1))) := zG_sp hI (0) (1500) rfl (by decide) (by decide) (by decide) trivial (by omega) (by omega)
    have b12 := i_bd (mI S 66 0)
    first | have f13 := i_div (x := (mI S 66 0)) (y := (mI S 66 1)) (by omega) (by omega) | have b14 := i_bd ((mI S 66 0) / (mI S 66 1))
    have li15 : (93 : Int32).toInt = 93 := rfl
    have f16 := i_min ((mI S 66 0) / (mI S 66 1)) (93 : Int32)
    have hI11 : zL91 f r C Z N (ma_put (ma_put S 91 2 (.inl (mI S 66 1))) 91 3 (.inl (if (93 : Int32) < ((mI S 66 0) / (mI S 66 1)) then (93 : Int32) else ((mI S 66 0) / (mI S 66 1))))) := zG_sp hI10 (0) (93) rfl (by decide) (by decide) (by decide) trivial (by omega) (by omega)
    have hI17 : zL91 f r C Z N (ma_put (ma_put (ma_put S 91 2 (.inl (mI S 66 1))) 91 3 (.inl (if (93 : Int32) < ((mI S 66 0) / (mI S 66 1)) then (93 : Int32) else ((mI S 66 0) / (mI S 66 1))))) 91 4 (.inl (mI S 66 2))) := zG_fr hI11 rfl (by decide) (by decide) (by decide) trivial
    have hI18 : zL91 f r C Z N (ma_put (ma_put (ma_put (ma_put S 91 2 (.inl (mI S 66 1))) 91 3 (.inl (if (93 : Int32) < ((mI S 66 0) / (mI S 66 1)) then (93 : Int32) else ((mI S 66 0) / (mI S 66 1))))) 91 4 (.inl (mI S 66 2))) 91 5 (.inl (0 : Int32))) := zG_sp hI17 (0) (92) rfl (by decide) (by decide) (by decide) trivial (by omega) (by omega)
    refine sp_276_92 ((0 : Int32)) (by omega) (by omega) hI18 (by omega) (by omega) (fun S3 hI_S3 => zv_n ⟨zG_T hI_S3, ?_⟩)
    exact K _ hI_S3
