/-! from 95.x14 -/
/-! the class opens a heap (written by wip/tools/gen15h.py) -/
theorem g_38_91_66_sn_0 {X : Nat × (Nat → Int32)} {d w : Nat} {S : ma_S} {Q : Option ma_V ⊕ Nat → ma_S → Prop}  (hd : 1 ≤ d) (hw : 68 ≤ w) (hS : zT S) (h : if (mI S 66 1) ≤ 0 then (ma_wp X (d - 1) (w - 23) 276 0 [(0, .inr (.inr (some 92))), (1, .inl (0 : Int32))] [] (ma_put (ma_put (ma_put (ma_put S 91 2 (.inl (mI S 66 1))) 91 3 (.inl (0 : Int32))) 91 4 (.inl (mI S 66 2))) 91 5 (.inl (0 : Int32))) (zv (fun S1 => zT S1 ∧ (Q (.inl none) S1)) (fun _ _ => False))) else ((mI S 66 1) ≠ 0 ∧ (ma_wp X (d - 1) (w - 23) 276 0 [(0, .inr (.inr (some 92))), (1, .inl (0 : Int32))] [] (ma_put (ma_put (ma_put (ma_put S 91 2 (.inl (mI S 66 1))) 91 3 (.inl (if (93 : Int32) < ((mI S 66 0) / (mI S 66 1)) then (93 : Int32) else ((mI S 66 0) / (mI S 66 1))))) 91 4 (.inl (mI S 66 2))) 91 5 (.inl (0 : Int32))) (zv (fun S3 => zT S3 ∧ (Q (.inl none) S3)) (fun _ _ => False))))) : ma_wp X d w 38 0 [(0, .inr (.inr (some 91))), (1, .inr (.inr (some 66)))] [] S Q := by
  refine zw_push hm_38 dX4_open_0 (v := .inr (.inr (some 91))) rfl ?_
  refine zw_push hm_38 dX4_open_1 (v := .inr (.inr (some 66))) rfl ?_
  refine zw_push hm_38 dX4_open_2 (v := .inl (1 : Int32)) rfl ?_
  refine zw_ia hm_38 dX4_open_3 (zT_is hS s_66) (zT_h hS s_66) rfl ⟨by decide, by decide⟩ ?_
  show ma_wp X d w 38 4 [(0, .inr (.inr (some 91))), (1, .inr (.inr (some 66)))] [.inl (mI S 66 1), .inr (.inr (some 91))] S _
  refine zw_pf hm_38 dX4_open_4 (zT_is hS s_91) (zT_t hS s_91) p_4_18_4 zk_int ?_
  refine zw_push hm_38 dX4_open_7 (v := .inr (.inr (some 91))) rfl ?_
  refine zw_push hm_38 dX4_open_8 (v := .inr (.inr (some 91))) rfl ?_
  refine zw_gf hm_38 dX4_open_9 (v := .inl (mI S 66 1)) (zT_is (zT_pi hS) s_91) (zT_t (zT_pi hS) s_91) rfl f_4_18_4 rfl ?_
  refine zw_if0 hm_38 dX4_open_12 (t := 31) rfl zc0_le ?_ ?_
  · intro hc
    rw [if_pos hc] at h
    refine zw_push hm_38 dX4_open_31 (v := .inl (0 : Int32)) rfl ?_
    refine zw_pf hm_38 dX4_open_32 (zT_is (zT_pi hS) s_91) (zT_t (zT_pi hS) s_91) p_4_28_4 zk_int ?_
    refine zw_push hm_38 dX4_open_35 (v := .inr (.inr (some 91))) rfl ?_
    refine zw_push hm_38 dX4_open_36 (v := .inr (.inr (some 66))) rfl ?_
    refine zw_push hm_38 dX4_open_37 (v := .inl (2 : Int32)) rfl ?_
    refine zw_ia hm_38 dX4_open_38 (zT_is (zT_pi (zT_pi hS)) s_66) (zT_h (zT_pi (zT_pi hS)) s_66) rfl ⟨by decide, by decide⟩ ?_
    show ma_wp X d w 38 39 [(0, .inr (.inr (some 91))), (1, .inr (.inr (some 66)))] [.inl (mI S 66 2), .inr (.inr (some 91))] (ma_put (ma_put S 91 2 (.inl (mI S 66 1))) 91 3 (.inl (0 : Int32))) _
    refine zw_pf hm_38 dX4_open_39 (zT_is (zT_pi (zT_pi hS)) s_91) (zT_t (zT_pi (zT_pi hS)) s_91) p_4_31_4 zk_int ?_
    refine zw_push hm_38 dX4_open_42 (v := .inr (.inr (some 91))) rfl ?_
    refine zw_push hm_38 dX4_open_43 (v := .inl (0 : Int32)) rfl ?_
    refine zw_pf hm_38 dX4_open_44 (zT_is (zT_pi (zT_pi (zT_pi hS))) s_91) (zT_t (zT_pi (zT_pi (zT_pi hS))) s_91) p_4_34_4 zk_int ?_
    refine zw_push hm_38 dX4_open_47 (v := .inr (.inr (some 91))) rfl ?_
    refine zw_gf hm_38 dX4_open_48 (v := .inr (.inr (some 92))) (zT_is (zT_pi (zT_pi (zT_pi (zT_pi hS)))) s_91) (zT_t (zT_pi (zT_pi (zT_pi (zT_pi hS)))) s_91) rfl f_4_9_4 (zT_f (zT_pi (zT_pi (zT_pi (zT_pi hS)))) r_91_7) ?_
    refine zw_push hm_38 dX4_open_51 (v := .inl (0 : Int32)) rfl ?_
    refine zw_cs hm_38 dX4_open_52 pn_4_37 sl_4_37 hm_276 [.inl (0 : Int32), .inr (.inr (some 92))] [] rfl ⟨by omega, by omega⟩ rfl (zw_mono h (zv_go ?_ ?_))
    · intro S1 hv
      obtain ⟨hS1, h⟩ := hv
      exact zw_vret hm_38 dX4_open_55 h
    · intro x S9 hx
      exact hx.elim
  · intro hc
    rw [if_neg hc] at h
    refine zw_push hm_38 dX4_open_15 (v := .inr (.inr (some 66))) rfl ?_
    refine zw_push hm_38 dX4_open_16 (v := .inl (0 : Int32)) rfl ?_
    refine zw_ia hm_38 dX4_open_17 (zT_is (zT_pi hS) s_66) (zT_h (zT_pi hS) s_66) rfl ⟨by decide, by decide⟩ ?_
    show ma_wp X d w 38 18 [(0, .inr (.inr (some 91))), (1, .inr (.inr (some 66)))] [.inl (mI S 66 0), .inr (.inr (some 91))] (ma_put S 91 2 (.inl (mI S 66 1))) _
    refine zw_push hm_38 dX4_open_18 (v := .inr (.inr (some 91))) rfl ?_
    refine zw_gf hm_38 dX4_open_19 (v := .inl (mI S 66 1)) (zT_is (zT_pi hS) s_91) (zT_t (zT_pi hS) s_91) rfl f_4_18_4 rfl ?_
    obtain ⟨hg, h⟩ := h
    refine zw_stk hm_38 dX4_open_22 (st₉ := [.inl ((mI S 66 0) / (mI S 66 1)), .inr (.inr (some 91))]) rfl (if_neg hg) ?_
    refine zw_push hm_38 dX4_open_23 (v := .inl (93 : Int32)) rfl ?_
    refine zw_min hm_38 dX4_open_25 pr_4_22 (by omega) (by show 1 + 13 ≤ w; omega) (fun _ _ _ _ z => by cases z) ?_
    refine zw_goto hm_38 dX4_open_28 (t := 32) rfl ?_
    refine zw_pf hm_38 dX4_open_32 (zT_is (zT_pi hS) s_91) (zT_t (zT_pi hS) s_91) p_4_28_4 zk_int ?_
    refine zw_push hm_38 dX4_open_35 (v := .inr (.inr (some 91))) rfl ?_
    refine zw_push hm_38 dX4_open_36 (v := .inr (.inr (some 66))) rfl ?_
    refine zw_push hm_38 dX4_open_37 (v := .inl (2 : Int32)) rfl ?_
    refine zw_ia hm_38 dX4_open_38 (zT_is (zT_pi (zT_pi hS)) s_66) (zT_h (zT_pi (zT_pi hS)) s_66) rfl ⟨by decide, by decide⟩ ?_
    show ma_wp X d w 38 39 [(0, .inr (.inr (some 91))), (1, .inr (.inr (some 66)))] [.inl (mI S 66 2), .inr (.inr (some 91))] (ma_put (ma_put S 91 2 (.inl (mI S 66 1))) 91 3 (.inl (if (93 : Int32) < ((mI S 66 0) / (mI S 66 1)) then (93 : Int32) else ((mI S 66 0) / (mI S 66 1))))) _
    refine zw_pf hm_38 dX4_open_39 (zT_is (zT_pi (zT_pi hS)) s_91) (zT_t (zT_pi (zT_pi hS)) s_91) p_4_31_4 zk_int ?_
    refine zw_push hm_38 dX4_open_42 (v := .inr (.inr (some 91))) rfl ?_
    refine zw_push hm_38 dX4_open_43 (v := .inl (0 : Int32)) rfl ?_
    refine zw_pf hm_38 dX4_open_44 (zT_is (zT_pi (zT_pi (zT_pi hS))) s_91) (zT_t (zT_pi (zT_pi (zT_pi hS))) s_91) p_4_34_4 zk_int ?_
    refine zw_push hm_38 dX4_open_47 (v := .inr (.inr (some 91))) rfl ?_
    refine zw_gf hm_38 dX4_open_48 (v := .inr (.inr (some 92))) (zT_is (zT_pi (zT_pi (zT_pi (zT_pi hS)))) s_91) (zT_t (zT_pi (zT_pi (zT_pi (zT_pi hS)))) s_91) rfl f_4_9_4 (zT_f (zT_pi (zT_pi (zT_pi (zT_pi hS)))) r_91_7) ?_
    refine zw_push hm_38 dX4_open_51 (v := .inl (0 : Int32)) rfl ?_
    refine zw_cs hm_38 dX4_open_52 pn_4_37 sl_4_37 hm_276 [.inl (0 : Int32), .inr (.inr (some 92))] [] rfl ⟨by omega, by omega⟩ rfl (zw_mono h (zv_go ?_ ?_))
    · intro S3 hv
      obtain ⟨hS3, h⟩ := hv
      exact zw_vret hm_38 dX4_open_55 h
    · intro x S9 hx
      exact hx.elim
theorem sp_38_91_66_sn {X : Nat × (Nat → Int32)} {d w : Nat} {f : Nat → Nat → Int32} {r : Nat → Nat → Option Nat} {C Z N : Nat} {Q : Option ma_V ⊕ Nat → ma_S → Prop} {ab : Nat→Nat→Int32} {S : ma_S}  (hd : 1 ≤ d) (hw : 68 ≤ w) (hI : zL91 f r C Z N S) (hpre0 : 0 ≤ (mI S 66 0).toInt ∧ (mI S 66 0).toInt ≤ 1500 ∧ 16 ≤ (mI S 66 1).toInt ∧ (mI S 66 1).toInt ≤ 1500) (hpre1 : xB S (mR S 70)) (hpre2 : aS 88 S = ab) (K : ∀ S₉, zL91 f r C Z N S₉ → (xB S₉ (mR S₉ 70)) → (aS 88 S₉ = ab) → ((mI S₉ 91 2) = (f 66) 1 ∧ (mI S₉ 91 3).toInt = (f 66 0).toInt / (f 66 1).toInt ∧ (mI S₉ 91 4) = (f 66) 2 ∧ (mI S₉ 91 5) = 0 ∧ ∀ k : Nat, k < 93 → (mI S₉ 92) k = 0) → Q (.inl none) S₉) : ma_wp X d w 38 0 [(0, .inr (.inr (some 91))), (1, .inr (.inr (some 66)))] [] S Q := by
  refine g_38_91_66_sn_0  (by omega) (by omega) (zG_T hI) ?_
  have q1 : (mI S 66 0).toInt = (f 66 0).toInt := zG_zi hI rfl
  have b2 := i_bd (mI S 66 0)
  have q3 : (mI S 66 1).toInt = (f 66 1).toInt := zG_zi hI rfl
  have b4 := i_bd (mI S 66 1)
  have li5 : (0 : Int32).toInt = 0 := rfl
  refine zd (fun h6 => ?_) (fun h6 => ?_)
  · skip
    have g7 := i_le h6
    have hI8 : zL91 f r C Z N (ma_put S 91 2 (.inl (mI S 66 1))) := zG_sp hI (0) (1500) rfl (by decide) (by decide) (by decide) trivial (by omega) (by omega)
    have hI9 : zL91 f r C Z N (ma_put (ma_put S 91 2 (.inl (mI S 66 1))) 91 3 (.inl (0 : Int32))) := zG_sp hI8 (0) (93) rfl (by decide) (by decide) (by decide) trivial (by omega) (by omega)
    have hI10 : zL91 f r C Z N (ma_put (ma_put (ma_put S 91 2 (.inl (mI S 66 1))) 91 3 (.inl (0 : Int32))) 91 4 (.inl (mI S 66 2))) := zG_fr hI9 rfl (by decide) (by decide) (by decide) trivial
    have hI11 : zL91 f r C Z N (ma_put (ma_put (ma_put (ma_put S 91 2 (.inl (mI S 66 1))) 91 3 (.inl (0 : Int32))) 91 4 (.inl (mI S 66 2))) 91 5 (.inl (0 : Int32))) := zG_sp hI10 (0) (92) rfl (by decide) (by decide) (by decide) trivial (by omega) (by omega)
    refine sp_276_92_sn (ab := (aS 88 (ma_put (ma_put (ma_put (ma_put S 91 2 (.inl (mI S 66 1))) 91 3 (.inl (0 : Int32))) 91 4 (.inl (mI S 66 2))) 91 5 (.inl (0 : Int32))))) (fp91 := (mI (ma_put (ma_put (ma_put (ma_put S 91 2 (.inl (mI S 66 1))) 91 3 (.inl (0 : Int32))) 91 4 (.inl (mI S 66 2))) 91 5 (.inl (0 : Int32))) 91)) ((0 : Int32)) (by omega) (by omega) (zL91_dn_zM92 hI11) (by omega) (by omega) (show xB (ma_put (ma_put (ma_put (ma_put S 91 2 (.inl (mI S 66 1))) 91 3 (.inl (0 : Int32))) 91 4 (.inl (mI S 66 2))) 91 5 (.inl (0 : Int32))) (mR (ma_put (ma_put (ma_put (ma_put S 91 2 (.inl (mI S 66 1))) 91 3 (.inl (0 : Int32))) 91 4 (.inl (mI S 66 2))) 91 5 (.inl (0 : Int32))) 70) from by first | (exact xB_x (xC_n (c := 91) (k := 5) (x := (0 : Int32)) (xC_n (c := 91) (k := 4) (x := (mI S 66 2)) (xC_n (c := 91) (k := 3) (x := (0 : Int32)) (xC_n (c := 91) (k := 2) (x := (mI S 66 1)) (xC_o (W := 75) hpre1) ⟨by decide, Or.inl ⟨rfl, rfl⟩⟩) ⟨by decide, Or.inl ⟨rfl, rfl⟩⟩) ⟨by decide, Or.inl ⟨rfl, rfl⟩⟩) ⟨by decide, Or.inl ⟨rfl, rfl⟩⟩).2)) (show aS 88 (ma_put (ma_put (ma_put (ma_put S 91 2 (.inl (mI S 66 1))) 91 3 (.inl (0 : Int32))) 91 4 (.inl (mI S 66 2))) 91 5 (.inl (0 : Int32))) = (aS 88 (ma_put (ma_put (ma_put (ma_put S 91 2 (.inl (mI S 66 1))) 91 3 (.inl (0 : Int32))) 91 4 (.inl (mI S 66 2))) 91 5 (.inl (0 : Int32)))) from by first | (exact rfl)) (show (mI (ma_put (ma_put (ma_put (ma_put S 91 2 (.inl (mI S 66 1))) 91 3 (.inl (0 : Int32))) 91 4 (.inl (mI S 66 2))) 91 5 (.inl (0 : Int32))) 91) = (mI (ma_put (ma_put (ma_put (ma_put S 91 2 (.inl (mI S 66 1))) 91 3 (.inl (0 : Int32))) 91 4 (.inl (mI S 66 2))) 91 5 (.inl (0 : Int32))) 91) from by first | (exact rfl)) (fun S1 hL_S1 rp0_S1 rp1_S1 rp2_S1 rp3_S1 => zv_n ⟨zG_T hL_S1, ?_⟩)
    have hI_S1 := zL91_up_zM92 hI11 hL_S1
    have rp0_S1 : xB S1 (mR S1 70) := by
      have z := rp0_S1
      (try rw [show mI (ma_put (ma_put (ma_put (ma_put S 91 2 (.inl (mI S 66 1))) 91 3 (.inl (0 : Int32))) 91 4 (.inl (mI S 66 2))) 91 5 (.inl (0 : Int32))) 65 = f 65 from funext (fun k => zG_z hI11 rfl)] at z)
      (try rw [show mI (ma_put (ma_put (ma_put (ma_put S 91 2 (.inl (mI S 66 1))) 91 3 (.inl (0 : Int32))) 91 4 (.inl (mI S 66 2))) 91 5 (.inl (0 : Int32))) 64 1 = f 64 1 from zG_z hI11 rfl] at z)
      exact z
    have rp1_S1 : aS 88 S1 = (aS 88 (ma_put (ma_put (ma_put (ma_put S 91 2 (.inl (mI S 66 1))) 91 3 (.inl (0 : Int32))) 91 4 (.inl (mI S 66 2))) 91 5 (.inl (0 : Int32)))) := by
      have z := rp1_S1
      (try rw [show mI (ma_put (ma_put (ma_put (ma_put S 91 2 (.inl (mI S 66 1))) 91 3 (.inl (0 : Int32))) 91 4 (.inl (mI S 66 2))) 91 5 (.inl (0 : Int32))) 65 = f 65 from funext (fun k => zG_z hI11 rfl)] at z)
      (try rw [show mI (ma_put (ma_put (ma_put (ma_put S 91 2 (.inl (mI S 66 1))) 91 3 (.inl (0 : Int32))) 91 4 (.inl (mI S 66 2))) 91 5 (.inl (0 : Int32))) 64 1 = f 64 1 from zG_z hI11 rfl] at z)
      exact z
    have rp2_S1 : (mI S1 91) = (mI (ma_put (ma_put (ma_put (ma_put S 91 2 (.inl (mI S 66 1))) 91 3 (.inl (0 : Int32))) 91 4 (.inl (mI S 66 2))) 91 5 (.inl (0 : Int32))) 91) := by
      have z := rp2_S1
      (try rw [show mI (ma_put (ma_put (ma_put (ma_put S 91 2 (.inl (mI S 66 1))) 91 3 (.inl (0 : Int32))) 91 4 (.inl (mI S 66 2))) 91 5 (.inl (0 : Int32))) 65 = f 65 from funext (fun k => zG_z hI11 rfl)] at z)
      (try rw [show mI (ma_put (ma_put (ma_put (ma_put S 91 2 (.inl (mI S 66 1))) 91 3 (.inl (0 : Int32))) 91 4 (.inl (mI S 66 2))) 91 5 (.inl (0 : Int32))) 64 1 = f 64 1 from zG_z hI11 rfl] at z)
      exact z
    have rp3_S1 : ∀ k : Nat, k < 93 → (mI S1 92) k = (0 : Int32) := by
      have z := rp3_S1
      (try rw [show mI (ma_put (ma_put (ma_put (ma_put S 91 2 (.inl (mI S 66 1))) 91 3 (.inl (0 : Int32))) 91 4 (.inl (mI S 66 2))) 91 5 (.inl (0 : Int32))) 65 = f 65 from funext (fun k => zG_z hI11 rfl)] at z)
      (try rw [show mI (ma_put (ma_put (ma_put (ma_put S 91 2 (.inl (mI S 66 1))) 91 3 (.inl (0 : Int32))) 91 4 (.inl (mI S 66 2))) 91 5 (.inl (0 : Int32))) 64 1 = f 64 1 from zG_z hI11 rfl] at z)
      exact z
    have q12 : (mI S1 91 2).toInt = (mI S 66 1).toInt := zG_zi hL_S1 rfl
    have f13 := zG_s hI_S1 (0) (1500) (c := 91) (k := 2) (by decide)
    have q14 : (mI S1 91 3).toInt = (0 : Int32).toInt := zG_zi hL_S1 rfl
    have f15 := zG_s hI_S1 (0) (93) (c := 91) (k := 3) (by decide)
    have q16 : (mI S 66 2).toInt = (f 66 2).toInt := zG_zi hI rfl
    have b17 := i_bd (mI S 66 2)
    have q18 : (mI S1 91 4).toInt = (mI S 66 2).toInt := zG_zi hL_S1 rfl
    have b19 := i_bd (mI S1 91 4)
    have q20 : (mI S1 91 5).toInt = (0 : Int32).toInt := zG_zi hL_S1 rfl
    have f21 := zG_s hI_S1 (0) (92) (c := 91) (k := 5) (by decide)
    exact K _ hI_S1 (show xB S1 (mR S1 70) from by first | (exact xB_x (xC_o (W := 75) rp0_S1).2)) (show aS 88 S1 = ab from by first | (exact rp1_S1.trans ((xC_n (c := 91) (k := 5) (x := (0 : Int32)) (xC_n (c := 91) (k := 4) (x := (mI S 66 2)) (xC_n (c := 91) (k := 3) (x := (0 : Int32)) (xC_n (c := 91) (k := 2) (x := (mI S 66 1)) (xC_o (W := 88) hpre1) ⟨by decide, Or.inr ⟨rfl, Or.inr ⟨rfl, by decide⟩⟩⟩) ⟨by decide, Or.inr ⟨rfl, Or.inr ⟨rfl, by decide⟩⟩⟩) ⟨by decide, Or.inr ⟨rfl, Or.inr ⟨rfl, by decide⟩⟩⟩) ⟨by decide, Or.inr ⟨rfl, Or.inr ⟨rfl, by decide⟩⟩⟩).1.trans hpre2))) (show (mI S1 91 2) = (f 66) 1 ∧ (mI S1 91 3).toInt = (f 66 0).toInt / (f 66 1).toInt ∧ (mI S1 91 4) = (f 66) 2 ∧ (mI S1 91 5) = 0 ∧ ∀ k : Nat, k < 93 → (mI S1 92) k = 0 from by first | (have dv := (i_div (x := (mI S 66 0)) (y := (mI S 66 1)) (by omega) (by omega)).2.2.1; have d9 := i_div16 (x := (mI S 66 0)) (y := (mI S 66 1)) (by omega) (by omega) (by omega); have e0 : (mI S 66 0) = f 66 0 := zG_z hI rfl; have e1 : (mI S 66 1) = f 66 1 := zG_z hI rfl; refine ⟨(congrFun rp2_S1 2).trans (show mI S 66 1 = f 66 1 from zG_z hI rfl), ?_, (congrFun rp2_S1 4).trans (show mI S 66 2 = f 66 2 from zG_z hI rfl), (congrFun rp2_S1 5).trans rfl, rp3_S1⟩; rw [congrFun rp2_S1 3, ← e0, ← e1]; show ((0 : Int32)).toInt = _; omega))
  · skip
    have g22 := i_nle h6
    refine ⟨i_nz (by omega), ?_⟩
    have hI23 : zL91 f r C Z N (ma_put S 91 2 (.inl (mI S 66 1))) := zG_sp hI (0) (1500) rfl (by decide) (by decide) (by decide) trivial (by omega) (by omega)
    first | have f25 := i_div (x := (mI S 66 0)) (y := (mI S 66 1)) (by omega) (by omega) | have b26 := i_bd ((mI S 66 0) / (mI S 66 1))
    have li27 : (93 : Int32).toInt = 93 := rfl
    have f28 := i_min ((mI S 66 0) / (mI S 66 1)) (93 : Int32)
    have hI24 : zL91 f r C Z N (ma_put (ma_put S 91 2 (.inl (mI S 66 1))) 91 3 (.inl (if (93 : Int32) < ((mI S 66 0) / (mI S 66 1)) then (93 : Int32) else ((mI S 66 0) / (mI S 66 1))))) := zG_sp hI23 (0) (93) rfl (by decide) (by decide) (by decide) trivial (by omega) (by omega)
    have hI29 : zL91 f r C Z N (ma_put (ma_put (ma_put S 91 2 (.inl (mI S 66 1))) 91 3 (.inl (if (93 : Int32) < ((mI S 66 0) / (mI S 66 1)) then (93 : Int32) else ((mI S 66 0) / (mI S 66 1))))) 91 4 (.inl (mI S 66 2))) := zG_fr hI24 rfl (by decide) (by decide) (by decide) trivial
    have hI30 : zL91 f r C Z N (ma_put (ma_put (ma_put (ma_put S 91 2 (.inl (mI S 66 1))) 91 3 (.inl (if (93 : Int32) < ((mI S 66 0) / (mI S 66 1)) then (93 : Int32) else ((mI S 66 0) / (mI S 66 1))))) 91 4 (.inl (mI S 66 2))) 91 5 (.inl (0 : Int32))) := zG_sp hI29 (0) (92) rfl (by decide) (by decide) (by decide) trivial (by omega) (by omega)
    refine sp_276_92_sn (ab := (aS 88 (ma_put (ma_put (ma_put (ma_put S 91 2 (.inl (mI S 66 1))) 91 3 (.inl (if (93 : Int32) < ((mI S 66 0) / (mI S 66 1)) then (93 : Int32) else ((mI S 66 0) / (mI S 66 1))))) 91 4 (.inl (mI S 66 2))) 91 5 (.inl (0 : Int32))))) (fp91 := (mI (ma_put (ma_put (ma_put (ma_put S 91 2 (.inl (mI S 66 1))) 91 3 (.inl (if (93 : Int32) < ((mI S 66 0) / (mI S 66 1)) then (93 : Int32) else ((mI S 66 0) / (mI S 66 1))))) 91 4 (.inl (mI S 66 2))) 91 5 (.inl (0 : Int32))) 91)) ((0 : Int32)) (by omega) (by omega) (zL91_dn_zM92 hI30) (by omega) (by omega) (show xB (ma_put (ma_put (ma_put (ma_put S 91 2 (.inl (mI S 66 1))) 91 3 (.inl (if (93 : Int32) < ((mI S 66 0) / (mI S 66 1)) then (93 : Int32) else ((mI S 66 0) / (mI S 66 1))))) 91 4 (.inl (mI S 66 2))) 91 5 (.inl (0 : Int32))) (mR (ma_put (ma_put (ma_put (ma_put S 91 2 (.inl (mI S 66 1))) 91 3 (.inl (if (93 : Int32) < ((mI S 66 0) / (mI S 66 1)) then (93 : Int32) else ((mI S 66 0) / (mI S 66 1))))) 91 4 (.inl (mI S 66 2))) 91 5 (.inl (0 : Int32))) 70) from by first | (exact xB_x (xC_n (c := 91) (k := 5) (x := (0 : Int32)) (xC_n (c := 91) (k := 4) (x := (mI S 66 2)) (xC_n (c := 91) (k := 3) (x := (if (93 : Int32) < ((mI S 66 0) / (mI S 66 1)) then (93 : Int32) else ((mI S 66 0) / (mI S 66 1)))) (xC_n (c := 91) (k := 2) (x := (mI S 66 1)) (xC_o (W := 75) hpre1) ⟨by decide, Or.inl ⟨rfl, rfl⟩⟩) ⟨by decide, Or.inl ⟨rfl, rfl⟩⟩) ⟨by decide, Or.inl ⟨rfl, rfl⟩⟩) ⟨by decide, Or.inl ⟨rfl, rfl⟩⟩).2)) (show aS 88 (ma_put (ma_put (ma_put (ma_put S 91 2 (.inl (mI S 66 1))) 91 3 (.inl (if (93 : Int32) < ((mI S 66 0) / (mI S 66 1)) then (93 : Int32) else ((mI S 66 0) / (mI S 66 1))))) 91 4 (.inl (mI S 66 2))) 91 5 (.inl (0 : Int32))) = (aS 88 (ma_put (ma_put (ma_put (ma_put S 91 2 (.inl (mI S 66 1))) 91 3 (.inl (if (93 : Int32) < ((mI S 66 0) / (mI S 66 1)) then (93 : Int32) else ((mI S 66 0) / (mI S 66 1))))) 91 4 (.inl (mI S 66 2))) 91 5 (.inl (0 : Int32)))) from by first | (exact rfl)) (show (mI (ma_put (ma_put (ma_put (ma_put S 91 2 (.inl (mI S 66 1))) 91 3 (.inl (if (93 : Int32) < ((mI S 66 0) / (mI S 66 1)) then (93 : Int32) else ((mI S 66 0) / (mI S 66 1))))) 91 4 (.inl (mI S 66 2))) 91 5 (.inl (0 : Int32))) 91) = (mI (ma_put (ma_put (ma_put (ma_put S 91 2 (.inl (mI S 66 1))) 91 3 (.inl (if (93 : Int32) < ((mI S 66 0) / (mI S 66 1)) then (93 : Int32) else ((mI S 66 0) / (mI S 66 1))))) 91 4 (.inl (mI S 66 2))) 91 5 (.inl (0 : Int32))) 91) from by first | (exact rfl)) (fun S3 hL_S3 rp0_S3 rp1_S3 rp2_S3 rp3_S3 => zv_n ⟨zG_T hL_S3, ?_⟩)
    have hI_S3 := zL91_up_zM92 hI30 hL_S3
    have rp0_S3 : xB S3 (mR S3 70) := by
      have z := rp0_S3
      (try rw [show mI (ma_put (ma_put (ma_put (ma_put S 91 2 (.inl (mI S 66 1))) 91 3 (.inl (if (93 : Int32) < ((mI S 66 0) / (mI S 66 1)) then (93 : Int32) else ((mI S 66 0) / (mI S 66 1))))) 91 4 (.inl (mI S 66 2))) 91 5 (.inl (0 : Int32))) 65 = f 65 from funext (fun k => zG_z hI30 rfl)] at z)
      (try rw [show mI (ma_put (ma_put (ma_put (ma_put S 91 2 (.inl (mI S 66 1))) 91 3 (.inl (if (93 : Int32) < ((mI S 66 0) / (mI S 66 1)) then (93 : Int32) else ((mI S 66 0) / (mI S 66 1))))) 91 4 (.inl (mI S 66 2))) 91 5 (.inl (0 : Int32))) 64 1 = f 64 1 from zG_z hI30 rfl] at z)
      exact z
    have rp1_S3 : aS 88 S3 = (aS 88 (ma_put (ma_put (ma_put (ma_put S 91 2 (.inl (mI S 66 1))) 91 3 (.inl (if (93 : Int32) < ((mI S 66 0) / (mI S 66 1)) then (93 : Int32) else ((mI S 66 0) / (mI S 66 1))))) 91 4 (.inl (mI S 66 2))) 91 5 (.inl (0 : Int32)))) := by
      have z := rp1_S3
      (try rw [show mI (ma_put (ma_put (ma_put (ma_put S 91 2 (.inl (mI S 66 1))) 91 3 (.inl (if (93 : Int32) < ((mI S 66 0) / (mI S 66 1)) then (93 : Int32) else ((mI S 66 0) / (mI S 66 1))))) 91 4 (.inl (mI S 66 2))) 91 5 (.inl (0 : Int32))) 65 = f 65 from funext (fun k => zG_z hI30 rfl)] at z)
      (try rw [show mI (ma_put (ma_put (ma_put (ma_put S 91 2 (.inl (mI S 66 1))) 91 3 (.inl (if (93 : Int32) < ((mI S 66 0) / (mI S 66 1)) then (93 : Int32) else ((mI S 66 0) / (mI S 66 1))))) 91 4 (.inl (mI S 66 2))) 91 5 (.inl (0 : Int32))) 64 1 = f 64 1 from zG_z hI30 rfl] at z)
      exact z
    have rp2_S3 : (mI S3 91) = (mI (ma_put (ma_put (ma_put (ma_put S 91 2 (.inl (mI S 66 1))) 91 3 (.inl (if (93 : Int32) < ((mI S 66 0) / (mI S 66 1)) then (93 : Int32) else ((mI S 66 0) / (mI S 66 1))))) 91 4 (.inl (mI S 66 2))) 91 5 (.inl (0 : Int32))) 91) := by
      have z := rp2_S3
      (try rw [show mI (ma_put (ma_put (ma_put (ma_put S 91 2 (.inl (mI S 66 1))) 91 3 (.inl (if (93 : Int32) < ((mI S 66 0) / (mI S 66 1)) then (93 : Int32) else ((mI S 66 0) / (mI S 66 1))))) 91 4 (.inl (mI S 66 2))) 91 5 (.inl (0 : Int32))) 65 = f 65 from funext (fun k => zG_z hI30 rfl)] at z)
      (try rw [show mI (ma_put (ma_put (ma_put (ma_put S 91 2 (.inl (mI S 66 1))) 91 3 (.inl (if (93 : Int32) < ((mI S 66 0) / (mI S 66 1)) then (93 : Int32) else ((mI S 66 0) / (mI S 66 1))))) 91 4 (.inl (mI S 66 2))) 91 5 (.inl (0 : Int32))) 64 1 = f 64 1 from zG_z hI30 rfl] at z)
      exact z
    have rp3_S3 : ∀ k : Nat, k < 93 → (mI S3 92) k = (0 : Int32) := by
      have z := rp3_S3
      (try rw [show mI (ma_put (ma_put (ma_put (ma_put S 91 2 (.inl (mI S 66 1))) 91 3 (.inl (if (93 : Int32) < ((mI S 66 0) / (mI S 66 1)) then (93 : Int32) else ((mI S 66 0) / (mI S 66 1))))) 91 4 (.inl (mI S 66 2))) 91 5 (.inl (0 : Int32))) 65 = f 65 from funext (fun k => zG_z hI30 rfl)] at z)
      (try rw [show mI (ma_put (ma_put (ma_put (ma_put S 91 2 (.inl (mI S 66 1))) 91 3 (.inl (if (93 : Int32) < ((mI S 66 0) / (mI S 66 1)) then (93 : Int32) else ((mI S 66 0) / (mI S 66 1))))) 91 4 (.inl (mI S 66 2))) 91 5 (.inl (0 : Int32))) 64 1 = f 64 1 from zG_z hI30 rfl] at z)
      exact z
    have q31 : (mI S3 91 2).toInt = (mI S 66 1).toInt := zG_zi hL_S3 rfl
    have f32 := zG_s hI_S3 (0) (1500) (c := 91) (k := 2) (by decide)
    have q33 : (mI S3 91 3).toInt = (if (93 : Int32) < ((mI S 66 0) / (mI S 66 1)) then (93 : Int32) else ((mI S 66 0) / (mI S 66 1))).toInt := zG_zi hL_S3 rfl
    have f34 := zG_s hI_S3 (0) (93) (c := 91) (k := 3) (by decide)
    have q35 : (mI S 66 2).toInt = (f 66 2).toInt := zG_zi hI rfl
    have b36 := i_bd (mI S 66 2)
    have q37 : (mI S3 91 4).toInt = (mI S 66 2).toInt := zG_zi hL_S3 rfl
    have b38 := i_bd (mI S3 91 4)
    have q39 : (mI S3 91 5).toInt = (0 : Int32).toInt := zG_zi hL_S3 rfl
    have f40 := zG_s hI_S3 (0) (92) (c := 91) (k := 5) (by decide)
    exact K _ hI_S3 (show xB S3 (mR S3 70) from by first | (exact xB_x (xC_o (W := 75) rp0_S3).2)) (show aS 88 S3 = ab from by first | (exact rp1_S3.trans ((xC_n (c := 91) (k := 5) (x := (0 : Int32)) (xC_n (c := 91) (k := 4) (x := (mI S 66 2)) (xC_n (c := 91) (k := 3) (x := (if (93 : Int32) < ((mI S 66 0) / (mI S 66 1)) then (93 : Int32) else ((mI S 66 0) / (mI S 66 1)))) (xC_n (c := 91) (k := 2) (x := (mI S 66 1)) (xC_o (W := 88) hpre1) ⟨by decide, Or.inr ⟨rfl, Or.inr ⟨rfl, by decide⟩⟩⟩) ⟨by decide, Or.inr ⟨rfl, Or.inr ⟨rfl, by decide⟩⟩⟩) ⟨by decide, Or.inr ⟨rfl, Or.inr ⟨rfl, by decide⟩⟩⟩) ⟨by decide, Or.inr ⟨rfl, Or.inr ⟨rfl, by decide⟩⟩⟩).1.trans hpre2))) (show (mI S3 91 2) = (f 66) 1 ∧ (mI S3 91 3).toInt = (f 66 0).toInt / (f 66 1).toInt ∧ (mI S3 91 4) = (f 66) 2 ∧ (mI S3 91 5) = 0 ∧ ∀ k : Nat, k < 93 → (mI S3 92) k = 0 from by first | (have dv := (i_div (x := (mI S 66 0)) (y := (mI S 66 1)) (by omega) (by omega)).2.2.1; have d9 := i_div16 (x := (mI S 66 0)) (y := (mI S 66 1)) (by omega) (by omega) (by omega); have e0 : (mI S 66 0) = f 66 0 := zG_z hI rfl; have e1 : (mI S 66 1) = f 66 1 := zG_z hI rfl; refine ⟨(congrFun rp2_S3 2).trans (show mI S 66 1 = f 66 1 from zG_z hI rfl), ?_, (congrFun rp2_S3 4).trans (show mI S 66 2 = f 66 2 from zG_z hI rfl), (congrFun rp2_S3 5).trans rfl, rp3_S3⟩; rw [congrFun rp2_S3 3, ← e0, ← e1]; show ((if (93 : Int32) < ((mI S 66 0) / (mI S 66 1)) then (93 : Int32) else ((mI S 66 0) / (mI S 66 1)))).toInt = _; omega))
theorem g_60_80_sn_0 {X : Nat × (Nat → Int32)} {d w : Nat} {S : ma_S} {Q : Option ma_V ⊕ Nat → ma_S → Prop}  (hd : 0 ≤ d) (hw : 0 ≤ w) (hS : zT S) (h : Q (.inl (some (.inl (mI S 80 2)))) S) : ma_wp X d w 60 0 [(0, .inr (.inr (some 80)))] [] S Q := by
  refine zw_push hm_60 dX5_total_0 (v := .inr (.inr (some 80))) rfl ?_
  refine zw_gf hm_60 dX5_total_1 (v := .inl (mI S 80 2)) (zT_is hS s_80) (zT_t hS s_80) rfl f_5_9_5 rfl ?_
  exact zw_iret hm_60 dX5_total_4 h
theorem sp_60_80_sn {X : Nat × (Nat → Int32)} {d w : Nat} {f : Nat → Nat → Int32} {r : Nat → Nat → Option Nat} {C Z N : Nat} {Q : Option ma_V ⊕ Nat → ma_S → Prop} {S : ma_S}  (hd : 0 ≤ d) (hw : 0 ≤ w) (hI : zJ80 f r C Z N S)  (K : ∀ v S₉, S₉ = S → (True) → Q (.inl (some (.inl v))) S₉) : ma_wp X d w 60 0 [(0, .inr (.inr (some 80)))] [] S Q := by
  refine g_60_80_sn_0  (by omega) (by omega) (zG_T hI) ?_
  have f1 := zG_s hI (0) (1500) (c := 80) (k := 2) (by decide)
  exact K ((mI S 80 2)) _ rfl trivial
theorem g_30_81_sn_0 {X : Nat × (Nat → Int32)} {d w : Nat} {S : ma_S} {Q : Option ma_V ⊕ Nat → ma_S → Prop}  (hd : 0 ≤ d) (hw : 0 ≤ w) (hS : zT S) (h : Q (.inl (some (.inl ((2 : Int32) * (mI S 81 2))))) S) : ma_wp X d w 30 0 [(0, .inr (.inr (some 81)))] [] S Q := by
  refine zw_push hm_30 dX3_total_0 (v := .inl (2 : Int32)) rfl ?_
  refine zw_push hm_30 dX3_total_1 (v := .inr (.inr (some 81))) rfl ?_
  refine zw_gf hm_30 dX3_total_2 (v := .inl (mI S 81 2)) (zT_is hS s_81) (zT_t hS s_81) rfl f_3_9_3 rfl ?_
  refine zw_stk hm_30 dX3_total_5 (st₉ := [.inl ((2 : Int32) * (mI S 81 2))]) rfl rfl ?_
  exact zw_iret hm_30 dX3_total_6 h
theorem sp_30_81_sn {X : Nat × (Nat → Int32)} {d w : Nat} {f : Nat → Nat → Int32} {r : Nat → Nat → Option Nat} {C Z N : Nat} {Q : Option ma_V ⊕ Nat → ma_S → Prop} {S : ma_S}  (hd : 0 ≤ d) (hw : 0 ≤ w) (hI : zJ81 f r C Z N S)  (K : ∀ v S₉, S₉ = S → (True) → Q (.inl (some (.inl v))) S₉) : ma_wp X d w 30 0 [(0, .inr (.inr (some 81)))] [] S Q := by
  refine g_30_81_sn_0  (by omega) (by omega) (zG_T hI) ?_
  have li1 : (2 : Int32).toInt = 2 := rfl
  have x2 : 0 ≤ (mI S 81 3).toInt ∧ (mI S 81 3).toInt ≤ (mI S 81 2).toInt := zG_x hI
  have f3 := zG_s hI (0) (1500) (c := 81) (k := 2) (by decide)
  first | have e4 : ((2 : Int32) * (mI S 81 2)).toInt = 2 * (mI S 81 2).toInt := i_mulk2 rfl (by omega) (by omega) | have b5 := i_bd ((2 : Int32) * (mI S 81 2))
  exact K (((2 : Int32) * (mI S 81 2))) _ rfl trivial
theorem g_2_82_sn_0 {X : Nat × (Nat → Int32)} {d w : Nat} {S : ma_S} {Q : Option ma_V ⊕ Nat → ma_S → Prop}  (hd : 0 ≤ d) (hw : 0 ≤ w) (hS : zT S) (h : Q (.inl (some (.inl ((mI S 82 3) + ((2 : Int32) * (mI S 82 2)))))) S) : ma_wp X d w 2 0 [(0, .inr (.inr (some 82)))] [] S Q := by
  refine zw_push hm_2 dX0_total_0 (v := .inr (.inr (some 82))) rfl ?_
  refine zw_gf hm_2 dX0_total_1 (v := .inl (mI S 82 3)) (zT_is hS s_82) (zT_t hS s_82) rfl f_1_19_1 rfl ?_
  refine zw_push hm_2 dX0_total_4 (v := .inl (2 : Int32)) rfl ?_
  refine zw_push hm_2 dX0_total_5 (v := .inr (.inr (some 82))) rfl ?_
  refine zw_gf hm_2 dX0_total_6 (v := .inl (mI S 82 2)) (zT_is hS s_82) (zT_t hS s_82) rfl f_1_15_1 rfl ?_
  refine zw_stk hm_2 dX0_total_9 (st₉ := [.inl ((2 : Int32) * (mI S 82 2)), .inl (mI S 82 3)]) rfl rfl ?_
  refine zw_stk hm_2 dX0_total_10 (st₉ := [.inl ((mI S 82 3) + ((2 : Int32) * (mI S 82 2)))]) rfl rfl ?_
  exact zw_iret hm_2 dX0_total_11 h
theorem sp_2_82_sn {X : Nat × (Nat → Int32)} {d w : Nat} {f : Nat → Nat → Int32} {r : Nat → Nat → Option Nat} {C Z N : Nat} {Q : Option ma_V ⊕ Nat → ma_S → Prop} {S : ma_S}  (hd : 0 ≤ d) (hw : 0 ≤ w) (hI : zJ82 f r C Z N S)  (K : ∀ v S₉, S₉ = S → (True) → Q (.inl (some (.inl v))) S₉) : ma_wp X d w 2 0 [(0, .inr (.inr (some 82)))] [] S Q := by
  refine g_2_82_sn_0  (by omega) (by omega) (zG_T hI) ?_
  have x1 : (mI S 82 3).toInt ≤ (mI S 82 7).toInt ∧ (mI S 82 7).toInt ≤ (mI S 82 3).toInt + (mI S 82 2).toInt := zG_x hI
  have f2 := zG_s hI (0) (1500) (c := 82) (k := 3) (by decide)
  have li3 : (2 : Int32).toInt = 2 := rfl
  have f4 := zG_s hI (0) (1500) (c := 82) (k := 2) (by decide)
  first | have e5 : ((2 : Int32) * (mI S 82 2)).toInt = 2 * (mI S 82 2).toInt := i_mulk2 rfl (by omega) (by omega) | have b6 := i_bd ((2 : Int32) * (mI S 82 2))
  first | have e7 : ((mI S 82 3) + ((2 : Int32) * (mI S 82 2))).toInt = (mI S 82 3).toInt + ((2 : Int32) * (mI S 82 2)).toInt := i_add (by omega) (by omega) | have b8 := i_bd ((mI S 82 3) + ((2 : Int32) * (mI S 82 2)))
  exact K (((mI S 82 3) + ((2 : Int32) * (mI S 82 2)))) _ rfl trivial
theorem g_39_91_sn_0 {X : Nat × (Nat → Int32)} {d w : Nat} {S : ma_S} {Q : Option ma_V ⊕ Nat → ma_S → Prop}  (hd : 0 ≤ d) (hw : 0 ≤ w) (hS : zT S) (h : Q (.inl (some (.inl ((mI S 91 3) * (mI S 91 2))))) S) : ma_wp X d w 39 0 [(0, .inr (.inr (some 91)))] [] S Q := by
  refine zw_push hm_39 dX4_total_0 (v := .inr (.inr (some 91))) rfl ?_
  refine zw_gf hm_39 dX4_total_1 (v := .inl (mI S 91 3)) (zT_is hS s_91) (zT_t hS s_91) rfl f_4_28_4 rfl ?_
  refine zw_push hm_39 dX4_total_4 (v := .inr (.inr (some 91))) rfl ?_
  refine zw_gf hm_39 dX4_total_5 (v := .inl (mI S 91 2)) (zT_is hS s_91) (zT_t hS s_91) rfl f_4_18_4 rfl ?_
  refine zw_stk hm_39 dX4_total_8 (st₉ := [.inl ((mI S 91 3) * (mI S 91 2))]) rfl rfl ?_
  exact zw_iret hm_39 dX4_total_9 h
theorem sp_39_91_sn {X : Nat × (Nat → Int32)} {d w : Nat} {f : Nat → Nat → Int32} {r : Nat → Nat → Option Nat} {C Z N : Nat} {Q : Option ma_V ⊕ Nat → ma_S → Prop} {S : ma_S}  (hd : 0 ≤ d) (hw : 0 ≤ w) (hI : zL91 f r C Z N S)  (K : ∀ v S₉, S₉ = S → (True) → Q (.inl (some (.inl v))) S₉) : ma_wp X d w 39 0 [(0, .inr (.inr (some 91)))] [] S Q := by
  refine g_39_91_sn_0  (by omega) (by omega) (zG_T hI) ?_
  have f1 := zG_s hI (0) (93) (c := 91) (k := 3) (by decide)
  have f2 := zG_s hI (0) (1500) (c := 91) (k := 2) (by decide)
  first | have f3 := i_muln (x := (mI S 91 3)) (y := (mI S 91 2)) (by omega) (by omega) (by omega) (by omega) | have b4 := i_bd ((mI S 91 3) * (mI S 91 2))
  exact K (((mI S 91 3) * (mI S 91 2))) _ rfl trivial

