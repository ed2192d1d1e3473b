/-! the heap by numbers, the class (written by wip/tools/gen18.py) -/
theorem g_80_69_s_0 {X : Nat × (Nat → Int32)} {d w : Nat} {S : ma_S} {Q : Option ma_V ⊕ Nat → ma_S → Prop}  (hd : 1 ≤ d) (hw : 23 ≤ w) (hS : zT S) (h : ma_wp X d w 80 2 [(0, .inr (.inr (some 69))), (1, .inl (0 : Int32))] [] S Q) : ma_wp X d w 80 0 [(0, .inr (.inr (some 69)))] [] S Q := by
  refine zw_push hm_80 dX7_forgetAll_0 (v := .inl (0 : Int32)) rfl ?_
  refine zw_sto hm_80 dX7_forgetAll_1 [(1, .inl (0 : Int32)), (0, .inr (.inr (some 69)))] rfl rfl rfl ?_
  exact zw_sub (ma_nd_of (ks := [0, 1]) rfl (by decide)) (ma_nd_of (ks := [1, 0]) rfl (by decide)) (ma_le_cons rfl (ma_le_cons rfl (ma_le_nil _))) h
theorem g_80_69_s_2 {X : Nat × (Nat → Int32)} {d w : Nat} {S : ma_S} {Q : Option ma_V ⊕ Nat → ma_S → Prop} (l1 : Int32) (hd : 1 ≤ d) (hw : 23 ≤ w) (hS : zT S) (h : if (512 : Int32) ≤ l1 then (ma_wp X (d - 1) (w - 23) 276 0 [(0, .inr (.inr (some 71))), (1, .inl (-1 : Int32))] [] S (zv (fun S1 => zT S1 ∧ (ma_wp X (d - 1) (w - 23) 276 0 [(0, .inr (.inr (some 72))), (1, .inl (-1 : Int32))] [] S1 (zv (fun S3 => zT S3 ∧ (ma_wp X (d - 1) (w - 23) 276 0 [(0, .inr (.inr (some 73))), (1, .inl (-1 : Int32))] [] S3 (zv (fun S5 => zT S5 ∧ (Q (.inl none) (ma_put (ma_put (ma_put (ma_put (ma_put (ma_put (ma_put (ma_put S5 69 5 (.inl (0 : Int32))) 69 6 (.inl (0 : Int32))) 69 7 (.inl (0 : Int32))) 69 8 (.inl (0 : Int32))) 69 9 (.inl (0 : Int32))) 69 10 (.inl (0 : Int32))) 69 11 (.inl (0 : Int32))) 69 12 (.inl (0 : Int32))))) (fun _ _ => False)))) (fun _ _ => False)))) (fun _ _ => False))) else ((0 ≤ l1 ∧ l1.toNatClampNeg < 512) ∧ (ma_wp X d w 80 2 [(0, .inr (.inr (some 69))), (1, .inl (l1 + (1 : Int32)))] [] (ma_put S 70 l1.toNatClampNeg (.inr (.inr none))) Q))) : ma_wp X d w 80 2 [(0, .inr (.inr (some 69))), (1, .inl l1)] [] S Q := by
  refine zw_push hm_80 dX7_forgetAll_2 (v := .inl l1) rfl ?_
  refine zw_push hm_80 dX7_forgetAll_3 (v := .inl (512 : Int32)) rfl ?_
  refine zw_if2 hm_80 dX7_forgetAll_6 (t := 22) rfl zc2_ge ?_ ?_
  · intro hc
    rw [if_pos hc] at h
    refine zw_push hm_80 dX7_forgetAll_22 (v := .inr (.inr (some 69))) rfl ?_
    refine zw_gf hm_80 dX7_forgetAll_23 (v := .inr (.inr (some 71))) (zT_is hS s_69) (zT_t hS s_69) rfl f_7_17_7 (zT_f hS r_69_1) ?_
    refine zw_push hm_80 dX7_forgetAll_26 (v := .inl (-1 : Int32)) rfl ?_
    refine zw_cs hm_80 dX7_forgetAll_27 pn_7_30 sl_7_30 hm_276 [.inl (-1 : Int32), .inr (.inr (some 71))] [] rfl ⟨by omega, by omega⟩ rfl (zw_mono h (zv_go ?_ ?_))
    · intro S1 hv
      obtain ⟨hS1, h⟩ := hv
      refine zw_push hm_80 dX7_forgetAll_30 (v := .inr (.inr (some 69))) rfl ?_
      refine zw_gf hm_80 dX7_forgetAll_31 (v := .inr (.inr (some 72))) (zT_is hS1 s_69) (zT_t hS1 s_69) rfl f_7_21_7 (zT_f hS1 r_69_2) ?_
      refine zw_push hm_80 dX7_forgetAll_34 (v := .inl (-1 : Int32)) rfl ?_
      refine zw_cs hm_80 dX7_forgetAll_35 pn_7_30 sl_7_30 hm_276 [.inl (-1 : Int32), .inr (.inr (some 72))] [] rfl ⟨by omega, by omega⟩ rfl (zw_mono h (zv_go ?_ ?_))
      · intro S3 hv
        obtain ⟨hS3, h⟩ := hv
        refine zw_push hm_80 dX7_forgetAll_38 (v := .inr (.inr (some 69))) rfl ?_
        refine zw_gf hm_80 dX7_forgetAll_39 (v := .inr (.inr (some 73))) (zT_is hS3 s_69) (zT_t hS3 s_69) rfl f_7_24_7 (zT_f hS3 r_69_3) ?_
        refine zw_push hm_80 dX7_forgetAll_42 (v := .inl (-1 : Int32)) rfl ?_
        refine zw_cs hm_80 dX7_forgetAll_43 pn_7_30 sl_7_30 hm_276 [.inl (-1 : Int32), .inr (.inr (some 73))] [] rfl ⟨by omega, by omega⟩ rfl (zw_mono h (zv_go ?_ ?_))
        · intro S5 hv
          obtain ⟨hS5, h⟩ := hv
          refine zw_push hm_80 dX7_forgetAll_46 (v := .inr (.inr (some 69))) rfl ?_
          refine zw_push hm_80 dX7_forgetAll_47 (v := .inl (0 : Int32)) rfl ?_
          refine zw_pf hm_80 dX7_forgetAll_48 (zT_is hS5 s_69) (zT_t hS5 s_69) p_7_36_7 zk_int ?_
          refine zw_push hm_80 dX7_forgetAll_51 (v := .inr (.inr (some 69))) rfl ?_
          refine zw_push hm_80 dX7_forgetAll_52 (v := .inl (0 : Int32)) rfl ?_
          refine zw_pf hm_80 dX7_forgetAll_53 (zT_is (zT_pi hS5) s_69) (zT_t (zT_pi hS5) s_69) p_7_40_7 zk_int ?_
          refine zw_push hm_80 dX7_forgetAll_56 (v := .inr (.inr (some 69))) rfl ?_
          refine zw_push hm_80 dX7_forgetAll_57 (v := .inl (0 : Int32)) rfl ?_
          refine zw_pf hm_80 dX7_forgetAll_58 (zT_is (zT_pi (zT_pi hS5)) s_69) (zT_t (zT_pi (zT_pi hS5)) s_69) p_7_43_7 zk_int ?_
          refine zw_push hm_80 dX7_forgetAll_61 (v := .inr (.inr (some 69))) rfl ?_
          refine zw_push hm_80 dX7_forgetAll_62 (v := .inl (0 : Int32)) rfl ?_
          refine zw_pf hm_80 dX7_forgetAll_63 (zT_is (zT_pi (zT_pi (zT_pi hS5))) s_69) (zT_t (zT_pi (zT_pi (zT_pi hS5))) s_69) p_7_46_7 zk_int ?_
          refine zw_push hm_80 dX7_forgetAll_66 (v := .inr (.inr (some 69))) rfl ?_
          refine zw_push hm_80 dX7_forgetAll_67 (v := .inl (0 : Int32)) rfl ?_
          refine zw_pf hm_80 dX7_forgetAll_68 (zT_is (zT_pi (zT_pi (zT_pi (zT_pi hS5)))) s_69) (zT_t (zT_pi (zT_pi (zT_pi (zT_pi hS5)))) s_69) p_7_49_7 zk_int ?_
          refine zw_push hm_80 dX7_forgetAll_71 (v := .inr (.inr (some 69))) rfl ?_
          refine zw_push hm_80 dX7_forgetAll_72 (v := .inl (0 : Int32)) rfl ?_
          refine zw_pf hm_80 dX7_forgetAll_73 (zT_is (zT_pi (zT_pi (zT_pi (zT_pi (zT_pi hS5))))) s_69) (zT_t (zT_pi (zT_pi (zT_pi (zT_pi (zT_pi hS5))))) s_69) p_7_52_7 zk_int ?_
          refine zw_push hm_80 dX7_forgetAll_76 (v := .inr (.inr (some 69))) rfl ?_
          refine zw_push hm_80 dX7_forgetAll_77 (v := .inl (0 : Int32)) rfl ?_
          refine zw_pf hm_80 dX7_forgetAll_78 (zT_is (zT_pi (zT_pi (zT_pi (zT_pi (zT_pi (zT_pi hS5)))))) s_69) (zT_t (zT_pi (zT_pi (zT_pi (zT_pi (zT_pi (zT_pi hS5)))))) s_69) p_7_55_7 zk_int ?_
          refine zw_push hm_80 dX7_forgetAll_81 (v := .inr (.inr (some 69))) rfl ?_
          refine zw_push hm_80 dX7_forgetAll_82 (v := .inl (0 : Int32)) rfl ?_
          refine zw_pf hm_80 dX7_forgetAll_83 (zT_is (zT_pi (zT_pi (zT_pi (zT_pi (zT_pi (zT_pi (zT_pi hS5))))))) s_69) (zT_t (zT_pi (zT_pi (zT_pi (zT_pi (zT_pi (zT_pi (zT_pi hS5))))))) s_69) p_7_58_7 zk_int ?_
          exact zw_vret hm_80 dX7_forgetAll_86 h
        · intro x S9 hx
          exact hx.elim
      · intro x S9 hx
        exact hx.elim
    · intro x S9 hx
      exact hx.elim
  · intro hc
    rw [if_neg hc] at h
    refine zw_push hm_80 dX7_forgetAll_9 (v := .inr (.inr (some 69))) rfl ?_
    refine zw_gf hm_80 dX7_forgetAll_10 (v := .inr (.inr (some 70))) (zT_is hS s_69) (zT_t hS s_69) rfl f_7_11_7 (zT_f hS r_69_0) ?_
    refine zw_push hm_80 dX7_forgetAll_13 (v := .inl l1) rfl ?_
    refine zw_push hm_80 dX7_forgetAll_14 (v := .inr (.inr none)) rfl ?_
    obtain ⟨hg, h⟩ := h
    refine zw_aas hm_80 dX7_forgetAll_15 (zT_is hS s_70) (zT_h hS s_70) rfl hg (fun _ z => by cases z) ?_
    refine zw_sto hm_80 dX7_forgetAll_16 [(1, .inl (l1 + (1 : Int32))), (0, .inr (.inr (some 69)))] rfl rfl rfl ?_
    refine zw_goto hm_80 dX7_forgetAll_19 (t := 2) rfl ?_
    exact zw_sub (ma_nd_of (ks := [0, 1]) rfl (by decide)) (ma_nd_of (ks := [1, 0]) rfl (by decide)) (ma_le_cons rfl (ma_le_cons rfl (ma_le_nil _))) h
theorem lp_80_69_s_2 {X : Nat × (Nat → Int32)} {d w : Nat} {f : Nat → Nat → Int32} {r : Nat → Nat → Option Nat} {C Z N : Nat} {Q : Option ma_V ⊕ Nat → ma_S → Prop} {ab : Nat→Nat→Int32} (hd : 1 ≤ d) (hw : 23 ≤ w) (K : ∀ S', zS f r C Z N S' → (xB S' (mR S' 70)) → (aS 88 S' = aFg ab) → Q (.inl none) S') : ∀ (n : Nat) (S : ma_S) (l1 : Int32), (512 - l1.toInt).toNat = n → zS f r C Z N S → (0 ≤ l1.toInt) → (l1.toInt ≤ 512) → (xB S (mR S 70)) → (aS 88 S = zDe ab l1.toInt) → ma_wp X d w 80 2 [(0, .inr (.inr (some 69))), (1, .inl l1)] [] S Q := by
  intro n
  induction n using Nat.strongRecOn with
  | _ n IH =>
    intro S l1 hmu hI  hi0 hi1 hi2 hi3
    refine g_80_69_s_2 l1 (by omega) (by omega) (zG_T hI) ?_
    have li1 : (512 : Int32).toInt = 512 := rfl
    have b2 := i_bd l1
    refine zd (fun h3 => ?_) (fun h3 => ?_)
    · skip
      have g4 := i_le h3
      have li5 : (-1 : Int32).toInt = -1 := rfl
      refine sp_276_71_s (ab := (aS 88 S)) ((-1 : Int32)) (by omega) (by omega) (zS_dn hI) (show xB S (mR S 70) from by first | (exact xB_x (xC_o (W := 75) hi2).2)) (show aS 88 S = (aS 88 S) from by first | (exact rfl)) (fun S1 hL_S1 rp0_S1 rp1_S1 => zv_n ⟨zG_T hL_S1, ?_⟩)
      have hI_S1 := zS_up hI hL_S1
      have rp0_S1 : xB S1 (mR S1 70) := by
        have z := rp0_S1
        (try rw [show mI S 65 = f 65 from funext (fun k => zG_z hI rfl)] at z)
        (try rw [show mI S 64 1 = f 64 1 from zG_z hI rfl] at z)
        exact z
      have rp1_S1 : aS 88 S1 = zFl (aS 88 S) 71 (-1 : Int32) 4500 := by
        have z := rp1_S1
        (try rw [show mI S 65 = f 65 from funext (fun k => zG_z hI rfl)] at z)
        (try rw [show mI S 64 1 = f 64 1 from zG_z hI rfl] at z)
        exact z
      refine sp_276_72_s (ab := (aS 88 S1)) ((-1 : Int32)) (by omega) (by omega) (zS_dn hI_S1) (show xB S1 (mR S1 70) from by first | (exact xB_x (xC_o (W := 75) rp0_S1).2)) (show aS 88 S1 = (aS 88 S1) from by first | (exact rfl)) (fun S3 hL_S3 rp0_S3 rp1_S3 => zv_n ⟨zG_T hL_S3, ?_⟩)
      have hI_S3 := zS_up hI_S1 hL_S3
      have rp0_S3 : xB S3 (mR S3 70) := by
        have z := rp0_S3
        (try rw [show mI S1 65 = f 65 from funext (fun k => zG_z hI_S1 rfl)] at z)
        (try rw [show mI S1 64 1 = f 64 1 from zG_z hI_S1 rfl] at z)
        exact z
      have rp1_S3 : aS 88 S3 = zFl (aS 88 S1) 72 (-1 : Int32) 16 := by
        have z := rp1_S3
        (try rw [show mI S1 65 = f 65 from funext (fun k => zG_z hI_S1 rfl)] at z)
        (try rw [show mI S1 64 1 = f 64 1 from zG_z hI_S1 rfl] at z)
        exact z
      refine sp_276_73_s (ab := (aS 88 S3)) ((-1 : Int32)) (by omega) (by omega) (zS_dn hI_S3) (show xB S3 (mR S3 70) from by first | (exact xB_x (xC_o (W := 75) rp0_S3).2)) (show aS 88 S3 = (aS 88 S3) from by first | (exact rfl)) (fun S5 hL_S5 rp0_S5 rp1_S5 => zv_n ⟨zG_T hL_S5, ?_⟩)
      have hI_S5 := zS_up hI_S3 hL_S5
      have rp0_S5 : xB S5 (mR S5 70) := by
        have z := rp0_S5
        (try rw [show mI S3 65 = f 65 from funext (fun k => zG_z hI_S3 rfl)] at z)
        (try rw [show mI S3 64 1 = f 64 1 from zG_z hI_S3 rfl] at z)
        exact z
      have rp1_S5 : aS 88 S5 = zFl (aS 88 S3) 73 (-1 : Int32) 16 := by
        have z := rp1_S5
        (try rw [show mI S3 65 = f 65 from funext (fun k => zG_z hI_S3 rfl)] at z)
        (try rw [show mI S3 64 1 = f 64 1 from zG_z hI_S3 rfl] at z)
        exact z
      have li7 : (0 : Int32).toInt = 0 := rfl
      have hI6 : zS f r C Z N (ma_put S5 69 5 (.inl (0 : Int32))) := zG_sp hI_S5 (0) (512) rfl (by decide) (by decide) (by decide) trivial (by omega) (by omega)
      have hI8 : zS f r C Z N (ma_put (ma_put S5 69 5 (.inl (0 : Int32))) 69 6 (.inl (0 : Int32))) := zG_sp hI6 (0) (512) rfl (by decide) (by decide) (by decide) trivial (by omega) (by omega)
      have hI9 : zS f r C Z N (ma_put (ma_put (ma_put S5 69 5 (.inl (0 : Int32))) 69 6 (.inl (0 : Int32))) 69 7 (.inl (0 : Int32))) := zG_fr hI8 rfl (by decide) (by decide) (by decide) trivial
      have hI10 : zS f r C Z N (ma_put (ma_put (ma_put (ma_put S5 69 5 (.inl (0 : Int32))) 69 6 (.inl (0 : Int32))) 69 7 (.inl (0 : Int32))) 69 8 (.inl (0 : Int32))) := zG_fr hI9 rfl (by decide) (by decide) (by decide) trivial
      have hI11 : zS f r C Z N (ma_put (ma_put (ma_put (ma_put (ma_put S5 69 5 (.inl (0 : Int32))) 69 6 (.inl (0 : Int32))) 69 7 (.inl (0 : Int32))) 69 8 (.inl (0 : Int32))) 69 9 (.inl (0 : Int32))) := zG_fr hI10 rfl (by decide) (by decide) (by decide) trivial
      have hI12 : zS f r C Z N (ma_put (ma_put (ma_put (ma_put (ma_put (ma_put S5 69 5 (.inl (0 : Int32))) 69 6 (.inl (0 : Int32))) 69 7 (.inl (0 : Int32))) 69 8 (.inl (0 : Int32))) 69 9 (.inl (0 : Int32))) 69 10 (.inl (0 : Int32))) := zG_fr hI11 rfl (by decide) (by decide) (by decide) trivial
      have hI13 : zS f r C Z N (ma_put (ma_put (ma_put (ma_put (ma_put (ma_put (ma_put S5 69 5 (.inl (0 : Int32))) 69 6 (.inl (0 : Int32))) 69 7 (.inl (0 : Int32))) 69 8 (.inl (0 : Int32))) 69 9 (.inl (0 : Int32))) 69 10 (.inl (0 : Int32))) 69 11 (.inl (0 : Int32))) := zG_fr hI12 rfl (by decide) (by decide) (by decide) trivial
      have hI14 : zS f r C Z N (ma_put (ma_put (ma_put (ma_put (ma_put (ma_put (ma_put (ma_put S5 69 5 (.inl (0 : Int32))) 69 6 (.inl (0 : Int32))) 69 7 (.inl (0 : Int32))) 69 8 (.inl (0 : Int32))) 69 9 (.inl (0 : Int32))) 69 10 (.inl (0 : Int32))) 69 11 (.inl (0 : Int32))) 69 12 (.inl (0 : Int32))) := zG_fr hI13 rfl (by decide) (by decide) (by decide) trivial
      exact K _ hI14 (show xB (ma_put (ma_put (ma_put (ma_put (ma_put (ma_put (ma_put (ma_put S5 69 5 (.inl (0 : Int32))) 69 6 (.inl (0 : Int32))) 69 7 (.inl (0 : Int32))) 69 8 (.inl (0 : Int32))) 69 9 (.inl (0 : Int32))) 69 10 (.inl (0 : Int32))) 69 11 (.inl (0 : Int32))) 69 12 (.inl (0 : Int32))) (mR (ma_put (ma_put (ma_put (ma_put (ma_put (ma_put (ma_put (ma_put S5 69 5 (.inl (0 : Int32))) 69 6 (.inl (0 : Int32))) 69 7 (.inl (0 : Int32))) 69 8 (.inl (0 : Int32))) 69 9 (.inl (0 : Int32))) 69 10 (.inl (0 : Int32))) 69 11 (.inl (0 : Int32))) 69 12 (.inl (0 : Int32))) 70) from by first | (exact xB_x (xC_n (c := 69) (k := 12) (x := (0 : Int32)) (xC_p (c := 69) (k := 11) (x := (0 : Int32)) (xC_n (c := 69) (k := 10) (x := (0 : Int32)) (xC_n (c := 69) (k := 9) (x := (0 : Int32)) (xC_p (c := 69) (k := 8) (x := (0 : Int32)) (xC_n (c := 69) (k := 7) (x := (0 : Int32)) (xC_p (c := 69) (k := 6) (x := (0 : Int32)) (xC_p (c := 69) (k := 5) (x := (0 : Int32)) (xC_o (W := 75) rp0_S5) 69 xW75 rfl rfl) 69 xW75 rfl rfl) ⟨by decide, Or.inl ⟨rfl, rfl⟩⟩) 69 xW75 rfl rfl) ⟨by decide, Or.inl ⟨rfl, rfl⟩⟩) ⟨by decide, Or.inl ⟨rfl, rfl⟩⟩) 69 xW75 rfl rfl) ⟨by decide, Or.inl ⟨rfl, rfl⟩⟩).2)) (show aS 88 (ma_put (ma_put (ma_put (ma_put (ma_put (ma_put (ma_put (ma_put S5 69 5 (.inl (0 : Int32))) 69 6 (.inl (0 : Int32))) 69 7 (.inl (0 : Int32))) 69 8 (.inl (0 : Int32))) 69 9 (.inl (0 : Int32))) 69 10 (.inl (0 : Int32))) 69 11 (.inl (0 : Int32))) 69 12 (.inl (0 : Int32))) = aFg ab from by first | (refine (xC_n (c := 69) (k := 12) (x := (0 : Int32)) (xC_p (c := 69) (k := 11) (x := (0 : Int32)) (xC_n (c := 69) (k := 10) (x := (0 : Int32)) (xC_n (c := 69) (k := 9) (x := (0 : Int32)) (xC_p (c := 69) (k := 8) (x := (0 : Int32)) (xC_n (c := 69) (k := 7) (x := (0 : Int32)) (xC_p (c := 69) (k := 6) (x := (0 : Int32)) (xC_p (c := 69) (k := 5) (x := (0 : Int32)) (xC_o (W := 88) rp0_S5) 69 xW88 rfl rfl) 69 xW88 rfl rfl) ⟨by decide, Or.inr ⟨rfl, Or.inr ⟨rfl, by decide⟩⟩⟩) 69 xW88 rfl rfl) ⟨by decide, Or.inr ⟨rfl, Or.inr ⟨rfl, by decide⟩⟩⟩) ⟨by decide, Or.inr ⟨rfl, Or.inr ⟨rfl, by decide⟩⟩⟩) 69 xW88 rfl rfl) ⟨by decide, Or.inr ⟨rfl, Or.inr ⟨rfl, by decide⟩⟩⟩).1.trans ?_; rw [rp1_S5, rp1_S3, rp1_S1, hi3, show l1.toInt = 512 from by omega]; rfl))
    · skip
      have g15 := i_nle h3
      refine ⟨i_ix (by omega) (by omega), ?_⟩
      have hI16 : zS f r C Z N (ma_put S 70 l1.toNatClampNeg (.inr (.inr none))) := zG_rf hI (by decide) (by decide +kernel) (fun _ z => by cases z)
      first | have e17 : (l1 + (1 : Int32)).toInt = l1.toInt + (1) := i_addk rfl (by omega) (by omega) | have b18 := i_bd (l1 + (1 : Int32))
      exact IH _ (by omega) _ ((l1 + (1 : Int32))) rfl hI16 (by omega) (by omega) (show xB (ma_put S 70 l1.toNatClampNeg (.inr (.inr none))) (mR (ma_put S 70 l1.toNatClampNeg (.inr (.inr none))) 70) from by first | (exact xB_x (xC_0 (xC_o (W := 88) hi2) (n := l1.toNatClampNeg)).2)) (show aS 88 (ma_put S 70 l1.toNatClampNeg (.inr (.inr none))) = zDe ab ((l1 + (1 : Int32))).toInt from by first | (refine (xC_0 (xC_o (W := 88) hi2) (n := l1.toNatClampNeg)).1.trans ?_; rw [hi3]; exact zDe_s (by omega) (by omega)))
theorem sp_80_69_s {X : Nat × (Nat → Int32)} {d w : Nat} {f : Nat → Nat → Int32} {r : Nat → Nat → Option Nat} {C Z N : Nat} {Q : Option ma_V ⊕ Nat → ma_S → Prop} {ab : Nat→Nat→Int32} {S : ma_S}  (hd : 1 ≤ d) (hw : 23 ≤ w) (hI : zS f r C Z N S) (hpre0 : xB S (mR S 70)) (hpre1 : aS 88 S = ab) (K : ∀ S', zS f r C Z N S' → (xB S' (mR S' 70)) → (aS 88 S' = aFg ab) → Q (.inl none) S') : ma_wp X d w 80 0 [(0, .inr (.inr (some 69)))] [] S Q := by
  refine g_80_69_s_0  (by omega) (by omega) (zG_T hI) ?_
  have li1 : (0 : Int32).toInt = 0 := rfl
  exact lp_80_69_s_2 (by omega) (by omega) K _ _ ((0 : Int32)) rfl hI (by omega) (by omega) (show xB S (mR S 70) from by first | (exact xB_x (xC_o (W := 75) hpre0).2)) (show aS 88 S = zDe ab ((0 : Int32)).toInt from by first | (rw [hpre1]; exact zDe_0.symm))
def aO1 (a : Nat → Nat → Int32) (t : Nat → Int32) : Nat → Nat → Int32 := ma_u (ma_u (ma_u a 87 0 (t 0)) 87 1 (t 1)) 87 2 0
def aO2 (a : Nat → Nat → Int32) (t : Nat → Int32) : Nat → Nat → Int32 := ma_u (ma_u (ma_u (aO1 a t) 87 6 (t 2)) 87 7 (t 3)) 87 8 0
theorem g_100_87_66_s_0 {X : Nat × (Nat → Int32)} {d w : Nat} {S : ma_S} {Q : Option ma_V ⊕ Nat → ma_S → Prop}  (hd : 0 ≤ d) (hw : 0 ≤ w) (hS : zT S) (h : Q (.inl none) (ma_put (ma_put (ma_put S 87 0 (.inl (mI S 66 0))) 87 1 (.inl (mI S 66 1))) 87 2 (.inl (0 : Int32)))) : ma_wp X d w 100 0 [(0, .inr (.inr (some 87))), (1, .inr (.inr (some 66)))] [] S Q := by
  refine zw_push hm_100 dX8_open_0 (v := .inr (.inr (some 87))) rfl ?_
  refine zw_push hm_100 dX8_open_1 (v := .inr (.inr (some 66))) rfl ?_
  refine zw_push hm_100 dX8_open_2 (v := .inl (0 : Int32)) rfl ?_
  refine zw_ia hm_100 dX8_open_3 (zT_is hS s_66) (zT_h hS s_66) rfl ⟨by decide, by decide⟩ ?_
  show ma_wp X d w 100 4 [(0, .inr (.inr (some 87))), (1, .inr (.inr (some 66)))] [.inl (mI S 66 0), .inr (.inr (some 87))] S _
  refine zw_pf hm_100 dX8_open_4 (zT_is hS s_87) (zT_t hS s_87) p_8_9_6 zk_int ?_
  refine zw_push hm_100 dX8_open_7 (v := .inr (.inr (some 87))) rfl ?_
  refine zw_push hm_100 dX8_open_8 (v := .inr (.inr (some 66))) rfl ?_
  refine zw_push hm_100 dX8_open_9 (v := .inl (1 : Int32)) rfl ?_
  refine zw_ia hm_100 dX8_open_10 (zT_is (zT_pi hS) s_66) (zT_h (zT_pi hS) s_66) rfl ⟨by decide, by decide⟩ ?_
  show ma_wp X d w 100 11 [(0, .inr (.inr (some 87))), (1, .inr (.inr (some 66)))] [.inl (mI S 66 1), .inr (.inr (some 87))] (ma_put S 87 0 (.inl (mI S 66 0))) _
  refine zw_pf hm_100 dX8_open_11 (zT_is (zT_pi hS) s_87) (zT_t (zT_pi hS) s_87) p_8_15_6 zk_int ?_
  refine zw_push hm_100 dX8_open_14 (v := .inr (.inr (some 87))) rfl ?_
  refine zw_push hm_100 dX8_open_15 (v := .inl (0 : Int32)) rfl ?_
  refine zw_pf hm_100 dX8_open_16 (zT_is (zT_pi (zT_pi hS)) s_87) (zT_t (zT_pi (zT_pi hS)) s_87) p_8_18_6 zk_int ?_
  exact zw_vret hm_100 dX8_open_19 h
theorem sp_100_87_66_s {X : Nat × (Nat → Int32)} {d w : Nat} {f : Nat → Nat → Int32} {r : Nat → Nat → Option Nat} {C Z N : Nat} {Q : Option ma_V ⊕ Nat → ma_S → Prop} {ab : Nat→Nat→Int32} {S : ma_S}  (hd : 0 ≤ d) (hw : 0 ≤ w) (hI : zJ87 f r C Z N S) (hpre0 : 0 ≤ (mI S 66 0).toInt ∧ (mI S 66 0).toInt ≤ 1500) (hpre1 : xB S (mR S 70)) (hpre2 : aS 88 S = ab) (K : ∀ S', zJ87 f r C Z N S' → (xB S' (mR S' 70)) → (aS 88 S' = aO1 ab (f 66)) → Q (.inl none) S') : ma_wp X d w 100 0 [(0, .inr (.inr (some 87))), (1, .inr (.inr (some 66)))] [] S Q := by
  refine g_100_87_66_s_0  (by omega) (by omega) (zG_T hI) ?_
  have q1 : (mI S 66 0).toInt = (f 66 0).toInt := zG_zi hI rfl
  have b2 := i_bd (mI S 66 0)
  have hI3 : zJ87 f r C Z N (ma_put S 87 0 (.inl (mI S 66 0))) := zG_sp hI (0) (1500) rfl (by decide) (by decide) (by decide) trivial (by omega) (by omega)
  have hI4 : zJ87 f r C Z N (ma_put (ma_put S 87 0 (.inl (mI S 66 0))) 87 1 (.inl (mI S 66 1))) := zG_fr hI3 rfl (by decide) (by decide) (by decide) trivial
  have li6 : (0 : Int32).toInt = 0 := rfl
  have hI5 : zJ87 f r C Z N (ma_put (ma_put (ma_put S 87 0 (.inl (mI S 66 0))) 87 1 (.inl (mI S 66 1))) 87 2 (.inl (0 : Int32))) := zG_sp hI4 (0) (400000) rfl (by decide) (by decide) (by decide) trivial (by omega) (by omega)
  exact K _ hI5 (show xB (ma_put (ma_put (ma_put S 87 0 (.inl (mI S 66 0))) 87 1 (.inl (mI S 66 1))) 87 2 (.inl (0 : Int32))) (mR (ma_put (ma_put (ma_put S 87 0 (.inl (mI S 66 0))) 87 1 (.inl (mI S 66 1))) 87 2 (.inl (0 : Int32))) 70) from by first | (exact xB_x (xC_p (c := 87) (k := 2) (x := (0 : Int32)) (xC_p (c := 87) (k := 1) (x := (mI S 66 1)) (xC_p (c := 87) (k := 0) (x := (mI S 66 0)) (xC_o (W := 75) hpre1) 87 xW75 rfl rfl) 87 xW75 rfl rfl) 87 xW75 rfl rfl).2)) (show aS 88 (ma_put (ma_put (ma_put S 87 0 (.inl (mI S 66 0))) 87 1 (.inl (mI S 66 1))) 87 2 (.inl (0 : Int32))) = aO1 ab (f 66) from by first | (refine (xC_p (c := 87) (k := 2) (x := (0 : Int32)) (xC_p (c := 87) (k := 1) (x := (mI S 66 1)) (xC_p (c := 87) (k := 0) (x := (mI S 66 0)) (xC_o (W := 88) hpre1) 87 xW88 rfl rfl) 87 xW88 rfl rfl) 87 xW88 rfl rfl).1.trans ?_; rw [hpre2, show mI S 66 0 = f 66 0 from zG_z hI rfl, show mI S 66 1 = f 66 1 from zG_z hI rfl]; rfl))
theorem g_66_87_66_s_0 {X : Nat × (Nat → Int32)} {d w : Nat} {S : ma_S} {Q : Option ma_V ⊕ Nat → ma_S → Prop}  (hd : 1 ≤ d) (hw : 21 ≤ w) (hS : zT S) (h : ma_wp X (d - 1) (w - 21) 100 0 [(0, .inr (.inr (some 87))), (1, .inr (.inr (some 66)))] [] S (zv (fun S1 => zT S1 ∧ (Q (.inl none) (ma_put (ma_put (ma_put S1 87 6 (.inl (mI S1 66 2))) 87 7 (.inl (mI S1 66 3))) 87 8 (.inl (0 : Int32))))) (fun _ _ => False))) : ma_wp X d w 66 0 [(0, .inr (.inr (some 87))), (1, .inr (.inr (some 66)))] [] S Q := by
  refine zw_push hm_66 dX6_open_0 (v := .inr (.inr (some 87))) rfl ?_
  refine zw_push hm_66 dX6_open_1 (v := .inr (.inr (some 66))) rfl ?_
  refine zw_csp hm_66 dX6_open_2 ip_6_20 il_6_20 hm_100 [.inr (.inr (some 66))] [] rfl (zT_is hS s_87) (by rw [(zT_t hS s_87)]; decide) ⟨by omega, by omega⟩ rfl (zw_mono h (zv_go ?_ ?_))
  · intro S1 hv
    obtain ⟨hS1, h⟩ := hv
    refine zw_push hm_66 dX6_open_5 (v := .inr (.inr (some 87))) rfl ?_
    refine zw_push hm_66 dX6_open_6 (v := .inr (.inr (some 66))) rfl ?_
    refine zw_push hm_66 dX6_open_7 (v := .inl (2 : Int32)) rfl ?_
    refine zw_ia hm_66 dX6_open_8 (zT_is hS1 s_66) (zT_h hS1 s_66) rfl ⟨by decide, by decide⟩ ?_
    show ma_wp X d w 66 9 [(0, .inr (.inr (some 87))), (1, .inr (.inr (some 66)))] [.inl (mI S1 66 2), .inr (.inr (some 87))] S1 _
    refine zw_pf hm_66 dX6_open_9 (zT_is hS1 s_87) (zT_t hS1 s_87) p_6_24_6 zk_int ?_
    refine zw_push hm_66 dX6_open_12 (v := .inr (.inr (some 87))) rfl ?_
    refine zw_push hm_66 dX6_open_13 (v := .inr (.inr (some 66))) rfl ?_
    refine zw_push hm_66 dX6_open_14 (v := .inl (3 : Int32)) rfl ?_
    refine zw_ia hm_66 dX6_open_15 (zT_is (zT_pi hS1) s_66) (zT_h (zT_pi hS1) s_66) rfl ⟨by decide, by decide⟩ ?_
    show ma_wp X d w 66 16 [(0, .inr (.inr (some 87))), (1, .inr (.inr (some 66)))] [.inl (mI S1 66 3), .inr (.inr (some 87))] (ma_put S1 87 6 (.inl (mI S1 66 2))) _
    refine zw_pf hm_66 dX6_open_16 (zT_is (zT_pi hS1) s_87) (zT_t (zT_pi hS1) s_87) p_6_28_6 zk_int ?_
    refine zw_push hm_66 dX6_open_19 (v := .inr (.inr (some 87))) rfl ?_
    refine zw_push hm_66 dX6_open_20 (v := .inl (0 : Int32)) rfl ?_
    refine zw_pf hm_66 dX6_open_21 (zT_is (zT_pi (zT_pi hS1)) s_87) (zT_t (zT_pi (zT_pi hS1)) s_87) p_6_31_6 (zk_bool (by decide)) ?_
    exact zw_vret hm_66 dX6_open_24 h
  · intro x S9 hx
    exact hx.elim
theorem sp_66_87_66_s {X : Nat × (Nat → Int32)} {d w : Nat} {f : Nat → Nat → Int32} {r : Nat → Nat → Option Nat} {C Z N : Nat} {Q : Option ma_V ⊕ Nat → ma_S → Prop} {ab : Nat→Nat→Int32} {S : ma_S}  (hd : 1 ≤ d) (hw : 21 ≤ w) (hI : zJ87 f r C Z N S) (hpre0 : 0 ≤ (mI S 66 0).toInt ∧ (mI S 66 0).toInt ≤ 1500 ∧ -1 ≤ (mI S 66 2).toInt ∧ (mI S 66 2).toInt ≤ 1500) (hpre1 : xB S (mR S 70)) (hpre2 : aS 88 S = ab) (K : ∀ S', zJ87 f r C Z N S' → (xB S' (mR S' 70)) → (aS 88 S' = aO2 ab (f 66)) → Q (.inl none) S') : ma_wp X d w 66 0 [(0, .inr (.inr (some 87))), (1, .inr (.inr (some 66)))] [] S Q := by
  refine g_66_87_66_s_0  (by omega) (by omega) (zG_T hI) ?_
  have q1 : (mI S 66 0).toInt = (f 66 0).toInt := zG_zi hI rfl
  have b2 := i_bd (mI S 66 0)
  have q3 : (mI S 66 2).toInt = (f 66 2).toInt := zG_zi hI rfl
  have b4 := i_bd (mI S 66 2)
  refine sp_100_87_66_s (ab := (aS 88 S)) (by omega) (by omega) hI (show 0 ≤ (mI S 66 0).toInt ∧ (mI S 66 0).toInt ≤ 1500 from by omega) (show xB S (mR S 70) from by first | (exact xB_x (xC_o (W := 75) hpre1).2)) (show aS 88 S = (aS 88 S) from by first | (exact rfl)) (fun S1 hI_S1 rp0_S1 rp1_S1 => zv_n ⟨zG_T hI_S1, ?_⟩)
  have rp0_S1 : xB S1 (mR S1 70) := rp0_S1
  have rp1_S1 : aS 88 S1 = aO1 (aS 88 S) (f 66) := rp1_S1
  have q6 : (mI S1 66 2).toInt = (f 66 2).toInt := zG_zi hI_S1 rfl
  have b7 := i_bd (mI S1 66 2)
  have hI5 : zJ87 f r C Z N (ma_put S1 87 6 (.inl (mI S1 66 2))) := zG_sp hI_S1 (-1) (1500) rfl (by decide) (by decide) (by decide) trivial (by omega) (by omega)
  have hI8 : zJ87 f r C Z N (ma_put (ma_put S1 87 6 (.inl (mI S1 66 2))) 87 7 (.inl (mI S1 66 3))) := zG_fr hI5 rfl (by decide) (by decide) (by decide) trivial
  have li10 : (0 : Int32).toInt = 0 := rfl
  have hI9 : zJ87 f r C Z N (ma_put (ma_put (ma_put S1 87 6 (.inl (mI S1 66 2))) 87 7 (.inl (mI S1 66 3))) 87 8 (.inl (0 : Int32))) := zG_sp hI8 (0) (1) rfl (by decide) (by decide) (by decide) trivial (by omega) (by omega)
  exact K _ hI9 (show xB (ma_put (ma_put (ma_put S1 87 6 (.inl (mI S1 66 2))) 87 7 (.inl (mI S1 66 3))) 87 8 (.inl (0 : Int32))) (mR (ma_put (ma_put (ma_put S1 87 6 (.inl (mI S1 66 2))) 87 7 (.inl (mI S1 66 3))) 87 8 (.inl (0 : Int32))) 70) from by first | (exact xB_x (xC_p (c := 87) (k := 8) (x := (0 : Int32)) (xC_p (c := 87) (k := 7) (x := (mI S1 66 3)) (xC_p (c := 87) (k := 6) (x := (mI S1 66 2)) (xC_o (W := 75) rp0_S1) 87 xW75 rfl rfl) 87 xW75 rfl rfl) 87 xW75 rfl rfl).2)) (show aS 88 (ma_put (ma_put (ma_put S1 87 6 (.inl (mI S1 66 2))) 87 7 (.inl (mI S1 66 3))) 87 8 (.inl (0 : Int32))) = aO2 ab (f 66) from by first | (refine (xC_p (c := 87) (k := 8) (x := (0 : Int32)) (xC_p (c := 87) (k := 7) (x := (mI S1 66 3)) (xC_p (c := 87) (k := 6) (x := (mI S1 66 2)) (xC_o (W := 88) rp0_S1) 87 xW88 rfl rfl) 87 xW88 rfl rfl) 87 xW88 rfl rfl).1.trans ?_; rw [rp1_S1, hpre2, show mI S1 66 2 = f 66 2 from zG_z hI_S1 rfl, show mI S1 66 3 = f 66 3 from zG_z hI_S1 rfl]; rfl))
