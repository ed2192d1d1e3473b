/-! COUNTS, the class (written by wip/tools/gen20k.py) -/
theorem g_156_64_sk_p84_0 {X : Nat × (Nat → Int32)} {d w : Nat} {S : ma_S} {Q : Option ma_V ⊕ Nat → ma_S → Prop} (o : Int32) (b : Int32) (hd : 7 ≤ d) (hw : 111 ≤ w) (hS : zT S) (h : mR S 64 11 = some 84 ∧ (mR S 64 11 = some 84 ∧ (ma_wp X (d - 1) (w - 22) 149 0 [(0, .inr (.inr (some 64))), (1, .inl o)] [] S (zo (fun v2 S1 => zT S1 ∧ ((∃ c3, v2 = some c3 ∧ (if b = 0 then ((126 ≤ c3 ∧ c3 < mN S1) ∧ (if (mI S1 c3 7) = 0 then (Q (.inr 6) (ma_bump S1)) else (if b = 0 then (ma_wp X (d - 1) (w - 22) 97 0 [(0, .inr (.inr (some 69))), (1, .inr (.inr (some c3))), (2, .inl (-1 : Int32))] [] S1 (zv (fun S12 => zT S12 ∧ (ma_wp X (d - 1) (w - 24) 24 0 [(0, .inr (.inr (some 84))), (1, .inr (.inr (some c3)))] [] S12 (zv (fun S14 => zT S14 ∧ ((126 ≤ c3 ∧ c3 < mN S14) ∧ (Q (.inl (some (.inl (mI S14 c3 7)))) S14))) (fun _ _ => False)))) (fun x S9 => Q (.inr x) S9))) else (ma_wp X (d - 1) (w - 22) 97 0 [(0, .inr (.inr (some 69))), (1, .inr (.inr (some c3))), (2, .inl (1 : Int32))] [] S1 (zv (fun S16 => zT S16 ∧ (ma_wp X (d - 1) (w - 24) 24 0 [(0, .inr (.inr (some 84))), (1, .inr (.inr (some c3)))] [] S16 (zv (fun S18 => zT S18 ∧ ((126 ≤ c3 ∧ c3 < mN S18) ∧ (Q (.inl (some (.inl (mI S18 c3 7)))) S18))) (fun _ _ => False)))) (fun x S9 => Q (.inr x) S9)))))) else (if b = 0 then (ma_wp X (d - 1) (w - 22) 97 0 [(0, .inr (.inr (some 69))), (1, .inr (.inr (some c3))), (2, .inl (-1 : Int32))] [] S1 (zv (fun S4 => zT S4 ∧ (ma_wp X (d - 1) (w - 24) 24 0 [(0, .inr (.inr (some 84))), (1, .inr (.inr (some c3)))] [] S4 (zv (fun S6 => zT S6 ∧ ((126 ≤ c3 ∧ c3 < mN S6) ∧ (Q (.inl (some (.inl (mI S6 c3 7)))) S6))) (fun _ _ => False)))) (fun x S9 => Q (.inr x) S9))) else (ma_wp X (d - 1) (w - 22) 97 0 [(0, .inr (.inr (some 69))), (1, .inr (.inr (some c3))), (2, .inl (1 : Int32))] [] S1 (zv (fun S8 => zT S8 ∧ (ma_wp X (d - 1) (w - 24) 24 0 [(0, .inr (.inr (some 84))), (1, .inr (.inr (some c3)))] [] S8 (zv (fun S10 => zT S10 ∧ ((126 ≤ c3 ∧ c3 < mN S10) ∧ (Q (.inl (some (.inl (mI S10 c3 7)))) S10))) (fun _ _ => False)))) (fun x S9 => Q (.inr x) S9)))))))) (fun x S9 => Q (.inr x) S9))))) : ma_wp X d w 156 0 [(0, .inr (.inr (some 64))), (1, .inl o), (2, .inl b)] [] S Q := by
  refine zw_push hm_156 dX11_hold_0 (v := .inr (.inr (some 64))) rfl ?_
  refine zw_cv hm_156 dX11_hold_1 v_11_119_11 hm_144 [] [] rfl (zT_rt hS s_64 rfl) ⟨by omega, by omega⟩ rfl ?_
  show ma_wp X (d - 1) (w - 20) 144 0 [(0, .inr (.inr (some 64)))] [] S _
  refine zw_push hm_144 dX11_needCollector_0 (v := .inr (.inr (some 64))) rfl ?_
  obtain ⟨hg, h⟩ := h
  refine zw_gf hm_144 dX11_needCollector_1 (v := .inr (.inr (some 84))) (zT_is hS s_64) (zT_t hS s_64) rfl f_11_98_11 (congrArg (fun z => Sum.inr (Sum.inr z)) hg) ?_
  refine zw_ifnonnull hm_144 dX11_needCollector_4 (t := 15) rfl (fun z => by cases z) (fun _ _ => ?_)
  refine zw_push hm_144 dX11_needCollector_15 (v := .inr (.inr (some 64))) rfl ?_
  obtain ⟨hg, h⟩ := h
  refine zw_gf hm_144 dX11_needCollector_16 (v := .inr (.inr (some 84))) (zT_is hS s_64) (zT_t hS s_64) rfl f_11_98_11 (congrArg (fun z => Sum.inr (Sum.inr z)) hg) ?_
  refine zw_aret hm_144 dX11_needCollector_19 ?_
  show ma_wp X d w 156 4 [(0, .inr (.inr (some 64))), (1, .inl o), (2, .inl b)] [.inr (.inr (some 84))] S _
  refine zw_sto hm_156 dX11_hold_4 [(3, .inr (.inr (some 84))), (0, .inr (.inr (some 64))), (1, .inl o), (2, .inl b)] rfl rfl rfl ?_
  refine zw_push hm_156 dX11_hold_5 (v := .inr (.inr (some 64))) rfl ?_
  refine zw_push hm_156 dX11_hold_6 (v := .inl o) rfl ?_
  refine zw_cv hm_156 dX11_hold_7 v_11_123_11 hm_149 [.inl o] [] rfl (zT_rt hS s_64 rfl) ⟨by omega, by omega⟩ rfl (zw_mono h (zo_go ?_ ?_))
  · intro v2 S1 hv
    obtain ⟨hS1, h⟩ := hv
    obtain ⟨c3, hc, h⟩ := h
    subst hc
    show ma_wp X d w 156 10 [(3, .inr (.inr (some 84))), (0, .inr (.inr (some 64))), (1, .inl o), (2, .inl b)] [.inr (.inr (some c3))] S1 _
    refine zw_sto hm_156 dX11_hold_10 [(4, .inr (.inr (some c3))), (3, .inr (.inr (some 84))), (0, .inr (.inr (some 64))), (1, .inl o), (2, .inl b)] rfl rfl rfl ?_
    refine zw_push hm_156 dX11_hold_12 (v := .inr (.inr (some 84))) rfl ?_
    refine zw_push hm_156 dX11_hold_13 (v := .inr (.inr (some c3))) rfl ?_
    refine zw_cv hm_156 dX11_hold_15 v_11_185_2 hm_269 [.inr (.inr (some c3))] [] rfl (zT_rt hS1 s_84 rfl) ⟨by omega, by omega⟩ rfl ?_
    show ma_wp X (d - 1) (w - 21) 269 0 [(0, .inr (.inr (some 84))), (1, .inr (.inr (some c3)))] [] S1 _
    refine zw_push hm_269 dX1_canHold_0 (v := .inl (1 : Int32)) rfl ?_
    refine zw_bret hm_269 dX1_canHold_1 (by decide) ?_
    show ma_wp X d w 156 18 [(4, .inr (.inr (some c3))), (3, .inr (.inr (some 84))), (0, .inr (.inr (some 64))), (1, .inl o), (2, .inl b)] [.inl (1 : Int32)] S1 _
    refine zw_if0 hm_156 dX11_hold_18 (t := 33) rfl zc0_eq (fun hc => absurd hc (by decide)) (fun _ => ?_)
    refine zw_push hm_156 dX11_hold_21 (v := .inl b) rfl ?_
    refine zw_if0 hm_156 dX11_hold_22 (t := 41) rfl zc0_ne ?_ ?_
    · intro hc
      rw [if_neg hc] at h
      refine zw_push hm_156 dX11_hold_41 (v := .inr (.inr (some 64))) rfl ?_
      refine zw_gf hm_156 dX11_hold_42 (v := .inr (.inr (some 69))) (zT_is hS1 s_64) (zT_t hS1 s_64) rfl f_11_26_11 (zT_f hS1 r_64_8) ?_
      refine zw_push hm_156 dX11_hold_45 (v := .inr (.inr (some c3))) rfl ?_
      refine zw_push hm_156 dX11_hold_47 (v := .inl b) rfl ?_
      refine zw_if0 hm_156 dX11_hold_48 (t := 55) rfl zc0_eq ?_ ?_
      · intro hc
        rw [if_pos hc] at h
        refine zw_push hm_156 dX11_hold_55 (v := .inl (-1 : Int32)) rfl ?_
        refine zw_cv hm_156 dX11_hold_56 v_11_195_7 hm_97 [.inl (-1 : Int32), .inr (.inr (some c3))] [] rfl (zT_rt hS1 s_69 rfl) ⟨by omega, by omega⟩ rfl (zw_mono h (zv_go ?_ ?_))
        · intro S4 hv
          obtain ⟨hS4, h⟩ := hv
          refine zw_push hm_156 dX11_hold_59 (v := .inr (.inr (some 84))) rfl ?_
          refine zw_push hm_156 dX11_hold_60 (v := .inr (.inr (some c3))) rfl ?_
          refine zw_cv hm_156 dX11_hold_62 v_11_157_2 hm_24 [.inr (.inr (some c3))] [] rfl (zT_rt hS4 s_84 rfl) ⟨by omega, by omega⟩ rfl (zw_mono h (zv_go ?_ ?_))
          · intro S6 hv
            obtain ⟨hS6, h⟩ := hv
            refine zw_push hm_156 dX11_hold_65 (v := .inr (.inr (some c3))) rfl ?_
            obtain ⟨hg, h⟩ := h
            refine zw_gf hm_156 dX11_hold_67 (v := .inl (mI S6 c3 7)) (zT_tis hS6 hg) (zT_tt hS6 hg) rfl f_11_189_9 rfl ?_
            exact zw_iret hm_156 dX11_hold_70 h
          · intro x S9 hx
            exact hx.elim
        · intro x S9 hx
          exact ⟨by decide, hx⟩
      · intro hc
        rw [if_neg hc] at h
        refine zw_push hm_156 dX11_hold_51 (v := .inl (1 : Int32)) rfl ?_
        refine zw_goto hm_156 dX11_hold_52 (t := 56) rfl ?_
        refine zw_cv hm_156 dX11_hold_56 v_11_195_7 hm_97 [.inl (1 : Int32), .inr (.inr (some c3))] [] rfl (zT_rt hS1 s_69 rfl) ⟨by omega, by omega⟩ rfl (zw_mono h (zv_go ?_ ?_))
        · intro S8 hv
          obtain ⟨hS8, h⟩ := hv
          refine zw_push hm_156 dX11_hold_59 (v := .inr (.inr (some 84))) rfl ?_
          refine zw_push hm_156 dX11_hold_60 (v := .inr (.inr (some c3))) rfl ?_
          refine zw_cv hm_156 dX11_hold_62 v_11_157_2 hm_24 [.inr (.inr (some c3))] [] rfl (zT_rt hS8 s_84 rfl) ⟨by omega, by omega⟩ rfl (zw_mono h (zv_go ?_ ?_))
          · intro S10 hv
            obtain ⟨hS10, h⟩ := hv
            refine zw_push hm_156 dX11_hold_65 (v := .inr (.inr (some c3))) rfl ?_
            obtain ⟨hg, h⟩ := h
            refine zw_gf hm_156 dX11_hold_67 (v := .inl (mI S10 c3 7)) (zT_tis hS10 hg) (zT_tt hS10 hg) rfl f_11_189_9 rfl ?_
            exact zw_iret hm_156 dX11_hold_70 h
          · intro x S9 hx
            exact hx.elim
        · intro x S9 hx
          exact ⟨by decide, hx⟩
    · intro hc
      rw [if_pos (Classical.not_not.mp hc)] at h
      refine zw_push hm_156 dX11_hold_25 (v := .inr (.inr (some c3))) rfl ?_
      obtain ⟨hg, h⟩ := h
      refine zw_gf hm_156 dX11_hold_27 (v := .inl (mI S1 c3 7)) (zT_tis hS1 hg) (zT_tt hS1 hg) rfl f_11_189_9 rfl ?_
      refine zw_if0 hm_156 dX11_hold_30 (t := 41) rfl zc0_ne ?_ ?_
      · intro hc
        rw [if_neg hc] at h
        refine zw_push hm_156 dX11_hold_41 (v := .inr (.inr (some 64))) rfl ?_
        refine zw_gf hm_156 dX11_hold_42 (v := .inr (.inr (some 69))) (zT_is hS1 s_64) (zT_t hS1 s_64) rfl f_11_26_11 (zT_f hS1 r_64_8) ?_
        refine zw_push hm_156 dX11_hold_45 (v := .inr (.inr (some c3))) rfl ?_
        refine zw_push hm_156 dX11_hold_47 (v := .inl b) rfl ?_
        refine zw_if0 hm_156 dX11_hold_48 (t := 55) rfl zc0_eq ?_ ?_
        · intro hc
          rw [if_pos hc] at h
          refine zw_push hm_156 dX11_hold_55 (v := .inl (-1 : Int32)) rfl ?_
          refine zw_cv hm_156 dX11_hold_56 v_11_195_7 hm_97 [.inl (-1 : Int32), .inr (.inr (some c3))] [] rfl (zT_rt hS1 s_69 rfl) ⟨by omega, by omega⟩ rfl (zw_mono h (zv_go ?_ ?_))
          · intro S12 hv
            obtain ⟨hS12, h⟩ := hv
            refine zw_push hm_156 dX11_hold_59 (v := .inr (.inr (some 84))) rfl ?_
            refine zw_push hm_156 dX11_hold_60 (v := .inr (.inr (some c3))) rfl ?_
            refine zw_cv hm_156 dX11_hold_62 v_11_157_2 hm_24 [.inr (.inr (some c3))] [] rfl (zT_rt hS12 s_84 rfl) ⟨by omega, by omega⟩ rfl (zw_mono h (zv_go ?_ ?_))
            · intro S14 hv
              obtain ⟨hS14, h⟩ := hv
              refine zw_push hm_156 dX11_hold_65 (v := .inr (.inr (some c3))) rfl ?_
              obtain ⟨hg, h⟩ := h
              refine zw_gf hm_156 dX11_hold_67 (v := .inl (mI S14 c3 7)) (zT_tis hS14 hg) (zT_tt hS14 hg) rfl f_11_189_9 rfl ?_
              exact zw_iret hm_156 dX11_hold_70 h
            · intro x S9 hx
              exact hx.elim
          · intro x S9 hx
            exact ⟨by decide, hx⟩
        · intro hc
          rw [if_neg hc] at h
          refine zw_push hm_156 dX11_hold_51 (v := .inl (1 : Int32)) rfl ?_
          refine zw_goto hm_156 dX11_hold_52 (t := 56) rfl ?_
          refine zw_cv hm_156 dX11_hold_56 v_11_195_7 hm_97 [.inl (1 : Int32), .inr (.inr (some c3))] [] rfl (zT_rt hS1 s_69 rfl) ⟨by omega, by omega⟩ rfl (zw_mono h (zv_go ?_ ?_))
          · intro S16 hv
            obtain ⟨hS16, h⟩ := hv
            refine zw_push hm_156 dX11_hold_59 (v := .inr (.inr (some 84))) rfl ?_
            refine zw_push hm_156 dX11_hold_60 (v := .inr (.inr (some c3))) rfl ?_
            refine zw_cv hm_156 dX11_hold_62 v_11_157_2 hm_24 [.inr (.inr (some c3))] [] rfl (zT_rt hS16 s_84 rfl) ⟨by omega, by omega⟩ rfl (zw_mono h (zv_go ?_ ?_))
            · intro S18 hv
              obtain ⟨hS18, h⟩ := hv
              refine zw_push hm_156 dX11_hold_65 (v := .inr (.inr (some c3))) rfl ?_
              obtain ⟨hg, h⟩ := h
              refine zw_gf hm_156 dX11_hold_67 (v := .inl (mI S18 c3 7)) (zT_tis hS18 hg) (zT_tt hS18 hg) rfl f_11_189_9 rfl ?_
              exact zw_iret hm_156 dX11_hold_70 h
            · intro x S9 hx
              exact hx.elim
          · intro x S9 hx
            exact ⟨by decide, hx⟩
      · intro hc
        rw [if_pos (Classical.not_not.mp hc)] at h
        exact zw_thr hm_156 dX11_hold_33 dX11_hold_36 dX11_hold_37 dX11_hold_40 x_11_192_194 n_11_192 (by omega) (by show 0 + 81 ≤ w; omega) h
  · intro x S9 hx
    exact ⟨by decide, hx⟩
theorem sp_156_64_sk_p84 {X : Nat × (Nat → Int32)} {d w : Nat} {f : Nat → Nat → Int32} {r : Nat → Nat → Option Nat} {C Z N : Nat} {Q : Option ma_V ⊕ Nat → ma_S → Prop} {ab : Nat→Nat→Int32} {B : Int} {fq : Nat→Int32} {S : ma_S} (o : Int32) (b : Int32) (hd : 7 ≤ d) (hw : 111 ≤ w) (hI : zB f r C Z N S) (hr : r 64 11 = some 84) (hpre0 : xB S (mR S 70)) (hpre1 : aS 88 S = ab) (hpre2 : cC ab [] (kC S) B) (hpre3 : B + 1 ≤ 1000000) (hpre4 : 0 ≤ b.toInt) (hpre5 : b.toInt ≤ 1) (hpre6 : zfP 84 (mI S) = fq) (K : ∀ v S', zB f r C Z N S' → (True) → (xB S' (mR S' 70)) → (cC (aS 88 S') [] (kC S') (B + 1)) → (zRq ab o ∧ (¬ b = 0 ∨ ¬ ab 133 o.toNatClampNeg = 0) ∧ aS 88 S' = cLe (ma_u ab 133 o.toNatClampNeg (ab 133 o.toNatClampNeg + (if b = 0 then -1 else 1))) o ∧ v = ab 133 o.toNatClampNeg + (if b = 0 then -1 else 1)) → (zfP 84 (mI S') = fq) → Q (.inl (some (.inl v))) S') (KX : ∀ x S', (x = 4 ∨ x = 6) → zB f r C Z N S' → (xB S' (mR S' 70)) → (aS 88 S' = ab) → (cC ab [] (kC S') B) → ((x = 4 ∧ ¬ zRq ab o) ∨ (x = 6 ∧ zRq ab o ∧ b = 0 ∧ ab 133 o.toNatClampNeg = 0)) → (zfP 84 (mI S') = fq) → Q (.inr x) (ma_bump S')) : ma_wp X d w 156 0 [(0, .inr (.inr (some 64))), (1, .inl o), (2, .inl b)] [] S Q := by
  refine g_156_64_sk_p84_0 o b (by omega) (by omega) (zG_T hI) ?_
  refine ⟨((zG_r hI (by decide)).trans hr), ?_⟩
  refine ⟨((zG_r hI (by decide)).trans hr), ?_⟩
  have b1 := i_bd o
  refine sp_149_64_sk (R := (mR S 70)) (a7 := (aS 75 S)) (a8 := (aS 88 S)) (kk := (kC S)) (o) (by omega) (by omega) (zB_dn_zI hI) (show xB S (mR S 70) from by first | (exact (xC_o (W := 75) hpre0).2)) (show aS 75 S = (aS 75 S) from by first | (exact rfl)) (show aS 88 S = (aS 88 S) from by first | (exact rfl)) (show kC S = (kC S) from by first | (exact rfl)) (fun v2 S1 hL_S1 hq_v2 rp0_S1 rp1_S1 rp2_S1 rp3_S1 rp4_S1 => zo_n ⟨zG_T hL_S1, ?_⟩) (fun x S9 hx h9 rx0 rx1 rx2 rx3 => by have h9u := (zB_up_zI hI h9); exact zo_x (KX x S9 (by omega) h9u (show xB S9 (mR S9 70) from by first | (exact xB_x (xC_o (W := 75) rx0).2)) (show aS 88 S9 = ab from by first | (exact rx1.trans hpre1)) (show cC ab [] (kC S9) B from by first | (rw [rx2]; exact hpre2)) (show (x = 4 ∧ ¬ zRq ab o) ∨ (x = 6 ∧ zRq ab o ∧ b = 0 ∧ ab 133 o.toNatClampNeg = 0) from by first | (exact Or.inl ⟨rx3.1, rq_no rx3.2 hpre1⟩)) (show zfP 84 (mI S9) = fq from by first | (exact ((zf_fr (P := 84) (fun _ => zG_z h9 rfl)).trans hpre6)))))
  have hI_S1 := zB_up_zI hI hL_S1
  have rp0_S1 : xB S1 (mR S 70) := by
    have z := rp0_S1
    (try rw [show mI S 65 = f 65 from funext (fun k => zG_z hI rfl)] at z)
    (try rw [show mI S 64 1 = f 64 1 from zG_z hI rfl] at z)
    exact z
  have rp1_S1 : aS 88 S1 = (aS 88 S) := by
    have z := rp1_S1
    (try rw [show mI S 65 = f 65 from funext (fun k => zG_z hI rfl)] at z)
    (try rw [show mI S 64 1 = f 64 1 from zG_z hI rfl] at z)
    exact z
  have rp2_S1 : v2 = zTa (mR S 70) o := by
    have z := rp2_S1
    (try rw [show mI S 65 = f 65 from funext (fun k => zG_z hI rfl)] at z)
    (try rw [show mI S 64 1 = f 64 1 from zG_z hI rfl] at z)
    exact z
  have rp3_S1 : zRq (aS 75 S) o := by
    have z := rp3_S1
    (try rw [show mI S 65 = f 65 from funext (fun k => zG_z hI rfl)] at z)
    (try rw [show mI S 64 1 = f 64 1 from zG_z hI rfl] at z)
    exact z
  have rp4_S1 : kC S1 = (kC S) := by
    have z := rp4_S1
    (try rw [show mI S 65 = f 65 from funext (fun k => zG_z hI rfl)] at z)
    (try rw [show mI S 64 1 = f 64 1 from zG_z hI rfl] at z)
    exact z
  obtain ⟨c3, hc, th_c3⟩ := hq_v2
  have rg_c3 : zTa (mR S 70) o = some c3 := rp2_S1.symm.trans hc
  refine ⟨c3, hc, ?_⟩
  have b2 := i_bd b
  have li3 : (0 : Int32).toInt = 0 := rfl
  refine zd (fun h4 => ?_) (fun h4 => ?_)
  · skip
    have g5 := i_eq h4
    refine ⟨zG_n hI_S1 th_c3, ?_⟩
    have b6 := i_bd (mI S1 c3 7)
    refine zd (fun h7 => ?_) (fun h7 => ?_)
    · skip
      have g8 := i_eq h7
      exact KX 6 _ (by decide) hI_S1 (show xB S1 (mR S1 70) from by first | (exact xB_x (xC_o (W := 75) rp0_S1).2)) (show aS 88 S1 = ab from by first | (exact (xC_o (W := 88) rp0_S1).1.trans (rp1_S1.trans hpre1))) (show cC ab [] (kC S1) B from by first | (rw [(xK_o (W := 88) rp0_S1 rfl).2, rp4_S1]; exact hpre2) | (exact hpre2)) (show (6 = 4 ∧ ¬ zRq ab o) ∨ (6 = 6 ∧ zRq ab o ∧ b = 0 ∧ ab 133 o.toNatClampNeg = 0) from by first | (have ty := xB_th (W := 88) rp0_S1 rg_c3; have e7 := ty.2.2.2.2.2.2.1; rw [(rp1_S1.trans hpre1)] at e7; exact Or.inr ⟨rfl, (rq_up rp3_S1 hpre1), by assumption, by rw [← e7]; assumption⟩)) (show zfP 84 (mI S1) = fq from by first | (exact ((zf_fr (P := 84) (S' := S1) (S := S) (fun _ => zG_z hL_S1 rfl)).trans hpre6)))
    · skip
      have g9 := i_ne h7
      refine zd (fun h10 => ?_) (fun h10 => ?_)
      · skip
        have g11 := i_eq h10
        have li12 : (-1 : Int32).toInt = -1 := rfl
        refine sp_97_69_sk (ab := (aS 88 S1)) (R := (mR S 70)) (W := 88) (y := (o)) (kk := (kC S1)) c3 ((-1 : Int32)) (by omega) (by omega) (zB_dn_zI hI_S1) th_c3 (show xB S1 (mR S 70) from by first | (exact (xC_o (W := 75) rp0_S1).2)) (show aS 88 S1 = (aS 88 S1) from by first | (exact rfl)) (show xW 88 from by first | (exact xW88) | (exact xW75)) (show zTa (mR S 70) (o) = some c3 from by first | (exact rg_c3)) (show kC S1 = (kC S1) from by first | (exact rfl)) (fun S12 hL_S12 rp0_S12 rp1_S12 rp2_S12 => zv_n ⟨zG_T hL_S12, ?_⟩)
        have hI_S12 := zB_up_zI hI_S1 hL_S12
        have rp0_S12 : xB S12 (mR S 70) := by
          have z := rp0_S12
          (try rw [show mI S1 65 = f 65 from funext (fun k => zG_z hI_S1 rfl)] at z)
          (try rw [show mI S1 64 1 = f 64 1 from zG_z hI_S1 rfl] at z)
          exact z
        have rp1_S12 : aS 88 S12 = ma_u (aS 88 S1) 133 (o).toNatClampNeg ((aS 88 S1) 133 (o).toNatClampNeg + (-1 : Int32)) := by
          have z := rp1_S12
          (try rw [show mI S1 65 = f 65 from funext (fun k => zG_z hI_S1 rfl)] at z)
          (try rw [show mI S1 64 1 = f 64 1 from zG_z hI_S1 rfl] at z)
          exact z
        have rp2_S12 : ∀ n, kC S12 n = (kC S1) n + (if n = (o).toNatClampNeg then (-1 : Int32) else 0) := by
          have z := rp2_S12
          (try rw [show mI S1 65 = f 65 from funext (fun k => zG_z hI_S1 rfl)] at z)
          (try rw [show mI S1 64 1 = f 64 1 from zG_z hI_S1 rfl] at z)
          exact z
        refine sp_24_84_sk (ab := (aS 88 S12)) (W := 88) (kk := (kC S12)) (y := (o)) (B := (B + 1)) (fq := (zfP 84 (mI S12))) (n0 := (zN0 S12)) ((some c3)) (by omega) (by omega) (zB_dn_zJ84 hI_S12) (fun _ z => by cases z; exact th_c3) (show xB S12 (mR S12 70) from by first | (exact xB_x (xC_o (W := 88) rp0_S12).2)) (show aS 88 S12 = (aS 88 S12) from by first | (exact rfl)) (show xW 88 from by first | (exact xW88) | (exact xW75)) (show (some c3) = zTa (mR S12 70) (o) from by first | (rw [rp0_S12.1]; exact rg_c3.symm) | (exact rg_c3.symm)) (show kC S12 = (kC S12) from by first | (exact rfl)) (show cC (aS 88 S12) [] (kC S12) (B + 1) from by first | (have hl := rp1_S12; rw [(rp1_S1.trans hpre1)] at hl; have e7 := (xB_th (W := 88) rp0_S1 rg_c3).2.2.2.2.2.2.1; rw [(rp1_S1.trans hpre1)] at e7; rw [hl]; refine C_hx hpre2 (by have q := (rq_up rp3_S1 hpre1); exact al_of q) hpre3 (Or.inr ⟨rfl, by rw [← e7]; assumption⟩) (fun n => ?_); have q := rp2_S12 n; rw [rp4_S1] at q; exact q) | (exact absurd (show b = 0 by assumption) (show ¬ b = 0 by assumption))) (show cOk (aS 88 S12) (o) from by first | (have hl := rp1_S12; rw [(rp1_S1.trans hpre1)] at hl; rw [hl]; exact (cOk_cg (u_al (by decide))).mpr (Or.inr (by have q := (rq_up rp3_S1 hpre1); exact al_of q)))) (show (B + 1) ≤ 1000000 from by first | (exact hpre3)) (show zfP 84 (mI S12) = (zfP 84 (mI S12)) from by first | (exact rfl)) (show zN0 S12 = (zN0 S12) from by first | (exact rfl)) (fun S14 hL_S14 rp0_S14 rp1_S14 rp2_S14 rp3_S14 => zv_n ⟨zG_T hL_S14, ?_⟩)
        have hI_S14 := zB_up_zJ84 hI_S12 hL_S14
        have rp0_S14 : xB S14 (mR S14 70) := by
          have z := rp0_S14
          (try rw [show mI S12 65 = f 65 from funext (fun k => zG_z hI_S12 rfl)] at z)
          (try rw [show mI S12 64 1 = f 64 1 from zG_z hI_S12 rfl] at z)
          exact z
        have rp1_S14 : aS 88 S14 = cLe (aS 88 S12) (o) ∧ cC (aS 88 S14) [] (kC S14) (B + 1) := by
          have z := rp1_S14
          (try rw [show mI S12 65 = f 65 from funext (fun k => zG_z hI_S12 rfl)] at z)
          (try rw [show mI S12 64 1 = f 64 1 from zG_z hI_S12 rfl] at z)
          exact z
        have rp2_S14 : zfP 84 (mI S14) = (zfP 84 (mI S12)) := by
          have z := rp2_S14
          (try rw [show mI S12 65 = f 65 from funext (fun k => zG_z hI_S12 rfl)] at z)
          (try rw [show mI S12 64 1 = f 64 1 from zG_z hI_S12 rfl] at z)
          exact z
        have rp3_S14 : zN0 S14 = (zN0 S12) := by
          have z := rp3_S14
          (try rw [show mI S12 65 = f 65 from funext (fun k => zG_z hI_S12 rfl)] at z)
          (try rw [show mI S12 64 1 = f 64 1 from zG_z hI_S12 rfl] at z)
          exact z
        refine ⟨zG_n hI_S14 th_c3, ?_⟩
        have b13 := i_bd (mI S14 c3 7)
        exact K ((mI S14 c3 7)) _ hI_S14 trivial (show xB S14 (mR S14 70) from by first | (exact xB_x (xC_o (W := 75) rp0_S14).2)) (show cC (aS 88 S14) [] (kC S14) (B + 1) from by first | (exfalso; omega) | (exact rp1_S14.2)) (show zRq ab o ∧ (¬ b = 0 ∨ ¬ ab 133 o.toNatClampNeg = 0) ∧ aS 88 S14 = cLe (ma_u ab 133 o.toNatClampNeg (ab 133 o.toNatClampNeg + (if b = 0 then -1 else 1))) o ∧ (mI S14 c3 7) = ab 133 o.toNatClampNeg + (if b = 0 then -1 else 1) from by first | (exfalso; omega) | (have ty := xB_th (W := 88) rp0_S1 rg_c3; have e7 := ty.2.2.2.2.2.2.1; rw [(rp1_S1.trans hpre1)] at e7; have t2 := xB_th (W := 88) rp0_S12 rg_c3; have f7 := t2.2.2.2.2.2.2.1; have hl := rp1_S12; rw [(rp1_S1.trans hpre1)] at hl; rw [hl, xu_s] at f7; have v7 := (n0_k rp3_S14 th_c3.1 (Or.inr rfl)).trans f7; have np := rp1_S14.1; rw [hl] at np; refine ⟨(rq_up rp3_S1 hpre1), Or.inl (by assumption), ?_, ?_⟩; (rw [np, if_neg (by assumption)]); (rw [if_neg (by assumption)]; exact v7)) | (have ty := xB_th (W := 88) rp0_S1 rg_c3; have e7 := ty.2.2.2.2.2.2.1; rw [(rp1_S1.trans hpre1)] at e7; have t2 := xB_th (W := 88) rp0_S12 rg_c3; have f7 := t2.2.2.2.2.2.2.1; have hl := rp1_S12; rw [(rp1_S1.trans hpre1)] at hl; rw [hl, xu_s] at f7; have v7 := (n0_k rp3_S14 th_c3.1 (Or.inr rfl)).trans f7; have np := rp1_S14.1; rw [hl] at np; refine ⟨(rq_up rp3_S1 hpre1), Or.inr (by rw [← e7]; assumption), ?_, ?_⟩; (rw [np, if_pos (by assumption)]); (rw [if_pos (by assumption)]; exact v7))) (show zfP 84 (mI S14) = fq from by first | (exact (rp2_S14.trans ((zf_fr (P := 84) (S' := S12) (S := S1) (fun _ => zG_z hL_S12 rfl)).trans ((zf_fr (P := 84) (S' := S1) (S := S) (fun _ => zG_z hL_S1 rfl)).trans hpre6)))))
      · skip
        have g14 := i_ne h10
        have li15 : (1 : Int32).toInt = 1 := rfl
        refine sp_97_69_sk (ab := (aS 88 S1)) (R := (mR S 70)) (W := 88) (y := (o)) (kk := (kC S1)) c3 ((1 : Int32)) (by omega) (by omega) (zB_dn_zI hI_S1) th_c3 (show xB S1 (mR S 70) from by first | (exact (xC_o (W := 75) rp0_S1).2)) (show aS 88 S1 = (aS 88 S1) from by first | (exact rfl)) (show xW 88 from by first | (exact xW88) | (exact xW75)) (show zTa (mR S 70) (o) = some c3 from by first | (exact rg_c3)) (show kC S1 = (kC S1) from by first | (exact rfl)) (fun S16 hL_S16 rp0_S16 rp1_S16 rp2_S16 => zv_n ⟨zG_T hL_S16, ?_⟩)
        have hI_S16 := zB_up_zI hI_S1 hL_S16
        have rp0_S16 : xB S16 (mR S 70) := by
          have z := rp0_S16
          (try rw [show mI S1 65 = f 65 from funext (fun k => zG_z hI_S1 rfl)] at z)
          (try rw [show mI S1 64 1 = f 64 1 from zG_z hI_S1 rfl] at z)
          exact z
        have rp1_S16 : aS 88 S16 = ma_u (aS 88 S1) 133 (o).toNatClampNeg ((aS 88 S1) 133 (o).toNatClampNeg + (1 : Int32)) := by
          have z := rp1_S16
          (try rw [show mI S1 65 = f 65 from funext (fun k => zG_z hI_S1 rfl)] at z)
          (try rw [show mI S1 64 1 = f 64 1 from zG_z hI_S1 rfl] at z)
          exact z
        have rp2_S16 : ∀ n, kC S16 n = (kC S1) n + (if n = (o).toNatClampNeg then (1 : Int32) else 0) := by
          have z := rp2_S16
          (try rw [show mI S1 65 = f 65 from funext (fun k => zG_z hI_S1 rfl)] at z)
          (try rw [show mI S1 64 1 = f 64 1 from zG_z hI_S1 rfl] at z)
          exact z
        refine sp_24_84_sk (ab := (aS 88 S16)) (W := 88) (kk := (kC S16)) (y := (o)) (B := (B + 1)) (fq := (zfP 84 (mI S16))) (n0 := (zN0 S16)) ((some c3)) (by omega) (by omega) (zB_dn_zJ84 hI_S16) (fun _ z => by cases z; exact th_c3) (show xB S16 (mR S16 70) from by first | (exact xB_x (xC_o (W := 88) rp0_S16).2)) (show aS 88 S16 = (aS 88 S16) from by first | (exact rfl)) (show xW 88 from by first | (exact xW88) | (exact xW75)) (show (some c3) = zTa (mR S16 70) (o) from by first | (rw [rp0_S16.1]; exact rg_c3.symm) | (exact rg_c3.symm)) (show kC S16 = (kC S16) from by first | (exact rfl)) (show cC (aS 88 S16) [] (kC S16) (B + 1) from by first | (have hl := rp1_S16; rw [(rp1_S1.trans hpre1)] at hl; have e7 := (xB_th (W := 88) rp0_S1 rg_c3).2.2.2.2.2.2.1; rw [(rp1_S1.trans hpre1)] at e7; rw [hl]; refine C_hx hpre2 (by have q := (rq_up rp3_S1 hpre1); exact al_of q) hpre3 (Or.inl rfl) (fun n => ?_); have q := rp2_S16 n; rw [rp4_S1] at q; exact q) | (exact absurd (show b = 0 by assumption) (show ¬ b = 0 by assumption))) (show cOk (aS 88 S16) (o) from by first | (have hl := rp1_S16; rw [(rp1_S1.trans hpre1)] at hl; rw [hl]; exact (cOk_cg (u_al (by decide))).mpr (Or.inr (by have q := (rq_up rp3_S1 hpre1); exact al_of q)))) (show (B + 1) ≤ 1000000 from by first | (exact hpre3)) (show zfP 84 (mI S16) = (zfP 84 (mI S16)) from by first | (exact rfl)) (show zN0 S16 = (zN0 S16) from by first | (exact rfl)) (fun S18 hL_S18 rp0_S18 rp1_S18 rp2_S18 rp3_S18 => zv_n ⟨zG_T hL_S18, ?_⟩)
        have hI_S18 := zB_up_zJ84 hI_S16 hL_S18
        have rp0_S18 : xB S18 (mR S18 70) := by
          have z := rp0_S18
          (try rw [show mI S16 65 = f 65 from funext (fun k => zG_z hI_S16 rfl)] at z)
          (try rw [show mI S16 64 1 = f 64 1 from zG_z hI_S16 rfl] at z)
          exact z
        have rp1_S18 : aS 88 S18 = cLe (aS 88 S16) (o) ∧ cC (aS 88 S18) [] (kC S18) (B + 1) := by
          have z := rp1_S18
          (try rw [show mI S16 65 = f 65 from funext (fun k => zG_z hI_S16 rfl)] at z)
          (try rw [show mI S16 64 1 = f 64 1 from zG_z hI_S16 rfl] at z)
          exact z
        have rp2_S18 : zfP 84 (mI S18) = (zfP 84 (mI S16)) := by
          have z := rp2_S18
          (try rw [show mI S16 65 = f 65 from funext (fun k => zG_z hI_S16 rfl)] at z)
          (try rw [show mI S16 64 1 = f 64 1 from zG_z hI_S16 rfl] at z)
          exact z
        have rp3_S18 : zN0 S18 = (zN0 S16) := by
          have z := rp3_S18
          (try rw [show mI S16 65 = f 65 from funext (fun k => zG_z hI_S16 rfl)] at z)
          (try rw [show mI S16 64 1 = f 64 1 from zG_z hI_S16 rfl] at z)
          exact z
        refine ⟨zG_n hI_S18 th_c3, ?_⟩
        have b16 := i_bd (mI S18 c3 7)
        exact K ((mI S18 c3 7)) _ hI_S18 trivial (show xB S18 (mR S18 70) from by first | (exact xB_x (xC_o (W := 75) rp0_S18).2)) (show cC (aS 88 S18) [] (kC S18) (B + 1) from by first | (exfalso; omega) | (exact rp1_S18.2)) (show zRq ab o ∧ (¬ b = 0 ∨ ¬ ab 133 o.toNatClampNeg = 0) ∧ aS 88 S18 = cLe (ma_u ab 133 o.toNatClampNeg (ab 133 o.toNatClampNeg + (if b = 0 then -1 else 1))) o ∧ (mI S18 c3 7) = ab 133 o.toNatClampNeg + (if b = 0 then -1 else 1) from by first | (exfalso; omega) | (have ty := xB_th (W := 88) rp0_S1 rg_c3; have e7 := ty.2.2.2.2.2.2.1; rw [(rp1_S1.trans hpre1)] at e7; have t2 := xB_th (W := 88) rp0_S16 rg_c3; have f7 := t2.2.2.2.2.2.2.1; have hl := rp1_S16; rw [(rp1_S1.trans hpre1)] at hl; rw [hl, xu_s] at f7; have v7 := (n0_k rp3_S18 th_c3.1 (Or.inr rfl)).trans f7; have np := rp1_S18.1; rw [hl] at np; refine ⟨(rq_up rp3_S1 hpre1), Or.inl (by assumption), ?_, ?_⟩; (rw [np, if_neg (by assumption)]); (rw [if_neg (by assumption)]; exact v7)) | (have ty := xB_th (W := 88) rp0_S1 rg_c3; have e7 := ty.2.2.2.2.2.2.1; rw [(rp1_S1.trans hpre1)] at e7; have t2 := xB_th (W := 88) rp0_S16 rg_c3; have f7 := t2.2.2.2.2.2.2.1; have hl := rp1_S16; rw [(rp1_S1.trans hpre1)] at hl; rw [hl, xu_s] at f7; have v7 := (n0_k rp3_S18 th_c3.1 (Or.inr rfl)).trans f7; have np := rp1_S18.1; rw [hl] at np; refine ⟨(rq_up rp3_S1 hpre1), Or.inr (by rw [← e7]; assumption), ?_, ?_⟩; (rw [np, if_pos (by assumption)]); (rw [if_pos (by assumption)]; exact v7))) (show zfP 84 (mI S18) = fq from by first | (exact (rp2_S18.trans ((zf_fr (P := 84) (S' := S16) (S := S1) (fun _ => zG_z hL_S16 rfl)).trans ((zf_fr (P := 84) (S' := S1) (S := S) (fun _ => zG_z hL_S1 rfl)).trans hpre6)))))
  · skip
    have g17 := i_ne h4
    refine zd (fun h18 => ?_) (fun h18 => ?_)
    · skip
      have g19 := i_eq h18
      have li20 : (-1 : Int32).toInt = -1 := rfl
      refine sp_97_69_sk (ab := (aS 88 S1)) (R := (mR S 70)) (W := 88) (y := (o)) (kk := (kC S1)) c3 ((-1 : Int32)) (by omega) (by omega) (zB_dn_zI hI_S1) th_c3 (show xB S1 (mR S 70) from by first | (exact (xC_o (W := 75) rp0_S1).2)) (show aS 88 S1 = (aS 88 S1) from by first | (exact rfl)) (show xW 88 from by first | (exact xW88) | (exact xW75)) (show zTa (mR S 70) (o) = some c3 from by first | (exact rg_c3)) (show kC S1 = (kC S1) from by first | (exact rfl)) (fun S4 hL_S4 rp0_S4 rp1_S4 rp2_S4 => zv_n ⟨zG_T hL_S4, ?_⟩)
      have hI_S4 := zB_up_zI hI_S1 hL_S4
      have rp0_S4 : xB S4 (mR S 70) := by
        have z := rp0_S4
        (try rw [show mI S1 65 = f 65 from funext (fun k => zG_z hI_S1 rfl)] at z)
        (try rw [show mI S1 64 1 = f 64 1 from zG_z hI_S1 rfl] at z)
        exact z
      have rp1_S4 : aS 88 S4 = ma_u (aS 88 S1) 133 (o).toNatClampNeg ((aS 88 S1) 133 (o).toNatClampNeg + (-1 : Int32)) := by
        have z := rp1_S4
        (try rw [show mI S1 65 = f 65 from funext (fun k => zG_z hI_S1 rfl)] at z)
        (try rw [show mI S1 64 1 = f 64 1 from zG_z hI_S1 rfl] at z)
        exact z
      have rp2_S4 : ∀ n, kC S4 n = (kC S1) n + (if n = (o).toNatClampNeg then (-1 : Int32) else 0) := by
        have z := rp2_S4
        (try rw [show mI S1 65 = f 65 from funext (fun k => zG_z hI_S1 rfl)] at z)
        (try rw [show mI S1 64 1 = f 64 1 from zG_z hI_S1 rfl] at z)
        exact z
      refine sp_24_84_sk (ab := (aS 88 S4)) (W := 88) (kk := (kC S4)) (y := (o)) (B := (B + 1)) (fq := (zfP 84 (mI S4))) (n0 := (zN0 S4)) ((some c3)) (by omega) (by omega) (zB_dn_zJ84 hI_S4) (fun _ z => by cases z; exact th_c3) (show xB S4 (mR S4 70) from by first | (exact xB_x (xC_o (W := 88) rp0_S4).2)) (show aS 88 S4 = (aS 88 S4) from by first | (exact rfl)) (show xW 88 from by first | (exact xW88) | (exact xW75)) (show (some c3) = zTa (mR S4 70) (o) from by first | (rw [rp0_S4.1]; exact rg_c3.symm) | (exact rg_c3.symm)) (show kC S4 = (kC S4) from by first | (exact rfl)) (show cC (aS 88 S4) [] (kC S4) (B + 1) from by first | (have hl := rp1_S4; rw [(rp1_S1.trans hpre1)] at hl; have e7 := (xB_th (W := 88) rp0_S1 rg_c3).2.2.2.2.2.2.1; rw [(rp1_S1.trans hpre1)] at e7; rw [hl]; refine C_hx hpre2 (by have q := (rq_up rp3_S1 hpre1); exact al_of q) hpre3 (Or.inr ⟨rfl, by rw [← e7]; assumption⟩) (fun n => ?_); have q := rp2_S4 n; rw [rp4_S1] at q; exact q) | (exact absurd (show b = 0 by assumption) (show ¬ b = 0 by assumption))) (show cOk (aS 88 S4) (o) from by first | (have hl := rp1_S4; rw [(rp1_S1.trans hpre1)] at hl; rw [hl]; exact (cOk_cg (u_al (by decide))).mpr (Or.inr (by have q := (rq_up rp3_S1 hpre1); exact al_of q)))) (show (B + 1) ≤ 1000000 from by first | (exact hpre3)) (show zfP 84 (mI S4) = (zfP 84 (mI S4)) from by first | (exact rfl)) (show zN0 S4 = (zN0 S4) from by first | (exact rfl)) (fun S6 hL_S6 rp0_S6 rp1_S6 rp2_S6 rp3_S6 => zv_n ⟨zG_T hL_S6, ?_⟩)
      have hI_S6 := zB_up_zJ84 hI_S4 hL_S6
      have rp0_S6 : xB S6 (mR S6 70) := by
        have z := rp0_S6
        (try rw [show mI S4 65 = f 65 from funext (fun k => zG_z hI_S4 rfl)] at z)
        (try rw [show mI S4 64 1 = f 64 1 from zG_z hI_S4 rfl] at z)
        exact z
      have rp1_S6 : aS 88 S6 = cLe (aS 88 S4) (o) ∧ cC (aS 88 S6) [] (kC S6) (B + 1) := by
        have z := rp1_S6
        (try rw [show mI S4 65 = f 65 from funext (fun k => zG_z hI_S4 rfl)] at z)
        (try rw [show mI S4 64 1 = f 64 1 from zG_z hI_S4 rfl] at z)
        exact z
      have rp2_S6 : zfP 84 (mI S6) = (zfP 84 (mI S4)) := by
        have z := rp2_S6
        (try rw [show mI S4 65 = f 65 from funext (fun k => zG_z hI_S4 rfl)] at z)
        (try rw [show mI S4 64 1 = f 64 1 from zG_z hI_S4 rfl] at z)
        exact z
      have rp3_S6 : zN0 S6 = (zN0 S4) := by
        have z := rp3_S6
        (try rw [show mI S4 65 = f 65 from funext (fun k => zG_z hI_S4 rfl)] at z)
        (try rw [show mI S4 64 1 = f 64 1 from zG_z hI_S4 rfl] at z)
        exact z
      refine ⟨zG_n hI_S6 th_c3, ?_⟩
      have b21 := i_bd (mI S6 c3 7)
      exact K ((mI S6 c3 7)) _ hI_S6 trivial (show xB S6 (mR S6 70) from by first | (exact xB_x (xC_o (W := 75) rp0_S6).2)) (show cC (aS 88 S6) [] (kC S6) (B + 1) from by first | (exfalso; omega) | (exact rp1_S6.2)) (show zRq ab o ∧ (¬ b = 0 ∨ ¬ ab 133 o.toNatClampNeg = 0) ∧ aS 88 S6 = cLe (ma_u ab 133 o.toNatClampNeg (ab 133 o.toNatClampNeg + (if b = 0 then -1 else 1))) o ∧ (mI S6 c3 7) = ab 133 o.toNatClampNeg + (if b = 0 then -1 else 1) from by first | (exfalso; omega) | (have ty := xB_th (W := 88) rp0_S1 rg_c3; have e7 := ty.2.2.2.2.2.2.1; rw [(rp1_S1.trans hpre1)] at e7; have t2 := xB_th (W := 88) rp0_S4 rg_c3; have f7 := t2.2.2.2.2.2.2.1; have hl := rp1_S4; rw [(rp1_S1.trans hpre1)] at hl; rw [hl, xu_s] at f7; have v7 := (n0_k rp3_S6 th_c3.1 (Or.inr rfl)).trans f7; have np := rp1_S6.1; rw [hl] at np; refine ⟨(rq_up rp3_S1 hpre1), Or.inl (by assumption), ?_, ?_⟩; (rw [np, if_neg (by assumption)]); (rw [if_neg (by assumption)]; exact v7)) | (have ty := xB_th (W := 88) rp0_S1 rg_c3; have e7 := ty.2.2.2.2.2.2.1; rw [(rp1_S1.trans hpre1)] at e7; have t2 := xB_th (W := 88) rp0_S4 rg_c3; have f7 := t2.2.2.2.2.2.2.1; have hl := rp1_S4; rw [(rp1_S1.trans hpre1)] at hl; rw [hl, xu_s] at f7; have v7 := (n0_k rp3_S6 th_c3.1 (Or.inr rfl)).trans f7; have np := rp1_S6.1; rw [hl] at np; refine ⟨(rq_up rp3_S1 hpre1), Or.inr (by rw [← e7]; assumption), ?_, ?_⟩; (rw [np, if_pos (by assumption)]); (rw [if_pos (by assumption)]; exact v7))) (show zfP 84 (mI S6) = fq from by first | (exact (rp2_S6.trans ((zf_fr (P := 84) (S' := S4) (S := S1) (fun _ => zG_z hL_S4 rfl)).trans ((zf_fr (P := 84) (S' := S1) (S := S) (fun _ => zG_z hL_S1 rfl)).trans hpre6)))))
    · skip
      have g22 := i_ne h18
      have li23 : (1 : Int32).toInt = 1 := rfl
      refine sp_97_69_sk (ab := (aS 88 S1)) (R := (mR S 70)) (W := 88) (y := (o)) (kk := (kC S1)) c3 ((1 : Int32)) (by omega) (by omega) (zB_dn_zI hI_S1) th_c3 (show xB S1 (mR S 70) from by first | (exact (xC_o (W := 75) rp0_S1).2)) (show aS 88 S1 = (aS 88 S1) from by first | (exact rfl)) (show xW 88 from by first | (exact xW88) | (exact xW75)) (show zTa (mR S 70) (o) = some c3 from by first | (exact rg_c3)) (show kC S1 = (kC S1) from by first | (exact rfl)) (fun S8 hL_S8 rp0_S8 rp1_S8 rp2_S8 => zv_n ⟨zG_T hL_S8, ?_⟩)
      have hI_S8 := zB_up_zI hI_S1 hL_S8
      have rp0_S8 : xB S8 (mR S 70) := by
        have z := rp0_S8
        (try rw [show mI S1 65 = f 65 from funext (fun k => zG_z hI_S1 rfl)] at z)
        (try rw [show mI S1 64 1 = f 64 1 from zG_z hI_S1 rfl] at z)
        exact z
      have rp1_S8 : aS 88 S8 = ma_u (aS 88 S1) 133 (o).toNatClampNeg ((aS 88 S1) 133 (o).toNatClampNeg + (1 : Int32)) := by
        have z := rp1_S8
        (try rw [show mI S1 65 = f 65 from funext (fun k => zG_z hI_S1 rfl)] at z)
        (try rw [show mI S1 64 1 = f 64 1 from zG_z hI_S1 rfl] at z)
        exact z
      have rp2_S8 : ∀ n, kC S8 n = (kC S1) n + (if n = (o).toNatClampNeg then (1 : Int32) else 0) := by
        have z := rp2_S8
        (try rw [show mI S1 65 = f 65 from funext (fun k => zG_z hI_S1 rfl)] at z)
        (try rw [show mI S1 64 1 = f 64 1 from zG_z hI_S1 rfl] at z)
        exact z
      refine sp_24_84_sk (ab := (aS 88 S8)) (W := 88) (kk := (kC S8)) (y := (o)) (B := (B + 1)) (fq := (zfP 84 (mI S8))) (n0 := (zN0 S8)) ((some c3)) (by omega) (by omega) (zB_dn_zJ84 hI_S8) (fun _ z => by cases z; exact th_c3) (show xB S8 (mR S8 70) from by first | (exact xB_x (xC_o (W := 88) rp0_S8).2)) (show aS 88 S8 = (aS 88 S8) from by first | (exact rfl)) (show xW 88 from by first | (exact xW88) | (exact xW75)) (show (some c3) = zTa (mR S8 70) (o) from by first | (rw [rp0_S8.1]; exact rg_c3.symm) | (exact rg_c3.symm)) (show kC S8 = (kC S8) from by first | (exact rfl)) (show cC (aS 88 S8) [] (kC S8) (B + 1) from by first | (have hl := rp1_S8; rw [(rp1_S1.trans hpre1)] at hl; have e7 := (xB_th (W := 88) rp0_S1 rg_c3).2.2.2.2.2.2.1; rw [(rp1_S1.trans hpre1)] at e7; rw [hl]; refine C_hx hpre2 (by have q := (rq_up rp3_S1 hpre1); exact al_of q) hpre3 (Or.inl rfl) (fun n => ?_); have q := rp2_S8 n; rw [rp4_S1] at q; exact q) | (exact absurd (show b = 0 by assumption) (show ¬ b = 0 by assumption))) (show cOk (aS 88 S8) (o) from by first | (have hl := rp1_S8; rw [(rp1_S1.trans hpre1)] at hl; rw [hl]; exact (cOk_cg (u_al (by decide))).mpr (Or.inr (by have q := (rq_up rp3_S1 hpre1); exact al_of q)))) (show (B + 1) ≤ 1000000 from by first | (exact hpre3)) (show zfP 84 (mI S8) = (zfP 84 (mI S8)) from by first | (exact rfl)) (show zN0 S8 = (zN0 S8) from by first | (exact rfl)) (fun S10 hL_S10 rp0_S10 rp1_S10 rp2_S10 rp3_S10 => zv_n ⟨zG_T hL_S10, ?_⟩)
      have hI_S10 := zB_up_zJ84 hI_S8 hL_S10
      have rp0_S10 : xB S10 (mR S10 70) := by
        have z := rp0_S10
        (try rw [show mI S8 65 = f 65 from funext (fun k => zG_z hI_S8 rfl)] at z)
        (try rw [show mI S8 64 1 = f 64 1 from zG_z hI_S8 rfl] at z)
        exact z
      have rp1_S10 : aS 88 S10 = cLe (aS 88 S8) (o) ∧ cC (aS 88 S10) [] (kC S10) (B + 1) := by
        have z := rp1_S10
        (try rw [show mI S8 65 = f 65 from funext (fun k => zG_z hI_S8 rfl)] at z)
        (try rw [show mI S8 64 1 = f 64 1 from zG_z hI_S8 rfl] at z)
        exact z
      have rp2_S10 : zfP 84 (mI S10) = (zfP 84 (mI S8)) := by
        have z := rp2_S10
        (try rw [show mI S8 65 = f 65 from funext (fun k => zG_z hI_S8 rfl)] at z)
        (try rw [show mI S8 64 1 = f 64 1 from zG_z hI_S8 rfl] at z)
        exact z
      have rp3_S10 : zN0 S10 = (zN0 S8) := by
        have z := rp3_S10
        (try rw [show mI S8 65 = f 65 from funext (fun k => zG_z hI_S8 rfl)] at z)
        (try rw [show mI S8 64 1 = f 64 1 from zG_z hI_S8 rfl] at z)
        exact z
      refine ⟨zG_n hI_S10 th_c3, ?_⟩
      have b24 := i_bd (mI S10 c3 7)
      exact K ((mI S10 c3 7)) _ hI_S10 trivial (show xB S10 (mR S10 70) from by first | (exact xB_x (xC_o (W := 75) rp0_S10).2)) (show cC (aS 88 S10) [] (kC S10) (B + 1) from by first | (exfalso; omega) | (exact rp1_S10.2)) (show zRq ab o ∧ (¬ b = 0 ∨ ¬ ab 133 o.toNatClampNeg = 0) ∧ aS 88 S10 = cLe (ma_u ab 133 o.toNatClampNeg (ab 133 o.toNatClampNeg + (if b = 0 then -1 else 1))) o ∧ (mI S10 c3 7) = ab 133 o.toNatClampNeg + (if b = 0 then -1 else 1) from by first | (exfalso; omega) | (have ty := xB_th (W := 88) rp0_S1 rg_c3; have e7 := ty.2.2.2.2.2.2.1; rw [(rp1_S1.trans hpre1)] at e7; have t2 := xB_th (W := 88) rp0_S8 rg_c3; have f7 := t2.2.2.2.2.2.2.1; have hl := rp1_S8; rw [(rp1_S1.trans hpre1)] at hl; rw [hl, xu_s] at f7; have v7 := (n0_k rp3_S10 th_c3.1 (Or.inr rfl)).trans f7; have np := rp1_S10.1; rw [hl] at np; refine ⟨(rq_up rp3_S1 hpre1), Or.inl (by assumption), ?_, ?_⟩; (rw [np, if_neg (by assumption)]); (rw [if_neg (by assumption)]; exact v7)) | (have ty := xB_th (W := 88) rp0_S1 rg_c3; have e7 := ty.2.2.2.2.2.2.1; rw [(rp1_S1.trans hpre1)] at e7; have t2 := xB_th (W := 88) rp0_S8 rg_c3; have f7 := t2.2.2.2.2.2.2.1; have hl := rp1_S8; rw [(rp1_S1.trans hpre1)] at hl; rw [hl, xu_s] at f7; have v7 := (n0_k rp3_S10 th_c3.1 (Or.inr rfl)).trans f7; have np := rp1_S10.1; rw [hl] at np; refine ⟨(rq_up rp3_S1 hpre1), Or.inr (by rw [← e7]; assumption), ?_, ?_⟩; (rw [np, if_pos (by assumption)]); (rw [if_pos (by assumption)]; exact v7))) (show zfP 84 (mI S10) = fq from by first | (exact (rp2_S10.trans ((zf_fr (P := 84) (S' := S8) (S := S1) (fun _ => zG_z hL_S8 rfl)).trans ((zf_fr (P := 84) (S' := S1) (S := S) (fun _ => zG_z hL_S1 rfl)).trans hpre6)))))
